/-! ===== the invariant between the class and the reference ===== -/
section ZMO
variable {l : Launch} {y : MethodName} {wsy : List Cond} {rm : Room} {D : va_G} {cl : List vw_C} {tys : List (ClassId × FieldType)} {G : State → (Nat → Prop) → Prop} {av : List Value} {w : va_W} {mc ms : Nat}
theorem zmi_mono {post post2 : Int32 → va_W → Prop} (h : zMi l y wsy rm D cl tys G av w post mc ms) (hp : ∀ r w2, post r w2 → post2 r w2) : zMi l y wsy rm D cl tys G av w post2 mc ms := by
  intro sz p e ha hc hk s m args below hf happ hP ht
  obtain ⟨n, o, h1, h2, h3, ⟨⟨r, u, e1, e2, e3⟩, e4⟩, h5⟩ := h sz p e ha hc hk s m args below hf happ hP ht
  exact ⟨n, o, h1, h2, h3, ⟨⟨r, u, e1, hp r u e2, e3⟩, e4⟩, h5⟩
theorem zmv_mono {post post2 : va_W → Prop} (h : zMv l y wsy rm D cl tys G av w post mc ms) (hp : ∀ w2, post w2 → post2 w2) : zMv l y wsy rm D cl tys G av w post2 mc ms := by
  intro sz p e ha hc hk s m args below hf happ hP ht
  obtain ⟨n, o, h1, h2, h3, ⟨⟨u, e1, e2, e3⟩, e4⟩, h5⟩ := h sz p e ha hc hk s m args below hf happ hP ht
  exact ⟨n, o, h1, h2, h3, ⟨⟨u, e1, hp u e2, e3⟩, e4⟩, h5⟩
end ZMO
theorem zrng {v : Int32} {a b : Nat} (hb : b < 2 ^ 31) (h : nI a ≤ v ∧ v ≤ nI b) (hab : a ≤ b) : ∃ r, (a ≤ r ∧ r ≤ b) ∧ v = nI r := by
  obtain ⟨h1, h2⟩ := h
  have h3 : ¬ v < 0 := by
    rw [Int32.lt_iff_toInt_lt]; rw [Int32.le_iff_toInt_le, nI_toInt (by omega)] at h1
    show ¬ v.toInt < 0
    omega
  obtain ⟨j, hj, rfl⟩ := nI_of h3
  exact ⟨j, ⟨(nI_leI (by omega) hj).mp h1, (nI_leI hj hb).mp h2⟩, rfl⟩
/-- the relations of the units, on both sides -/
def zHW (ap tg hw : Nat → Nat) (nu : Nat) : Prop := (∀ x, hw x ≤ 2) ∧ (∀ a b, a < 8 → b < 8 → hw (8 * a + b) = zrel ap tg a b) ∧ (∀ a b, a < 8 → b < 8 → (ap a).testBit b = (ap b).testBit a) ∧ (∀ a b, a < 8 → b < 8 → (tg a).testBit b = (tg b).testBit a) ∧
  (∀ a b, a < 8 → (ap a).testBit b = true → (tg a).testBit b = false) ∧ (∀ a, a < 8 → (ap a).testBit a = false ∧ (tg a).testBit a = false) ∧ (∀ a b, a < 8 → (ap a).testBit b = true → a < nu ∧ b < nu) ∧ ∀ a b, a < 8 → (tg a).testBit b = true → a < nu ∧ b < nu
/-- the choice, on both sides -/
def zCo (co : Nat → Nat) (nb : Nat) (bn us : Nat → Nat) (nh ct : Nat) (mk ex : Bool) (ch : Option Nat) (em : Bool) (bx : Nat → Option Nat) (sx : Nat → Nat) : Prop :=
  nh ≤ 8 ∧ (∀ i, bn i < 6) ∧ (∀ i, us i < 256) ∧ (∀ i, sx i < 256) ∧ em = (mk && ex) ∧ ch = (bif mk then some nh else none) ∧ (mk = false → nh = 0) ∧ (∀ i, i < nh → bx i = some (bn i) ∧ sx i = us i ∧ bn i < nb) ∧ (mk = true → ct = zct co bx nh)
def zInv (ad am : Nat → Nat) (cA : ClassId) (X M : va_W) : Prop := ∃ (ro lo co ks : Nat → Nat) (nb sl : Nat) (si we ki ap tg : Nat → Nat) (nu : Nat) (bn us : Nat → Nat) (nh ct : Nat) (mk ex : Bool) (ob : Nat → Option Nat) (oc : Nat → Nat) (lc : Nat → Option Nat) (fb fs : Nat → Nat) (cd : Nat) (hw : Nat → Nat) (ch : Option Nat) (em : Bool) (bx : Nat → Option Nat) (sx : Nat → Nat) (cn : Nat) (nx : Nat → Option Nat) (ns pt : Nat → Nat),
  X = wX ad cA ro lo co ks nb sl si we ki ap tg nu bn us nh ct mk ex ob oc lc fb fs ∧ M = wM am cA cd nb ro lo co ks nu si we ki hw sl ch em bx sx cn nx ns pt ∧
  zok ro lo co ks nb sl si we ki ap tg nu ∧ (∀ x, x < nb → 1 ≤ ro x) ∧ zHW ap tg hw nu ∧ zCo co nb bn us nh ct mk ex ch em bx sx ∧ ((∀ x, oc x ≤ 1000) ∧ ∀ x b, ob x = some b → b < 6) ∧ (∀ x, ns x < 256) ∧ ∀ x, pt x < 9
theorem zok0 {ro lo co ks : Nat → Nat} {nb sl : Nat} {si we ki ap tg : Nat → Nat} {nu : Nat} (h : zok ro lo co ks nb sl si we ki ap tg nu) : zok ro lo co ks nb sl si we ki (fun _ => 0) (fun _ => 0) nu :=
  ⟨h.1, h.2.1, h.2.2.1, h.2.2.2.1, h.2.2.2.2.1, h.2.2.2.2.2.1, h.2.2.2.2.2.2.1, h.2.2.2.2.2.2.2.1, h.2.2.2.2.2.2.2.2.1, h.2.2.2.2.2.2.2.2.2.1, fun _ => by show 0 < 256; decide, fun _ => by show 0 < 256; decide⟩
theorem zct_cg {co c2 : Nat → Nat} {f g : Nat → Option Nat} : ∀ n, (∀ i, i < n → c2 ((g i).getD 0) = co ((f i).getD 0)) → zct c2 g n = zct co f n
  | 0, _ => rfl
  | n + 1, h => by
    have e := zct_cg (co := co) (f := f) n (fun i hi => h i (by omega))
    show zct c2 g n + c2 ((g n).getD 0) = zct co f n + co ((f n).getD 0)
    rw [e, h n (by omega)]
theorem zInv_0 (ad am : Nat → Nat) (cA : ClassId) : zInv ad am cA (wX ad cA (fun _ => 0) (fun _ => 0) (fun _ => 0) (fun _ => 0) 0 0 (fun _ => 0) (fun _ => 0) (fun _ => 0) (fun _ => 0) (fun _ => 0) 0 (fun _ => 0) (fun _ => 0) 0 0 false false (fun _ => some 0) (fun _ => 0) (fun _ => some 0) (fun _ => 0) (fun _ => 0)) (wM am cA 0 0 (fun _ => 0) (fun _ => 0) (fun _ => 0) (fun _ => 0) 0 (fun _ => 0) (fun _ => 0) (fun _ => 0) (fun _ => 0) 0 none false (fun _ => some 0) (fun _ => 0) 0 (fun _ => some 0) (fun _ => 0) (fun _ => 0)) := by
  refine ⟨_, _, _, _, _, _, _, _, _, _, _, _, _, _, _, 0, false, false, _, _, _, _, _, _, _, _, _, _, _, _, _, _, _, rfl, rfl, ?_, ?_, ?_, ?_, ?_, ?_, ?_⟩
  · exact ⟨by decide, by decide, by decide, fun _ => by simp, fun _ => by simp, fun _ => by simp, fun _ => by simp, fun _ => by simp, fun _ => by simp, fun _ => by simp, fun _ => by simp, fun _ => by simp⟩
  · intro x hx; omega
  · refine ⟨fun _ => by simp, fun a b _ _ => ?_, fun a b _ _ => ?_, fun a b _ _ => ?_, fun a b _ h => ?_, fun a _ => ?_, fun a b _ h => ?_, fun a b _ h => ?_⟩
    · simp [zrel]
    · simp
    · simp
    · simp at h
    · simp
    · simp at h
    · simp at h
  · exact ⟨by decide, fun _ => by simp, fun _ => by simp, fun _ => by simp, rfl, rfl, fun _ => rfl, fun i hi => by omega, fun h => by cases h⟩
  · exact ⟨fun _ => by simp, fun x b h => by cases h; decide⟩
  · exact fun _ => by simp
  · exact fun _ => by simp
