/-! ===== the class's table: the least way of each set ===== -/
def zPth (fs : Nat → Nat) : Nat → List Nat → Prop
  | s, [] => s = 0
  | s, f :: w => ¬ s = 0 ∧ fs s = f ∧ zPth fs (zd s f) w
theorem zPth_cg {fs f2 : Nat → Nat} : ∀ (w : List Nat) (s : Nat), (∀ x, x ≤ s → fs x = f2 x) → zPth fs s w → zPth f2 s w
  | [], _, _, h => h
  | f :: w, s, e, h => ⟨h.1, (e s (Nat.le_refl _)).symm.trans h.2.1, zPth_cg w (zd s f) (fun x hx => e x (Nat.le_trans hx (zd_le s f))) h.2.2⟩
/-- the table is right at s -/
def zTb (O : Nat → Option Nat) (co : Nat → Nat) (t : zT) (s : Nat) : Prop := (t.1 s = none ∧ ∀ v, v ∈ zWs 64 s → ¬ zfea O v) ∨ ∃ w, zPth t.2.2 s w ∧ w ∈ zWs 64 s ∧ zfea O w ∧ t.1 s = some (zwC O co w) ∧ t.2.1 s = w.length ∧ ∀ v, v ∈ zWs 64 s → zfea O v → ¬ zLt O co v w
theorem zTb_cg {O : Nat → Option Nat} {co : Nat → Nat} {t t2 : zT} {s : Nat} (e : ∀ x, x ≤ s → t.1 x = t2.1 x ∧ t.2.1 x = t2.2.1 x ∧ t.2.2 x = t2.2.2 x) (h : zTb O co t s) : zTb O co t2 s := by
  obtain ⟨e1, e2, _⟩ := e s (Nat.le_refl _)
  rcases h with ⟨h1, h2⟩ | ⟨w, h1, h2, h3, h4, h5, h6⟩
  · exact Or.inl ⟨by rw [← e1]; exact h1, h2⟩
  · exact Or.inr ⟨w, zPth_cg w s (fun x hx => (e x hx).2.2) h1, h2, h3, by rw [← e1]; exact h4, by rw [← e2]; exact h5, h6⟩
/-- the table at s with the first sets below F tried -/
def zIn (O : Nat → Option Nat) (co : Nat → Nat) (t : zT) (s F : Nat) : Prop := (t.1 s = none ∧ ∀ f, f ∈ zcan s → f < F → ∀ w, w ∈ zWs 64 (zd s f) → ¬ zfea O (f :: w)) ∨ ∃ w, zPth t.2.2 (zd s (t.2.2 s)) w ∧ t.2.2 s ∈ zcan s ∧ t.2.2 s < F ∧ w ∈ zWs 64 (zd s (t.2.2 s)) ∧ zfea O (t.2.2 s :: w) ∧ t.1 s = some (zwC O co (t.2.2 s :: w)) ∧ t.2.1 s = w.length + 1 ∧ ∀ f, f ∈ zcan s → f < F → ∀ v, v ∈ zWs 64 (zd s f) → zfea O (f :: v) → ¬ zLt O co (f :: v) (t.2.2 s :: w)
theorem zcan_lt {s f : Nat} (h : f ∈ zcan s) : zd s f < s := by
  obtain ⟨h1, h2, h3⟩ := zcan_mem.mp h
  apply zd_lt
  intro q
  apply h3
  apply Nat.eq_of_testBit_eq
  intro i
  have := congrArg (fun x => x.testBit i) q
  rw [Nat.testBit_and, Nat.zero_testBit] at this ⊢
  unfold zlow
  rw [Nat.testBit_and]
  cases hb : f.testBit i with
  | false => rfl
  | true =>
    rw [hb] at this
    cases hs2 : s.testBit i with
    | false => rfl
    | true => rw [hs2] at this; cases this
theorem zWs_64 {s : Nat} (hs : ¬ s = 0) (h64 : s ≤ 64) {v : List Nat} : v ∈ zWs 64 s ↔ ∃ f w, v = f :: w ∧ f ∈ zcan s ∧ w ∈ zWs 64 (zd s f) := by
  rw [zWs_mem hs]
  constructor
  · rintro ⟨f, w, e, hf, hw⟩
    have := zcan_lt hf
    exact ⟨f, w, e, hf, by rw [zWs_fuel 63 (zd s f) 64 (by omega) (by omega)]; exact hw⟩
  · rintro ⟨f, w, e, hf, hw⟩
    have := zcan_lt hf
    exact ⟨f, w, e, hf, by rw [zWs_fuel 63 (zd s f) 64 (by omega) (by omega)] at hw; exact hw⟩
/-- all first sets tried: the table is right at s -/
theorem zIn_end {O : Nat → Option Nat} {co : Nat → Nat} {t : zT} {s : Nat} (hs : ¬ s = 0) (h64 : s ≤ 64) (h : zIn O co t s (s + 1)) : zTb O co t s := by
  have hle : ∀ f, f ∈ zcan s → f < s + 1 := fun f hf => by have := (zcan_mem.mp hf).1; omega
  rcases h with ⟨h1, h2⟩ | ⟨w, p1, p2, p3, p4, p5, p6, p7, p8⟩
  · refine Or.inl ⟨h1, fun v hv => ?_⟩
    obtain ⟨f, w, rfl, hf, hw⟩ := (zWs_64 hs h64).mp hv
    exact h2 f hf (hle f hf) w hw
  · refine Or.inr ⟨t.2.2 s :: w, ⟨hs, rfl, p1⟩, (zWs_64 hs h64).mpr ⟨_, w, rfl, p2, p4⟩, p5, p6, p7, fun v hv hf => ?_⟩
    obtain ⟨f, x, rfl, hf2, hw⟩ := (zWs_64 hs h64).mp hv
    exact p8 f hf2 (hle f hf2) x hw hf
