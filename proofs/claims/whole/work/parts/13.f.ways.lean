/-- where a way breaks off: its first set without a box; what newBox holds then -/
def zwf (FM : Nat → Nat → Bool) (co : Nat → Nat) (nb : Nat) (NS : Nat → Nat) (k : Nat) : Option Nat := zche (fun b => FM b (NS k)) co nb
def zwi (FM : Nat → Nat → Bool) (co : Nat → Nat) (nb : Nat) (NS : Nat → Nat) (CN : Nat) : Option Nat := zfst (fun k => (zwf FM co nb NS k).isNone) CN
def zJ (f : Option Nat) (CN : Nat) : Nat := match f with
  | none => CN
  | some k => k + 1
theorem zfst_lt {P : Nat → Bool} : ∀ {n k : Nat}, zfst P n = some k → k < n ∧ P k = true
  | 0, k, h => by cases h
  | n + 1, k, h => by
    cases hz : zfst P n with
    | some j =>
      rw [zfst_k hz] at h
      cases h
      have := zfst_lt hz
      exact ⟨by omega, this.2⟩
    | none =>
      cases hp : P n with
      | true =>
        rw [zfst_s hz hp] at h
        cases h
        exact ⟨by omega, hp⟩
      | false => rw [zfst_n hz hp] at h; cases h
theorem zfst_all {P : Nat → Bool} : ∀ {n : Nat}, zfst P n = none → ∀ k, k < n → P k = false
  | 0, _, k, hk => by omega
  | n + 1, h, k, hk => by
    cases hz : zfst P n with
    | some j => rw [zfst_k hz] at h; cases h
    | none =>
      cases hp : P n with
      | true => rw [zfst_s hz hp] at h; cases h
      | false =>
        by_cases e : k = n
        · rw [e]; exact hp
        · exact zfst_all hz k (by omega)
/-- the reference's search: chosen, boxes, sets, count, new boxes, new sets, parting -/
abbrev zM : Type := Option Nat × (Nat → Option Nat) × (Nat → Nat) × Nat × (Nat → Option Nat) × (Nat → Nat) × (Nat → Nat)
def zmy (FM : Nat → Nat → Bool) (co : Nat → Nat) (nb nu : Nat) (t : zM) : zM :=
  (t.1, t.2.1, t.2.2.1, (zwn t.2.2.2.2.2.2 t.2.2.2.2.2.1 nu).2, zcpo t.2.2.2.2.1 (zwf FM co nb (zwn t.2.2.2.2.2.2 t.2.2.2.2.2.1 nu).1) (zJ (zwi FM co nb (zwn t.2.2.2.2.2.2 t.2.2.2.2.2.1 nu).1 (zwn t.2.2.2.2.2.2 t.2.2.2.2.2.1 nu).2) (zwn t.2.2.2.2.2.2 t.2.2.2.2.2.1 nu).2), (zwn t.2.2.2.2.2.2 t.2.2.2.2.2.1 nu).1, t.2.2.2.2.2.2)
def zmg (FM : Nat → Nat → Bool) (co : Nat → Nat) (nb nu : Nat) (t : zM) : Bool := (zwi FM co nb (zwn t.2.2.2.2.2.2 t.2.2.2.2.2.1 nu).1 (zwn t.2.2.2.2.2.2 t.2.2.2.2.2.1 nu).2).isNone
def zkp (t : zM) : zM := (some t.2.2.2.1, zcpo t.2.1 t.2.2.2.2.1 t.2.2.2.1, zcpn t.2.2.1 t.2.2.2.2.2.1 t.2.2.2.1, t.2.2.2.1, t.2.2.2.2.1, t.2.2.2.2.2.1, t.2.2.2.2.2.2)
def zon (FM : Nat → Nat → Bool) (co : Nat → Nat) (nb nu : Nat) (t : zM) : zM :=
  bif zmg FM co nb nu t && zmb co t.1 t.2.1 t.2.2.1 (zmy FM co nb nu t).2.2.2.1 (zmy FM co nb nu t).2.2.2.2.1 (zmy FM co nb nu t).2.2.2.2.2.1 then zkp (zmy FM co nb nu t) else zmy FM co nb nu t
/-- all ways from this one on, at most n of them -/
def zrn (FM : Nat → Nat → Bool) (co : Nat → Nat) (nb nu : Nat) : Nat → zM → Option zM
  | 0, _ => none
  | n + 1, t => match zns (zon FM co nb nu t).2.2.2.2.2.2 nu (nu - 1) with
    | none => some (zon FM co nb nu t)
    | some q => zrn FM co nb nu n ((zon FM co nb nu t).1, (zon FM co nb nu t).2.1, (zon FM co nb nu t).2.2.1, (zon FM co nb nu t).2.2.2.1, (zon FM co nb nu t).2.2.2.2.1, (zon FM co nb nu t).2.2.2.2.2.1, q)
theorem zrn_n {FM : Nat → Nat → Bool} {co : Nat → Nat} {nb nu n : Nat} {t : zM} (h : zns (zon FM co nb nu t).2.2.2.2.2.2 nu (nu - 1) = none) : zrn FM co nb nu (n + 1) t = some (zon FM co nb nu t) := by
  show (match zns (zon FM co nb nu t).2.2.2.2.2.2 nu (nu - 1) with | none => _ | some q => _) = _
  rw [h]
theorem zrn_s {FM : Nat → Nat → Bool} {co : Nat → Nat} {nb nu n : Nat} {t : zM} {q : Nat → Nat} (h : zns (zon FM co nb nu t).2.2.2.2.2.2 nu (nu - 1) = some q) : zrn FM co nb nu (n + 1) t = zrn FM co nb nu n ((zon FM co nb nu t).1, (zon FM co nb nu t).2.1, (zon FM co nb nu t).2.2.1, (zon FM co nb nu t).2.2.2.1, (zon FM co nb nu t).2.2.2.2.1, (zon FM co nb nu t).2.2.2.2.2.1, q) := by
  show (match zns (zon FM co nb nu t).2.2.2.2.2.2 nu (nu - 1) with | none => _ | some q => _) = _
  rw [h]
/-- the state of the reference's search is sound -/
def zMk (nu : Nat) (t : zM) : Prop := (∀ u, u < nu → t.2.2.2.2.2.2 u ≤ u) ∧ (∀ k, t.2.2.2.2.2.2 k < 9) ∧ (∀ k, t.2.2.2.2.2.1 k < 256) ∧ (∀ k, t.2.2.1 k < 256) ∧ ∀ q, t.1 = some q → q ≤ 8 ∧ ∀ k, k < q → ∃ b, t.2.1 k = some b ∧ b < 6
theorem zcpn_b {f g : Nat → Nat} {j M : Nat} (h1 : ∀ k, f k < M) (h2 : ∀ k, g k < M) : ∀ k, zcpn f g j k < M := by
  intro k
  unfold zcpn
  by_cases q : k < j
  · rw [if_pos q]; exact h2 k
  · rw [if_neg q]; exact h1 k
theorem zmy_box {FM : Nat → Nat → Bool} {co : Nat → Nat} {nb nu : Nat} {t : zM} (hb : nb ≤ 6) (hg : zmg FM co nb nu t = true) : ∀ k, k < (zmy FM co nb nu t).2.2.2.1 → ∃ b, (zmy FM co nb nu t).2.2.2.2.1 k = some b ∧ b < 6 := by
  intro k hk
  have hk : k < (zwn t.2.2.2.2.2.2 t.2.2.2.2.2.1 nu).2 := hk
  have hn : zwi FM co nb (zwn t.2.2.2.2.2.2 t.2.2.2.2.2.1 nu).1 (zwn t.2.2.2.2.2.2 t.2.2.2.2.2.1 nu).2 = none := Option.isNone_iff_eq_none.mp hg
  have h1 := zfst_all hn k hk
  show ∃ b, zcpo t.2.2.2.2.1 (zwf FM co nb (zwn t.2.2.2.2.2.2 t.2.2.2.2.2.1 nu).1) (zJ (zwi FM co nb (zwn t.2.2.2.2.2.2 t.2.2.2.2.2.1 nu).1 (zwn t.2.2.2.2.2.2 t.2.2.2.2.2.1 nu).2) (zwn t.2.2.2.2.2.2 t.2.2.2.2.2.1 nu).2) k = some b ∧ b < 6
  rw [hn]
  unfold zcpo zJ
  rw [if_pos hk]
  cases hz : zwf FM co nb (zwn t.2.2.2.2.2.2 t.2.2.2.2.2.1 nu).1 k with
  | none => rw [hz] at h1; cases h1
  | some b => exact ⟨b, rfl, Nat.lt_of_lt_of_le (zche_lt hz).1 hb⟩
theorem zon_pt {FM : Nat → Nat → Bool} {co : Nat → Nat} {nb nu : Nat} {t : zM} : (zon FM co nb nu t).2.2.2.2.2.2 = t.2.2.2.2.2.2 := by
  unfold zon
  cases zmg FM co nb nu t && zmb co t.1 t.2.1 t.2.2.1 (zmy FM co nb nu t).2.2.2.1 (zmy FM co nb nu t).2.2.2.2.1 (zmy FM co nb nu t).2.2.2.2.2.1 <;> rfl
theorem zon_ok {FM : Nat → Nat → Bool} {co : Nat → Nat} {nb nu : Nat} {t : zM} (hb : nb ≤ 6) (hn : nu ≤ 8) (h : zMk nu t) : zMk nu (zon FM co nb nu t) := by
  obtain ⟨h1, h2, h3, h4, h5⟩ := h
  have hw := zwn_lt (pt := t.2.2.2.2.2.2) h3 nu hn
  have hc := zwn_le (pt := t.2.2.2.2.2.2) (ns := t.2.2.2.2.2.1) nu h1
  unfold zon
  cases hg : zmg FM co nb nu t with
  | false => exact ⟨h1, h2, hw, h4, h5⟩
  | true =>
    cases zmb co t.1 t.2.1 t.2.2.1 (zmy FM co nb nu t).2.2.2.1 (zmy FM co nb nu t).2.2.2.2.1 (zmy FM co nb nu t).2.2.2.2.2.1 with
    | false => exact ⟨h1, h2, hw, h4, h5⟩
    | true =>
      refine ⟨h1, h2, hw, zcpn_b h4 hw, fun q hq => ?_⟩
      have hq : some (zmy FM co nb nu t).2.2.2.1 = some q := hq
      cases hq
      refine ⟨Nat.le_trans hc hn, fun k hk => ?_⟩
      obtain ⟨b, e1, e2⟩ := zmy_box hb hg k hk
      refine ⟨b, ?_, e2⟩
      show zcpo t.2.1 (zmy FM co nb nu t).2.2.2.2.1 (zmy FM co nb nu t).2.2.2.1 k = some b
      unfold zcpo
      rw [if_pos hk]
      exact e1
theorem zmx_le {pt : Nat → Nat} : ∀ n, (∀ u, u < n → pt u ≤ u) → zmx pt (n + 1) ≤ n + pt n
  | n, h => by
    have key : ∀ m, m ≤ n → zmx pt m ≤ n := by
      intro m
      induction m with
      | zero => intro _; exact Nat.zero_le _
      | succ m ih =>
        intro hm
        show (if _ then _ else _) ≤ _
        by_cases q : zmx pt m < pt m
        · rw [if_pos q]; have := h m (by omega); omega
        · rw [if_neg q]; exact ih (by omega)
    show (if _ then _ else _) ≤ _
    by_cases q : zmx pt n < pt n
    · rw [if_pos q]; omega
    · rw [if_neg q]; have := key n (Nat.le_refl _); omega
theorem zmx_lt2 {pt : Nat → Nat} : ∀ n, 0 < n → (∀ u, u < n → pt u ≤ u) → zmx pt n < n
  | 0, h0, _ => by omega
  | n + 1, _, h => by
    show (if _ then _ else _) < _
    by_cases q : zmx pt n < pt n
    · rw [if_pos q]; have := h n (by omega); omega
    · rw [if_neg q]
      rcases Nat.eq_zero_or_pos n with e | e
      · subst e; show 0 < 0 + 1; omega
      · have := zmx_lt2 n e (fun u hu => h u (by omega)); omega
theorem zns_ok {pt : Nat → Nat} {nu : Nat} (hn : nu ≤ 8) (h1 : ∀ u, u < nu → pt u ≤ u) (h2 : ∀ k, pt k < 9) : ∀ u q, u < nu → zns pt nu u = some q → (∀ u, u < nu → q u ≤ u) ∧ ∀ k, q k < 9
  | 0, q, _, h => by cases h
  | u + 1, q, hu, h => by
    by_cases c : pt (u + 1) ≤ zmx pt (u + 1)
    · rw [zns_t c] at h
      cases h
      have hm := zmx_lt2 (pt := pt) (u + 1) (by omega) (fun v hv => h1 v (by omega))
      refine ⟨fun v hv => ?_, fun k => ?_⟩
      · unfold zclz
        by_cases a : u + 1 < v ∧ v < nu
        · rw [if_pos a]; exact Nat.zero_le _
        · rw [if_neg a]
          unfold zu
          by_cases b : v = u + 1
          · rw [if_pos b]; omega
          · rw [if_neg b]; exact h1 v hv
      · unfold zclz
        by_cases a : u + 1 < k ∧ k < nu
        · rw [if_pos a]; decide
        · rw [if_neg a]
          unfold zu
          by_cases b : k = u + 1
          · rw [if_pos b]; omega
          · rw [if_neg b]; exact h2 k
    · rw [zns_f c] at h
      exact zns_ok hn h1 h2 u q (by omega) h
/-- the rule of the reference: goes on, placed, boxes, sets, number -/
abbrev zMR : Type := Bool × Nat × (Nat → Option Nat) × (Nat → Nat) × Nat
def zmr (FM : Nat → Nat → Bool) (co : Nat → Nat) (nb : Nat) (cm : Nat → Nat) (u : Nat) (t : zMR) : zMR :=
  bif t.1 then (bif t.2.1.testBit u then t else match zfst (fun k => FM ((t.2.2.1 k).getD 0) (t.2.2.2.1 k ||| cm u)) t.2.2.2.2 with
    | some k => (true, t.2.1 ||| cm u, t.2.2.1, zu t.2.2.2.1 k (t.2.2.2.1 k ||| cm u), t.2.2.2.2)
    | none => match zche (fun b => FM b (cm u)) co nb with
      | none => (false, t.2.1 ||| cm u, zuo t.2.2.1 t.2.2.2.2 none, zu t.2.2.2.1 t.2.2.2.2 0, t.2.2.2.2)
      | some b => (true, t.2.1 ||| cm u, zuo t.2.2.1 t.2.2.2.2 (some b), zu (zu t.2.2.2.1 t.2.2.2.2 0) t.2.2.2.2 (zu t.2.2.2.1 t.2.2.2.2 0 t.2.2.2.2 ||| cm u), t.2.2.2.2 + 1)) else t
def zmu (FM : Nat → Nat → Bool) (co : Nat → Nat) (nb : Nat) (cm : Nat → Nat) (t : zMR) : Nat → zMR
  | 0 => t
  | u + 1 => zmr FM co nb cm u (zmu FM co nb cm t u)
section ZMR
variable {FM : Nat → Nat → Bool} {co : Nat → Nat} {nb : Nat} {cm : Nat → Nat} {u : Nat} {t : zMR}
theorem zmr_k (h1 : t.1 = true) (h2 : t.2.1.testBit u = true) : zmr FM co nb cm u t = t := by
  unfold zmr
  rw [h1, h2]; rfl
theorem zmr_s {k : Nat} (h1 : t.1 = true) (h2 : t.2.1.testBit u = false) (h3 : zfst (fun k => FM ((t.2.2.1 k).getD 0) (t.2.2.2.1 k ||| cm u)) t.2.2.2.2 = some k) : zmr FM co nb cm u t = (true, t.2.1 ||| cm u, t.2.2.1, zu t.2.2.2.1 k (t.2.2.2.1 k ||| cm u), t.2.2.2.2) := by
  unfold zmr
  rw [h1, h2, h3]; rfl
theorem zmr_n (h1 : t.1 = true) (h2 : t.2.1.testBit u = false) (h3 : zfst (fun k => FM ((t.2.2.1 k).getD 0) (t.2.2.2.1 k ||| cm u)) t.2.2.2.2 = none) (h4 : zche (fun b => FM b (cm u)) co nb = none) : zmr FM co nb cm u t = (false, t.2.1 ||| cm u, zuo t.2.2.1 t.2.2.2.2 none, zu t.2.2.2.1 t.2.2.2.2 0, t.2.2.2.2) := by
  unfold zmr
  rw [h1, h2, h3, h4]; rfl
theorem zmr_b {b : Nat} (h1 : t.1 = true) (h2 : t.2.1.testBit u = false) (h3 : zfst (fun k => FM ((t.2.2.1 k).getD 0) (t.2.2.2.1 k ||| cm u)) t.2.2.2.2 = none) (h4 : zche (fun b => FM b (cm u)) co nb = some b) : zmr FM co nb cm u t = (true, t.2.1 ||| cm u, zuo t.2.2.1 t.2.2.2.2 (some b), zu (zu t.2.2.2.1 t.2.2.2.2 0) t.2.2.2.2 (zu t.2.2.2.1 t.2.2.2.2 0 t.2.2.2.2 ||| cm u), t.2.2.2.2 + 1) := by
  unfold zmr
  rw [h1, h2, h3, h4]; rfl
end ZMR
theorem zmu_up {FM : Nat → Nat → Bool} {co : Nat → Nat} {nb : Nat} {cm : Nat → Nat} {t : zMR} {u : Nat} (hf : (zmu FM co nb cm t u).1 = false) : ∀ d, zmu FM co nb cm t (u + d) = zmu FM co nb cm t u
  | 0 => rfl
  | d + 1 => by
    have e := zmu_up hf d
    show zmr FM co nb cm (u + d) (zmu FM co nb cm t (u + d)) = _
    rw [e]
    unfold zmr
    rw [hf]; rfl
def zmok (t : zMR) (u : Nat) : Prop := t.2.1 < 256 ∧ (∀ k, t.2.2.2.1 k < 256) ∧ t.2.2.2.2 ≤ u ∧ (t.1 = true → ∀ k, k < t.2.2.2.2 → ∃ b, t.2.2.1 k = some b ∧ b < 6)
theorem zmu_ok {FM : Nat → Nat → Bool} {co : Nat → Nat} {nb : Nat} {cm : Nat → Nat} {t : zMR} (h0 : zmok t 0) (hb : nb ≤ 6) (hc : ∀ u, u < 8 → cm u < 256) : ∀ u, u ≤ 8 → zmok (zmu FM co nb cm t u) u
  | 0, _ => h0
  | u + 1, hu => by
    obtain ⟨g1, g2, g3, g4⟩ := zmu_ok (FM := FM) (co := co) h0 hb hc u (by omega)
    show zmok (zmr FM co nb cm u (zmu FM co nb cm t u)) (u + 1)
    have hcm := hc u (by omega)
    cases e1 : (zmu FM co nb cm t u).1 with
    | false =>
      unfold zmr
      rw [e1]
      exact ⟨g1, g2, by show (zmu FM co nb cm t u).2.2.2.2 ≤ u + 1; omega, fun h => by have h : (zmu FM co nb cm t u).1 = true := h; rw [e1] at h; cases h⟩
    | true =>
      cases e2 : (zmu FM co nb cm t u).2.1.testBit u with
      | true => rw [zmr_k e1 e2]; exact ⟨g1, g2, by omega, g4⟩
      | false =>
        cases e3 : zfst (fun k => FM (((zmu FM co nb cm t u).2.2.1 k).getD 0) ((zmu FM co nb cm t u).2.2.2.1 k ||| cm u)) (zmu FM co nb cm t u).2.2.2.2 with
        | some k =>
          rw [zmr_s e1 e2 e3]
          exact ⟨Nat.or_lt_two_pow (n := 8) g1 hcm, zu_b g2 (Nat.or_lt_two_pow (n := 8) (g2 k) hcm), by show (zmu FM co nb cm t u).2.2.2.2 ≤ u + 1; omega, fun _ => g4 e1⟩
        | none =>
          cases e4 : zche (fun b => FM b (cm u)) co nb with
          | none =>
            rw [zmr_n e1 e2 e3 e4]
            exact ⟨Nat.or_lt_two_pow (n := 8) g1 hcm, zu_b g2 (by decide), by show (zmu FM co nb cm t u).2.2.2.2 ≤ u + 1; omega, fun h => by cases h⟩
          | some b =>
            rw [zmr_b e1 e2 e3 e4]
            refine ⟨Nat.or_lt_two_pow (n := 8) g1 hcm, zu_b (zu_b g2 (by decide)) (Nat.or_lt_two_pow (n := 8) (zu_b g2 (by decide) _) hcm), by show (zmu FM co nb cm t u).2.2.2.2 + 1 ≤ u + 1; omega, fun _ k hk => ?_⟩
            have hk : k < (zmu FM co nb cm t u).2.2.2.2 + 1 := hk
            show ∃ d, zuo (zmu FM co nb cm t u).2.2.1 (zmu FM co nb cm t u).2.2.2.2 (some b) k = some d ∧ d < 6
            by_cases q : k = (zmu FM co nb cm t u).2.2.2.2
            · rw [q, zuo_s]
              exact ⟨b, rfl, Nat.lt_of_lt_of_le (zche_lt e4).1 hb⟩
            · rw [zuo_n q]
              exact g4 e1 k (by omega)
