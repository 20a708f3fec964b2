/-! ===== the rule, on both sides ===== -/
def zRul (co : Nat → Nat) (nb : Nat) (z : zR) (t : zMR) : Prop := z.1 = t.1 ∧ (z.1 = true → z.2.1 = t.2.1 ∧ z.2.2.2.2.1 = t.2.2.2.2 ∧ (∀ k, k < t.2.2.2.2 → t.2.2.1 k = some (z.2.2.1 k) ∧ t.2.2.2.1 k = z.2.2.2.1 k ∧ z.2.2.1 k < nb) ∧ z.2.2.2.2.2 = zct co t.2.2.1 t.2.2.2.2)
theorem zrule_s {FF FM : Nat → Nat → Bool} (hF : ∀ b a, FM b a = FF a b) {co : Nat → Nat} {nb : Nat} {cm cm2 : Nat → Nat} {u : Nat} (hc : cm2 u = cm u) {z : zR} {t : zMR} (h : zRul co nb z t) : zRul co nb (zrs FF co nb cm u z) (zmr FM co nb cm2 u t) := by
  obtain ⟨e1, e2⟩ := h
  cases hz : z.1 with
  | false =>
    have h1 : zrs FF co nb cm u z = z := by unfold zrs; rw [hz]; rfl
    have h2 : zmr FM co nb cm2 u t = t := by unfold zmr; rw [← e1, hz]; rfl
    rw [h1, h2]
    exact ⟨e1, e2⟩
  | true =>
    have ht : t.1 = true := by rw [← e1]; exact hz
    obtain ⟨p1, p2, p3, p4⟩ := e2 hz
    cases hb : z.2.1.testBit u with
    | true =>
      rw [zrs_k hz hb, zmr_k ht (by rw [← p1]; exact hb)]
      exact ⟨e1, e2⟩
    | false =>
      have hb2 : t.2.1.testBit u = false := by rw [← p1]; exact hb
      have hfst : zfst (fun k => FM ((t.2.2.1 k).getD 0) (t.2.2.2.1 k ||| cm2 u)) t.2.2.2.2 = zfst (fun i => decide (z.2.2.1 i < nb) && FF (z.2.2.2.1 i ||| cm u) (z.2.2.1 i)) z.2.2.2.2.1 := by
        rw [p2]
        refine zfst_cg _ (fun j hj => ?_)
        show FM ((t.2.2.1 j).getD 0) (t.2.2.2.1 j ||| cm2 u) = (decide (z.2.2.1 j < nb) && FF (z.2.2.2.1 j ||| cm u) (z.2.2.1 j))
        rw [(p3 j hj).1, (p3 j hj).2.1, hc, hF, decide_eq_true (p3 j hj).2.2, Bool.true_and]
        rfl
      have hche : zche (fun b => FM b (cm2 u)) co nb = zche (FF (cm u)) co nb := zche_cg nb (fun j _ => by show FM j (cm2 u) = FF (cm u) j; rw [hF, hc])
      rw [zrs_p hz hb]
      cases hf : zfst (fun i => decide (z.2.2.1 i < nb) && FF (z.2.2.2.1 i ||| cm u) (z.2.2.1 i)) z.2.2.2.2.1 with
      | some i =>
        rw [zputc_s (h := z.2.2) hf, zmr_s ht hb2 (hfst.trans hf)]
        have hi : i < t.2.2.2.2 := by rw [← p2]; exact (zfst_lt hf).1
        refine ⟨rfl, fun _ => ⟨by show z.2.1 ||| cm u = t.2.1 ||| cm2 u; rw [p1, hc], p2, fun k hk => ⟨(p3 k hk).1, ?_, (p3 k hk).2.2⟩, p4⟩⟩
        show zu t.2.2.2.1 i (t.2.2.2.1 i ||| cm2 u) k = zu z.2.2.2.1 i (z.2.2.2.1 i ||| cm u) k
        unfold zu
        rw [hc, (p3 i hi).2.1, (p3 k hk).2.1]
      | none =>
        cases hq : zche (FF (cm u)) co nb with
        | none =>
          rw [zputc_n (h := z.2.2) hf hq, zmr_n ht hb2 (hfst.trans hf) (hche.trans hq)]
          exact ⟨rfl, fun h => by cases h⟩
        | some b =>
          rw [zputc_b (h := z.2.2) hf hq, zmr_b ht hb2 (hfst.trans hf) (hche.trans hq)]
          refine ⟨rfl, fun _ => ⟨by show z.2.1 ||| cm u = t.2.1 ||| cm2 u; rw [p1, hc], by show z.2.2.2.2.1 + 1 = t.2.2.2.2 + 1; rw [p2], fun k hk => ?_, ?_⟩⟩
          · have hk : k < t.2.2.2.2 + 1 := hk
            show zuo t.2.2.1 t.2.2.2.2 (some b) k = some (zu z.2.2.1 z.2.2.2.2.1 b k) ∧ zu (zu t.2.2.2.1 t.2.2.2.2 0) t.2.2.2.2 (zu t.2.2.2.1 t.2.2.2.2 0 t.2.2.2.2 ||| cm2 u) k = zu z.2.2.2.1 z.2.2.2.2.1 (cm u) k ∧ zu z.2.2.1 z.2.2.2.2.1 b k < nb
            rw [p2]
            by_cases c : k = t.2.2.2.2
            · rw [c, zuo_s, zu_s, zu_s, zu_s, zu_s, hc, Nat.zero_or]
              exact ⟨rfl, rfl, (zche_lt hq).1⟩
            · rw [zuo_n c, zu_n c, zu_n c, zu_n c, zu_n c]
              exact p3 k (by omega)
          · show z.2.2.2.2.2 + co b = zct co (zuo t.2.2.1 t.2.2.2.2 (some b)) t.2.2.2.2 + co ((zuo t.2.2.1 t.2.2.2.2 (some b) t.2.2.2.2).getD 0)
            rw [zuo_s, p4, zct_cg (co := co) (c2 := co) (f := t.2.2.1) (g := zuo t.2.2.1 t.2.2.2.2 (some b)) t.2.2.2.2 (fun i hi => by rw [zuo_n (show i ≠ t.2.2.2.2 by omega)])]
            rfl
theorem zrule {FF FM : Nat → Nat → Bool} (hF : ∀ b a, FM b a = FF a b) {co : Nat → Nat} {nb nu : Nat} {cm cm2 : Nat → Nat} (hc : ∀ u, u < nu → cm2 u = cm u) (bn us : Nat → Nat) (nx : Nat → Option Nat) (ns : Nat → Nat) : ∀ u, u ≤ nu → zRul co nb (zbr FF co nb cm ((bn, us, 0, 0) : zCh) u) (zmu FM co nb cm2 ((true, 0, nx, ns, 0) : zMR) u)
  | 0, _ => ⟨rfl, fun _ => ⟨rfl, rfl, fun k hk => absurd hk (Nat.not_lt_zero k), rfl⟩⟩
  | u + 1, h => zrule_s hF (hc u (by omega)) (zrule hF hc bn us nx ns u (by omega))
