theorem zwb_no {hw : Nat → Nat} {x t : Nat} (h : t.testBit x = false) : ∀ n, zwb hw x t n = t
  | 0 => rfl
  | n + 1 => by
    have e := zwb_no (hw := hw) h n
    rw [zwb_f (by rw [e]; exact h), e]
theorem zwb_yes {hw : Nat → Nat} {x t : Nat} (h : t.testBit x = true) : ∀ n, (zwb hw x t n).testBit x = true ∧ ∀ i, (zwb hw x t n).testBit i = (t.testBit i || (decide (i < n) && decide (hw (8 * x + i) = 2)))
  | 0 => ⟨h, fun i => by show t.testBit i = _; simp⟩
  | n + 1 => by
    obtain ⟨e1, e2⟩ := zwb_yes (hw := hw) h n
    by_cases q : hw (8 * x + n) = 2
    · rw [zwb_t e1 q]
      have key : ∀ i, (zwb hw x t n ||| 2 ^ n).testBit i = (t.testBit i || (decide (i < n + 1) && decide (hw (8 * x + i) = 2))) := by
        intro i
        rw [Nat.testBit_or, e2 i, Nat.testBit_two_pow]
        by_cases c : n = i
        · subst c
          rw [decide_eq_true rfl, decide_eq_true (show n < n + 1 by omega), decide_eq_true q]
          simp
        · rw [decide_eq_false c, Bool.or_false]
          by_cases c2 : i < n
          · rw [decide_eq_true c2, decide_eq_true (show i < n + 1 by omega)]
          · rw [decide_eq_false c2, decide_eq_false (show ¬ i < n + 1 by omega)]
      exact ⟨by rw [Nat.testBit_or, e1]; rfl, key⟩
    · rw [zwb_g q]
      refine ⟨e1, fun i => ?_⟩
      rw [e2 i]
      by_cases c : i = n
      · subst c
        rw [decide_eq_false q, Bool.and_false, Bool.and_false]
      · by_cases c2 : i < n
        · rw [decide_eq_true c2, decide_eq_true (show i < n + 1 by omega)]
        · rw [decide_eq_false c2, decide_eq_false (show ¬ i < n + 1 by omega)]
theorem zwa_eq {ap tg hw : Nat → Nat} {nu : Nat} (h : zHW ap tg hw nu) (hn : nu ≤ 8) (t : Nat) : ∀ n, n ≤ nu → zwa hw nu t n = zci tg t n
  | 0, _ => rfl
  | n + 1, hk => by
    have e := zwa_eq h hn t n (by omega)
    show zwb hw n (zwa hw nu t n) nu = _
    rw [e]
    cases hb : (zci tg t n).testBit n with
    | false => rw [zwb_no hb, zci_f hb]
    | true =>
      rw [zci_t hb]
      apply Nat.eq_of_testBit_eq
      intro i
      rw [(zwb_yes hb nu).2 i, Nat.testBit_or]
      congr 1
      by_cases c : i < nu
      · rw [decide_eq_true c, Bool.true_and, h.2.1 n i (by omega) (by omega)]
        cases ht : (tg n).testBit i with
        | true => exact decide_eq_true ((zrel_2 (h.2.2.2.2.1 n i (by omega))).mpr ht)
        | false => exact decide_eq_false (fun q => by rw [zrel_2 (h.2.2.2.2.1 n i (by omega)), ht] at q; cases q)
      · rw [decide_eq_false c, Bool.false_and]
        cases ht : (tg n).testBit i with
        | true => exact absurd (h.2.2.2.2.2.2.2 n i (by omega) ht).2 c
        | false => rfl
theorem zwr_co {ap tg hw : Nat → Nat} {nu : Nat} (h : zHW ap tg hw nu) (hn : nu ≤ 8) (u : Nat) : ∀ r, zwr hw nu u r = zco tg nu u r
  | 0 => rfl
  | r + 1 => by
    show zwa hw nu (zwr hw nu u r) nu = zci tg (zco tg nu u r) nu
    rw [zwr_co h hn u r, zwa_eq h hn _ nu (Nat.le_refl _)]
theorem zcin_mono {P Q : Nat → Bool} (h : ∀ i, P i = true → Q i = true) : ∀ n, zcin P 0 n ≤ zcin Q 0 n
  | 0 => Nat.le_refl _
  | n + 1 => by
    have e := zcin_mono h n
    cases hp : P n with
    | true => rw [zcin_t (Nat.zero_le _) hp, zcin_t (Nat.zero_le _) (h n hp)]; omega
    | false =>
      rw [zcin_f hp]
      cases hq : Q n with
      | true => rw [zcin_t (Nat.zero_le _) hq]; omega
      | false => rw [zcin_f hq]; exact e
theorem zcin_lt {P Q : Nat → Bool} (h : ∀ i, P i = true → Q i = true) {j : Nat} (h1 : P j = false) (h2 : Q j = true) : ∀ n, j < n → zcin P 0 n < zcin Q 0 n
  | 0, hj => by omega
  | n + 1, hj => by
    by_cases c : j = n
    · subst c
      have e := zcin_mono h j
      rw [zcin_f h1, zcin_t (Nat.zero_le _) h2]
      omega
    · have e := zcin_lt h h1 h2 n (by omega)
      cases hp : P n with
      | true => rw [zcin_t (Nat.zero_le _) hp, zcin_t (Nat.zero_le _) (h n hp)]; omega
      | false =>
        rw [zcin_f hp]
        cases hq : Q n with
        | true => rw [zcin_t (Nat.zero_le _) hq]; omega
        | false => rw [zcin_f hq]; exact e
theorem zci_ge {tg : Nat → Nat} {t i : Nat} (h : t.testBit i = true) : ∀ n, (zci tg t n).testBit i = true
  | 0 => h
  | n + 1 => by
    have e := zci_ge (tg := tg) h n
    cases hb : (zci tg t n).testBit n with
    | false => rw [zci_f hb]; exact e
    | true => rw [zci_t hb, Nat.testBit_or, e]; rfl
theorem zci_bd {tg : Nat → Nat} {t nu : Nat} (ht : ∀ i, t.testBit i = true → i < nu) (hg : ∀ a b, a < 8 → (tg a).testBit b = true → a < nu ∧ b < nu) : ∀ n, n ≤ 8 → ∀ i, (zci tg t n).testBit i = true → i < nu
  | 0, _ => ht
  | n + 1, hn => by
    have e := zci_bd ht hg n (by omega)
    intro i hi
    cases hb : (zci tg t n).testBit n with
    | false => rw [zci_f hb] at hi; exact e i hi
    | true =>
      rw [zci_t hb, Nat.testBit_or, Bool.or_eq_true] at hi
      rcases hi with q | q
      · exact e i q
      · exact (hg n i (by omega) q).2
theorem zco_bd {tg : Nat → Nat} {nu u : Nat} (hn : nu ≤ 8) (hu : u < nu) (hg : ∀ a b, a < 8 → (tg a).testBit b = true → a < nu ∧ b < nu) : ∀ r i, (zco tg nu u r).testBit i = true → i < nu
  | 0 => by
    intro i hi
    have hi : (2 ^ u).testBit i = true := hi
    rw [Nat.testBit_two_pow] at hi
    have := of_decide_eq_true hi
    omega
  | r + 1 => zci_bd (zco_bd hn hu hg r) hg nu hn
theorem zco_st {tg : Nat → Nat} {nu u k : Nat} (h : zco tg nu u (k + 1) = zco tg nu u k) : ∀ d, zco tg nu u (k + d) = zco tg nu u k
  | 0 => rfl
  | d + 1 => by
    show zci tg (zco tg nu u (k + d)) nu = _
    rw [zco_st h d]
    exact h
theorem zco_up {tg : Nat → Nat} {nu u : Nat} (hn : nu ≤ 8) (hu : u < nu) (hg : ∀ a b, a < 8 → (tg a).testBit b = true → a < nu ∧ b < nu) : ∀ r, (∃ k, k ≤ r ∧ zco tg nu u (k + 1) = zco tg nu u k) ∨ r + 1 ≤ zcin (fun i => (zco tg nu u r).testBit i) 0 nu
  | 0 => by
    refine Or.inr ?_
    have := zcin_lt (P := fun _ => false) (Q := fun i => (zco tg nu u 0).testBit i) (fun i h => by cases h) (j := u) rfl (by show (2 ^ u).testBit u = true; rw [Nat.testBit_two_pow]; exact decide_eq_true rfl) nu hu
    omega
  | r + 1 => by
    rcases zco_up hn hu hg r with ⟨k, hk, e⟩ | e
    · exact Or.inl ⟨k, by omega, e⟩
    · by_cases c : zco tg nu u (r + 1) = zco tg nu u r
      · exact Or.inl ⟨r, by omega, c⟩
      · refine Or.inr ?_
        have hj : ∃ j, (zco tg nu u r).testBit j = false ∧ (zco tg nu u (r + 1)).testBit j = true := by
          apply Classical.byContradiction
          intro q
          apply c
          apply Nat.eq_of_testBit_eq
          intro i
          cases h1 : (zco tg nu u r).testBit i with
          | true => exact zci_ge h1 nu
          | false =>
            cases h2 : (zco tg nu u (r + 1)).testBit i with
            | false => rfl
            | true => exact absurd ⟨i, h1, h2⟩ q
        obtain ⟨j, h1, h2⟩ := hj
        have := zcin_lt (P := fun i => (zco tg nu u r).testBit i) (Q := fun i => (zco tg nu u (r + 1)).testBit i) (fun i h => zci_ge h nu) h1 h2 nu (zco_bd hn hu hg (r + 1) j h2)
        omega
/-- the reference's company of a unit is the class's -/
theorem zwr_eq {ap tg hw : Nat → Nat} {nu u : Nat} (h : zHW ap tg hw nu) (hn : nu ≤ 8) (hu : u < nu) : zwr hw nu u 8 = zco tg nu u nu := by
  rw [zwr_co h hn u 8]
  rcases zco_up hn hu h.2.2.2.2.2.2.2 nu with ⟨k, hk, e⟩ | e
  · have e1 := zco_st e (8 - k)
    have e2 := zco_st e (nu - k)
    rw [show k + (8 - k) = 8 by omega] at e1
    rw [show k + (nu - k) = nu by omega] at e2
    rw [e1, e2]
  · have := zcin_le (fun i => (zco tg nu u nu).testBit i) 0 nu
    omega
theorem zset_0 {P : Nat → Bool} {n : Nat} : zset P n = 0 ↔ zany P n = false := by
  constructor
  · intro h
    refine zany_f (fun j hj => ?_)
    have e := zset_bit P n j
    rw [h, Nat.zero_testBit, decide_eq_true hj, Bool.true_and] at e
    exact e.symm
  · intro h
    apply Nat.eq_of_testBit_eq
    intro i
    rw [zset_bit, Nat.zero_testBit]
    by_cases c : i < n
    · cases hp : P i with
      | false => rw [Bool.and_false]
      | true => rw [zany_t c hp] at h; cases h
    · rw [decide_eq_false c]; rfl
theorem zbar_eq {ap tg hw : Nat → Nat} {nu : Nat} (h : zHW ap tg hw nu) (hn : nu ≤ 8) (ro lo ks : Nat → Nat) (nb sl : Nat) (si we ki : Nat → Nat) (k : Nat) :
    zmbr (fun t => zany (fun b => zmp ro lo ks sl si we ki nu b k t) nb) (bif zma hw nu k then 4 else 0) 3 1 = zbar ro lo ks nb sl si we ki ap nu k := by
  have e1 : (fun b => zmp ro lo ks sl si we ki nu b k 1) = (fun x => decide (zd (zuni (fun y => 2 ^ ki y) k nu) (ks x) = 0)) := by
    funext b
    unfold zmp
    rw [zmk_eq]
    simp
  have e2 : (fun b => zmp ro lo ks sl si we ki nu b k 2) = (fun x => (decide (zd (zuni (fun y => 2 ^ ki y) k nu) (ks x) = 0)) && decide (zsum si k nu + sl ≤ ro x)) := by
    funext b
    unfold zmp
    rw [zmk_eq]
    simp
  have e3 : (fun b => zmp ro lo ks sl si we ki nu b k 3) = (fun x => ((decide (zd (zuni (fun y => 2 ^ ki y) k nu) (ks x) = 0)) && decide (zsum si k nu + sl ≤ ro x)) && decide (zsum we k nu ≤ lo x)) := by
    funext b
    unfold zmp
    rw [zmk_eq]
    simp [Bool.and_assoc]
  unfold zbar
  rw [zset_and, zset_and, ← e1, ← e2, ← e3, ← zma_eq h hn]
  simp only [zset_0]
  show (bif zany (fun b => zmp ro lo ks sl si we ki nu b k 1) nb then (bif zany (fun b => zmp ro lo ks sl si we ki nu b k 2) nb then (bif zany (fun b => zmp ro lo ks sl si we ki nu b k 3) nb then (bif zma hw nu k then 4 else 0) else 3) else 2) else 1) = _
  cases zany (fun b => zmp ro lo ks sl si we ki nu b k 1) nb <;> cases zany (fun b => zmp ro lo ks sl si we ki nu b k 2) nb <;> cases zany (fun b => zmp ro lo ks sl si we ki nu b k 3) nb <;> cases zma hw nu k <;> first | rfl | simp
theorem zrl_bit (ap : Nat → Nat) (f t : Nat) (b : Bool) (a i : Nat) : (zrl ap f t b a).testBit i = if a = f ∧ i = t then b else (ap a).testBit i := by
  unfold zrl zu
  by_cases c : a = f
  · rw [if_pos c]
    subst c
    by_cases c2 : i = t
    · subst c2
      rw [if_pos ⟨rfl, rfl⟩]
      cases b with
      | true => rw [cond_true, Nat.testBit_or, Nat.testBit_two_pow, decide_eq_true rfl, Bool.or_true]
      | false => rw [cond_false, zd_bit, Nat.testBit_two_pow, decide_eq_true rfl]; simp
    · rw [if_neg (fun q => c2 q.2)]
      have e : ¬ t = i := fun q => c2 q.symm
      cases b with
      | true => rw [cond_true, Nat.testBit_or, zd_bit, Nat.testBit_two_pow, decide_eq_false e]; simp
      | false => rw [cond_false, zd_bit, Nat.testBit_two_pow, decide_eq_false e]; simp
  · rw [if_neg c, if_neg (fun q => c q.1)]
theorem zrl2_bit (ap : Nat → Nat) (u v : Nat) (b : Bool) (a i : Nat) : (zrl (zrl ap u v b) v u b a).testBit i = if (a = v ∧ i = u) ∨ (a = u ∧ i = v) then b else (ap a).testBit i := by
  rw [zrl_bit, zrl_bit]
  by_cases c : a = v ∧ i = u
  · rw [if_pos c, if_pos (Or.inl c)]
  · rw [if_neg c]
    by_cases c2 : a = u ∧ i = v
    · rw [if_pos c2, if_pos (Or.inr c2)]
    · rw [if_neg c2, if_neg (fun q => q.elim c c2)]
theorem zrl_lt {ap : Nat → Nat} {f t : Nat} {b : Bool} (h : ∀ x, ap x < 256) (ht : t < 8) : ∀ x, zrl ap f t b x < 256 := by
  have e1 : zd (ap f) (2 ^ t) < 256 := Nat.lt_of_le_of_lt (zd_le _ _) (h f)
  unfold zrl
  refine zu_b h ?_
  cases b with
  | true => exact Nat.or_lt_two_pow (n := 8) e1 (Nat.pow_lt_pow_right (by decide) ht)
  | false => exact e1
theorem zHW_g {ap tg hw : Nat → Nat} {nu u v g : Nat} (h : zHW ap tg hw nu) (hn : nu ≤ 8) (hu : u < nu) (hv : v < nu) (hg : g ≤ 2) (hne : u ≠ v) :
    zHW (zrl (zrl ap u v (decide (g = 1))) v u (decide (g = 1))) (zrl (zrl tg u v (decide (g = 2))) v u (decide (g = 2))) (zu (zu hw (8 * u + v) g) (8 * v + u) g) nu := by
  obtain ⟨w1, w2, w3, w4, w5, w6, w7, w8⟩ := h
  refine ⟨zu_le (zu_le w1 hg) hg, fun a b ha hb => ?_, fun a b ha hb => ?_, fun a b ha hb => ?_, fun a b ha => ?_, fun a ha => ?_, fun a b ha => ?_, fun a b ha => ?_⟩
  · unfold zrel
    rw [zrl2_bit, zrl2_bit]
    by_cases c : (a = v ∧ b = u) ∨ (a = u ∧ b = v)
    · rw [if_pos c, if_pos c]
      have e : zu (zu hw (8 * u + v) g) (8 * v + u) g (8 * a + b) = g := by
        unfold zu
        rcases c with ⟨rfl, rfl⟩ | ⟨rfl, rfl⟩
        · rw [if_pos rfl]
        · rw [if_pos rfl, ite_self]
      rw [e]
      rcases (show g = 0 ∨ g = 1 ∨ g = 2 by omega) with rfl | rfl | rfl <;> rfl
    · rw [if_neg c, if_neg c]
      have e : zu (zu hw (8 * u + v) g) (8 * v + u) g (8 * a + b) = hw (8 * a + b) := by
        unfold zu
        rw [if_neg (by omega), if_neg (by omega)]
      rw [e, w2 a b ha hb]
      rfl
  · rw [zrl2_bit, zrl2_bit, w3 a b ha hb]
    by_cases c : (a = v ∧ b = u) ∨ (a = u ∧ b = v)
    · rw [if_pos c, if_pos (by omega)]
    · rw [if_neg c, if_neg (by omega)]
  · rw [zrl2_bit, zrl2_bit, w4 a b ha hb]
    by_cases c : (a = v ∧ b = u) ∨ (a = u ∧ b = v)
    · rw [if_pos c, if_pos (by omega)]
    · rw [if_neg c, if_neg (by omega)]
  · rw [zrl2_bit, zrl2_bit]
    by_cases c : (a = v ∧ b = u) ∨ (a = u ∧ b = v)
    · rw [if_pos c, if_pos c]
      rcases (show g = 0 ∨ g = 1 ∨ g = 2 by omega) with rfl | rfl | rfl <;> decide
    · rw [if_neg c, if_neg c]
      exact w5 a b ha
  · rw [zrl2_bit, zrl2_bit, if_neg (by omega), if_neg (by omega)]
    exact w6 a ha
  · rw [zrl2_bit]
    by_cases c : (a = v ∧ b = u) ∨ (a = u ∧ b = v)
    · intro _; omega
    · rw [if_neg c]; exact w7 a b ha
  · rw [zrl2_bit]
    by_cases c : (a = v ∧ b = u) ∨ (a = u ∧ b = v)
    · intro _; omega
    · rw [if_neg c]; exact w8 a b ha
