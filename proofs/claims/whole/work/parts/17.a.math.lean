/-! ===== the two sides' words on sets of units ===== -/
theorem zuni_bit (f : Nat → Nat) (a : Nat) : ∀ n i, (zuni f a n).testBit i = zany (fun y => a.testBit y && (f y).testBit i) n
  | 0, i => by simp [zuni, zany]
  | n + 1, i => by
    cases h : a.testBit n with
    | false =>
      rw [zuni_f h, zuni_bit f a n i]
      show _ = (zany _ n || (a.testBit n && (f n).testBit i))
      rw [h, Bool.false_and, Bool.or_false]
    | true =>
      rw [zuni_t h, Nat.testBit_or, zuni_bit f a n i]
      show _ = (zany _ n || (a.testBit n && (f n).testBit i))
      rw [h, Bool.true_and]
theorem zmk_eq (ks ki : Nat → Nat) (nu b a : Nat) : zmk ks ki nu b a = decide (zd (zuni (fun y => 2 ^ ki y) a nu) (ks b) = 0) := by
  unfold zmk
  cases hz : zany (fun x => a.testBit x && !(ks b).testBit (ki x)) nu with
  | true =>
    obtain ⟨x, hx, hp⟩ := (zany_iff _ nu).mp hz
    simp only [Bool.and_eq_true, Bool.not_eq_true'] at hp
    refine (decide_eq_false (fun q => ?_)).symm
    have h2 := zd_eq0.mp q (ki x) (by
      rw [zuni_bit]
      exact zany_t hx (by simp only [hp.1, Bool.true_and]; rw [Nat.testBit_two_pow]; exact decide_eq_true rfl))
    rw [hp.2] at h2
    cases h2
  | false =>
    refine (decide_eq_true (zd_eq0.mpr (fun i hi => ?_))).symm
    rw [zuni_bit, zany_iff] at hi
    obtain ⟨y, hy, h⟩ := hi
    simp only [Bool.and_eq_true] at h
    have e : ki y = i := of_decide_eq_true (Nat.testBit_two_pow ▸ h.2)
    cases hk : (ks b).testBit i with
    | true => rfl
    | false =>
      have := zany_t (P := fun x => a.testBit x && !(ks b).testBit (ki x)) hy (by simp only [h.1, e, hk]; rfl)
      rw [hz] at this
      cases this
theorem zmp_eq (ro lo ks : Nat → Nat) (sl : Nat) (si we ki : Nat → Nat) (nu b a : Nat) : zmp ro lo ks sl si we ki nu b a 3 = zfc ro lo ks sl si we ki nu a b := by
  unfold zmp zfc
  rw [zmk_eq]
  simp [Bool.and_assoc]
theorem zand_ne {a b : Nat} : ¬ a &&& b = 0 ↔ ∃ i, a.testBit i = true ∧ b.testBit i = true := by
  constructor
  · intro h
    apply Classical.byContradiction
    intro q
    apply h
    apply Nat.eq_of_testBit_eq
    intro i
    rw [Nat.testBit_and, Nat.zero_testBit]
    cases h1 : a.testBit i with
    | false => rfl
    | true =>
      cases h2 : b.testBit i with
      | false => rfl
      | true => exact absurd ⟨i, h1, h2⟩ q
  · rintro ⟨i, h1, h2⟩ h
    have : (a &&& b).testBit i = true := by rw [Nat.testBit_and, h1, h2]; rfl
    rw [h, Nat.zero_testBit] at this
    cases this
theorem zrel_1 {ap tg : Nat → Nat} {a b : Nat} : zrel ap tg a b = 1 ↔ (ap a).testBit b = true := by
  unfold zrel
  cases (ap a).testBit b <;> cases (tg a).testBit b <;> decide
theorem zrel_2 {ap tg : Nat → Nat} {a b : Nat} (h : (ap a).testBit b = true → (tg a).testBit b = false) : zrel ap tg a b = 2 ↔ (tg a).testBit b = true := by
  unfold zrel
  cases h1 : (ap a).testBit b with
  | true => rw [h h1]; decide
  | false => cases (tg a).testBit b <;> decide
theorem zma_eq {ap tg hw : Nat → Nat} {nu : Nat} (h : zHW ap tg hw nu) (hn : nu ≤ 8) (a : Nat) : zma hw nu a = zapt ap nu a := by
  obtain ⟨w1, w2, w3, w4, w5, w6, w7, w8⟩ := h
  unfold zma zapt
  rw [Bool.eq_iff_iff, zany_iff, zany_iff]
  constructor
  · rintro ⟨x, hx, hy⟩
    obtain ⟨y, hy, hp⟩ := (zany_iff _ x).mp hy
    simp only [Bool.and_eq_true, decide_eq_true_eq] at hp
    rw [w2 x y (by omega) (by omega), zrel_1] at hp
    exact ⟨x, hx, by simp only [Bool.and_eq_true, decide_eq_true_eq]; exact ⟨hp.1, zand_ne.mpr ⟨y, hp.2.2, hp.2.1⟩⟩⟩
  · rintro ⟨x, hx, hp⟩
    simp only [Bool.and_eq_true, decide_eq_true_eq] at hp
    obtain ⟨y, h1, h2⟩ := zand_ne.mp hp.2
    have hb := w7 x y (by omega) h1
    have hne : y ≠ x := by
      intro e
      rw [e, (w6 x (by omega)).1] at h1
      cases h1
    rcases Nat.lt_or_ge y x with q | q
    · exact ⟨x, hx, zany_t q (by simp only [Bool.and_eq_true, decide_eq_true_eq]; exact ⟨hp.1, h2, by rw [w2 x y (by omega) (by omega)]; exact zrel_1.mpr h1⟩)⟩
    · exact ⟨y, hb.2, zany_t (show x < y by omega) (by simp only [Bool.and_eq_true, decide_eq_true_eq]; exact ⟨h2, hp.1, by rw [w2 y x (by omega) (by omega)]; exact zrel_1.mpr (by rw [w3 y x (by omega) (by omega)]; exact h1)⟩)⟩
theorem zmw_eq {ap tg hw : Nat → Nat} {nu : Nat} (h : zHW ap tg hw nu) (hn : nu ≤ 8) (a : Nat) : zmw hw nu a = zwhl tg nu a := by
  obtain ⟨w1, w2, w3, w4, w5, w6, w7, w8⟩ := h
  unfold zmw zwhl
  refine congrArg (fun b => !b) ?_
  rw [Bool.eq_iff_iff, zany_iff, zany_iff]
  constructor
  · rintro ⟨x, hx, hy⟩
    obtain ⟨y, hy, hp⟩ := (zany_iff _ nu).mp hy
    simp only [Bool.and_eq_true, decide_eq_true_eq, Bool.not_eq_true'] at hp
    rw [w2 x y (by omega) (by omega), zrel_2 (w5 x y (by omega))] at hp
    refine ⟨x, hx, ?_⟩
    simp only [Bool.and_eq_true, decide_eq_true_eq]
    refine ⟨hp.1, fun q => ?_⟩
    have := zd_eq0.mp q y hp.2.2
    rw [hp.2.1] at this
    cases this
  · rintro ⟨x, hx, hp⟩
    simp only [Bool.and_eq_true, decide_eq_true_eq] at hp
    have hex : ∃ y, (tg x).testBit y = true ∧ a.testBit y = false := by
      apply Classical.byContradiction
      intro q
      apply hp.2
      apply zd_eq0.mpr
      intro i hi
      cases hb : a.testBit i with
      | true => rfl
      | false => exact absurd ⟨i, hi, hb⟩ q
    obtain ⟨y, h1, h2⟩ := hex
    have hb := w8 x y (by omega) h1
    exact ⟨x, hx, zany_t hb.2 (by simp only [Bool.and_eq_true, decide_eq_true_eq, Bool.not_eq_true']; exact ⟨hp.1, h2, by rw [w2 x y (by omega) (by omega)]; exact (zrel_2 (w5 x y (by omega))).mpr h1⟩)⟩
theorem zmf_eq {ap tg hw : Nat → Nat} {nu : Nat} (h : zHW ap tg hw nu) (hn : nu ≤ 8) (ro lo ks : Nat → Nat) (sl : Nat) (si we ki : Nat → Nat) (b a : Nat) : zmf ro lo ks sl si we ki hw nu b a = zff ro lo ks sl si we ki ap tg nu a b := by
  unfold zmf zff
  rw [zmp_eq, zma_eq h hn, zmw_eq h hn]
  cases zfc ro lo ks sl si we ki nu a b <;> cases zapt ap nu a <;> cases zwhl tg nu a <;> rfl
