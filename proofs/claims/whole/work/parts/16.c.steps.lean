theorem zhc {mk : Bool} {nh : Nat} {v : Int32} (h8 : nh ≤ 8) (h0 : mk = false → nh = 0) : (0 ≤ v ∧ v ≤ zo (bif mk then some nh else none) - 1) ↔ (0 ≤ v ∧ v < nI nh) := by
  cases mk with
  | false =>
    rw [h0 rfl]
    constructor
    · rintro ⟨a, b⟩
      have b : v ≤ -2 := b
      rw [Int32.le_iff_toInt_le] at a b
      have e1 : (0 : Int32).toInt = 0 := by decide
      have e2 : (-2 : Int32).toInt = -2 := by decide
      omega
    · rintro ⟨a, b⟩
      have b : v < 0 := b
      exact absurd a (fun q => zlt_nge b q)
  | true =>
    show (0 ≤ v ∧ v ≤ nI nh - 1) ↔ _
    rw [zle_m1 (by omega)]
theorem zout3 {v : Int32} (h : ¬ (0 ≤ v ∧ v ≤ 3)) : v.toInt < 0 ∨ 3 < v.toInt := by
  have e0 : (0 : Int32).toInt = 0 := by decide
  have e3 : (3 : Int32).toInt = 3 := by decide
  rw [Int32.le_iff_toInt_le, Int32.le_iff_toInt_le, e0, e3] at h
  omega
theorem zfst_cg {P Q : Nat → Bool} : ∀ n, (∀ j, j < n → P j = Q j) → zfst P n = zfst Q n
  | 0, _ => rfl
  | n + 1, h => by
    have e := zfst_cg n (fun j hj => h j (by omega))
    cases hz : zfst P n with
    | some k => rw [zfst_k hz, zfst_k (e ▸ hz)]
    | none =>
      cases hp : P n with
      | true => rw [zfst_s hz hp, zfst_s (e ▸ hz) ((h n (by omega)) ▸ hp)]
      | false => rw [zfst_n hz hp, zfst_n (e ▸ hz) ((h n (by omega)) ▸ hp)]
theorem zadd_cg {f g : Nat → Nat} : ∀ n, (∀ i, i < n → f i = g i) → zadd f n = zadd g n
  | 0, _ => rfl
  | n + 1, h => by
    show zadd f n + f n = zadd g n + g n
    rw [zadd_cg n (fun i hi => h i (by omega)), h n (by omega)]
theorem zadd_pos {f : Nat → Nat} : ∀ n, 0 < n → (∀ i, i < n → 1 ≤ f i) → 0 < zadd f n
  | 0, h, _ => by omega
  | n + 1, _, h => by
    have := h n (by omega)
    show 0 < zadd f n + f n
    omega
theorem zdim {a v : Nat} (ha : 1 ≤ a) (hv : 0 < v) : (a - 1) / v + 1 = a / v + if 0 < a % v then 1 else 0 := by
  have e := Nat.div_add_mod a v
  have hm := Nat.mod_lt a hv
  by_cases h : 0 < a % v
  · rw [if_pos h]
    have e1 : (a - 1) / v = a / v := by
      apply Nat.div_eq_of_lt_le
      · rw [Nat.mul_comm]; omega
      · rw [Nat.succ_mul, Nat.mul_comm]; omega
    rw [e1]
  · rw [if_neg h]
    have hq : 0 < a / v := by
      rcases Nat.eq_zero_or_pos (a / v) with q | q
      · rw [q] at e; omega
      · exact q
    obtain ⟨q, hq2⟩ : ∃ q, a / v = q + 1 := ⟨a / v - 1, by omega⟩
    rw [hq2] at e ⊢
    have e0 : v * (q + 1) = v * q + v := Nat.mul_succ v q
    have e1 : (a - 1) / v = q := by
      apply Nat.div_eq_of_lt_le
      · rw [Nat.mul_comm]; omega
      · rw [Nat.succ_mul, Nat.mul_comm]; omega
    rw [e1]
/-- pairs counted from the lesser or from the greater -/
theorem zpairs {P Q : Nat → Nat → Bool} (h : ∀ a b, a < 8 → b < 8 → P a b = Q b a) : ∀ n, n ≤ 8 → zadd (fun y => zcin (fun x => P y x) (y + 1) n) n = zadd (fun x => zcin (fun y => Q x y) 0 x) n
  | 0, _ => rfl
  | n + 1, hn => by
    have ih := zpairs h n (by omega)
    have key : ∀ k, k ≤ n → zadd (fun y => zcin (fun x => P y x) (y + 1) (n + 1)) k = zadd (fun y => zcin (fun x => P y x) (y + 1) n) k + zcin (fun y => Q n y) 0 k := by
      intro k
      induction k with
      | zero => intro _; rfl
      | succ k ihk =>
        intro hk
        have e := ihk (by omega)
        show zadd (fun y => zcin (fun x => P y x) (y + 1) (n + 1)) k + zcin (fun x => P k x) (k + 1) (n + 1) = zadd (fun y => zcin (fun x => P y x) (y + 1) n) k + zcin (fun x => P k x) (k + 1) n + zcin (fun y => Q n y) 0 (k + 1)
        cases hp : P k n with
        | true => rw [zcin_t (P := fun x => P k x) (by omega) hp, zcin_t (P := fun y => Q n y) (Nat.zero_le _) (by rw [← h k n (by omega) (by omega)]; exact hp)]; omega
        | false => rw [zcin_f (P := fun x => P k x) hp, zcin_f (P := fun y => Q n y) (by rw [← h k n (by omega) (by omega)]; exact hp)]; omega
    show zadd (fun y => zcin (fun x => P y x) (y + 1) (n + 1)) n + zcin (fun x => P n x) (n + 1) (n + 1) = zadd (fun x => zcin (fun y => Q x y) 0 x) n + zcin (fun y => Q n y) 0 n
    rw [key n (Nat.le_refl _), ih, zcin_0 _ _ _ (Nat.le_refl _)]
    omega

set_option maxHeartbeats 4000000 in
theorem S_chosen {l : Launch} {D : va_G} {cA cL : ClassId} {tys : List (ClassId × FieldType)} {ad am : Nat → Nat} {ou : Nat} (hl : l.stackTraces = false) {X M : va_W} (h : zInv ad am cA X M) (p0 p1 : Int32) (f : Nat → Int64) : zSt l D cA cL tys (am 0) ou (zInv ad am cA) (fun v => v.toInt64) yL_chosen (zwsW yL_chosen cL_chosen 5 (some .int) [(0, 10, 13, 24), (0, 10, 17, 13)]) (fun mc ms => { frames := 7, cells := mc, slots := ms, locals := 106 }) yX5_chosen (zws yX5_chosen cX5_chosen 3 (some .int)) { frames := 2, cells := 0, slots := 0, locals := 44 } [.ref (ad 0), .int p0, .int p1, .ref ou] [.ref (am 0), .int p0, .int p1] X M f := by
  obtain ⟨ro, lo, co, ks, nb, sl, si, we, ki, ap, tg, nu, bn, us, nh, ct, mk, ex, ob, oc, lc, fb, fs, cd, hw, ch, em, bx, sx, cn, nx, ns, pt, rfl, rfl, ok, hro, hHW, ⟨q1, q2, q3, q4, rfl, rfl, q7, q8, q9⟩, hoo, hns, hpt⟩ := h
  obtain ⟨o1, o2, o3, o4, o5, o6, o7, o8, o9, o10, o11, o12⟩ := id ok
  have hh : ∀ x, hw x < 2 ^ 31 := fun x => Nat.lt_of_le_of_lt (hHW.1 x) (by decide)
  by_cases h1 : (0 ≤ p0 ∧ p0 < nI nh)
  · by_cases h2 : (0 ≤ p1 ∧ p1 ≤ 3)
    · obtain ⟨i, hi, rfl⟩ := (zhas (by omega)).mp h1
      obtain ⟨t, g2, rfl⟩ := zrng (a := 0) (b := 3) (by decide) h2 (by decide)
      have hu31 : ∀ x, us x < 2 ^ 31 := fun x => Nat.lt_trans (q3 x) (by decide)
      have hs31 : ∀ x, sx x < 2 ^ 31 := fun x => Nat.lt_trans (q4 x) (by decide)
      cases mk with
      | false => exact absurd hi (by rw [q7 rfl]; omega)
      | true =>
        rcases (show t = 0 ∨ t = 1 ∨ t = 2 ∨ t = 3 by omega) with rfl | rfl | rfl | rfl
        · refine ⟨0, nI (bn i), (wX ad cA ro lo co ks nb sl si we ki ap tg nu bn us nh ct true ex ob oc lc fb fs), (wM am cA 0 nb ro lo co ks nu si we ki hw sl (some nh) (true && ex) bx sx cn nx ns pt), 0, 0, by decide, by decide, by decide, ⟨_, _, _, _, _, _, _, _, _, _, _, _, _, _, _, _, _, _, _, _, _, _, _, _, _, _, _, _, _, _, _, _, _, rfl, rfl, ok, hro, hHW, ⟨q1, q2, q3, q4, rfl, rfl, q7, q8, q9⟩, hoo, hns, hpt⟩, zmi_mono (w_chosen (nI i) (nI 0) (c_chosen_0 o3 q1 hu31 i hi)) ?_, zmi_mono (c_M_chosen_0 (ch := none) o3 nh q1 hs31 i hi) ?_, c_M_thrown⟩
          · rintro r w2 ⟨rfl, v9, w9, g, ⟨rfl, rfl⟩, hg, rfl⟩
            exact ⟨rfl, g, fun _ => hg, rfl⟩
          · rintro r w2 ⟨rfl, rfl⟩
            exact ⟨fun _ => (by rw [(q8 i hi).1]; rfl), rfl⟩
        · refine ⟨0, nI (us i), (wX ad cA ro lo co ks nb sl si we ki ap tg nu bn us nh ct true ex ob oc lc fb fs), (wM am cA 0 nb ro lo co ks nu si we ki hw sl (some nh) (true && ex) bx sx cn nx ns pt), 0, 0, by decide, by decide, by decide, ⟨_, _, _, _, _, _, _, _, _, _, _, _, _, _, _, _, _, _, _, _, _, _, _, _, _, _, _, _, _, _, _, _, _, rfl, rfl, ok, hro, hHW, ⟨q1, q2, q3, q4, rfl, rfl, q7, q8, q9⟩, hoo, hns, hpt⟩, zmi_mono (w_chosen (nI i) (nI 1) (c_chosen_1 o3 q1 hu31 i hi)) ?_, zmi_mono (c_M_chosen_1 (ch := none) o3 nh q1 hs31 i hi) ?_, c_M_thrown⟩
          · rintro r w2 ⟨rfl, v9, w9, g, ⟨rfl, rfl⟩, hg, rfl⟩
            exact ⟨rfl, g, fun _ => hg, rfl⟩
          · rintro r w2 ⟨rfl, rfl⟩
            exact ⟨fun _ => (by rw [(q8 i hi).2.1]), rfl⟩
        · refine ⟨0, nI (zsum si (us i) nu), (wX ad cA ro lo co ks nb sl si we ki ap tg nu bn us nh ct true ex ob oc lc fb fs), (wM am cA 0 nb ro lo co ks nu si we ki hw sl (some nh) (true && ex) bx sx cn nx ns pt), 0, 0, by decide, by decide, by decide, ⟨_, _, _, _, _, _, _, _, _, _, _, _, _, _, _, _, _, _, _, _, _, _, _, _, _, _, _, _, _, _, _, _, _, rfl, rfl, ok, hro, hHW, ⟨q1, q2, q3, q4, rfl, rfl, q7, q8, q9⟩, hoo, hns, hpt⟩, zmi_mono (w_chosen (nI i) (nI 2) (c_chosen_2 o3 q1 hu31 i hi)) ?_, zmi_mono (c_M_chosen_2 (ch := none) o3 nh q1 hs31 i hi) ?_, c_M_thrown⟩
          · rintro r w2 ⟨rfl, v9, w9, g, ⟨rfl, rfl⟩, hg, rfl⟩
            exact ⟨rfl, g, fun _ => hg, rfl⟩
          · rintro r w2 ⟨rfl, rfl⟩
            exact ⟨fun _ => (by rw [(q8 i hi).2.1]), rfl⟩
        · refine ⟨0, nI (zsum we (us i) nu), (wX ad cA ro lo co ks nb sl si we ki ap tg nu bn us nh ct true ex ob oc lc fb fs), (wM am cA 0 nb ro lo co ks nu si we ki hw sl (some nh) (true && ex) bx sx cn nx ns pt), 0, 0, by decide, by decide, by decide, ⟨_, _, _, _, _, _, _, _, _, _, _, _, _, _, _, _, _, _, _, _, _, _, _, _, _, _, _, _, _, _, _, _, _, rfl, rfl, ok, hro, hHW, ⟨q1, q2, q3, q4, rfl, rfl, q7, q8, q9⟩, hoo, hns, hpt⟩, zmi_mono (w_chosen (nI i) (nI 3) (c_chosen_3 o3 q1 hu31 i hi)) ?_, zmi_mono (c_M_chosen_3 (ch := none) o3 nh q1 hs31 i hi) ?_, c_M_thrown⟩
          · rintro r w2 ⟨rfl, v9, w9, g, ⟨rfl, rfl⟩, hg, rfl⟩
            exact ⟨rfl, g, fun _ => hg, rfl⟩
          · rintro r w2 ⟨rfl, rfl⟩
            exact ⟨fun _ => (by rw [(q8 i hi).2.1]), rfl⟩
    · refine ⟨2, 0, (wX ad cA ro lo co ks nb sl si we ki ap tg nu bn us nh ct mk ex ob oc lc fb fs), (wM am cA 2 nb ro lo co ks nu si we ki hw sl (bif mk then some nh else none) (mk && ex) bx sx cn nx ns pt), 1, 6, by decide, by decide, by decide, ⟨_, _, _, _, _, _, _, _, _, _, _, _, _, _, _, _, _, _, _, _, _, _, _, _, _, _, _, _, _, _, _, _, _, rfl, rfl, ok, hro, hHW, ⟨q1, q2, q3, q4, rfl, rfl, q7, q8, q9⟩, hoo, hns, hpt⟩, zmi_mono (w_chosen_x2 p0 p1 (c_chosen_x2 hl p0 p1 h1 (zout3 h2))) ?_, zmi_mono (c_M_chosen_x2 p0 p1 ((zhc q1 q7).mpr h1) h2) ?_, c_M_thrown⟩
      · rintro r w2 ⟨rfl, rfl⟩
        exact ⟨rfl, f, fun q => absurd q (by decide), rfl⟩
      · rintro r w2 ⟨rfl, rfl⟩
        exact ⟨fun q => absurd q (by decide), rfl⟩
  · refine ⟨1, 0, (wX ad cA ro lo co ks nb sl si we ki ap tg nu bn us nh ct mk ex ob oc lc fb fs), (wM am cA 1 nb ro lo co ks nu si we ki hw sl (bif mk then some nh else none) (mk && ex) bx sx cn nx ns pt), 1, 6, by decide, by decide, by decide, ⟨_, _, _, _, _, _, _, _, _, _, _, _, _, _, _, _, _, _, _, _, _, _, _, _, _, _, _, _, _, _, _, _, _, rfl, rfl, ok, hro, hHW, ⟨q1, q2, q3, q4, rfl, rfl, q7, q8, q9⟩, hoo, hns, hpt⟩, zmi_mono (w_chosen_x1 p0 p1 (c_chosen_x1 hl p0 p1 h1)) ?_, zmi_mono (c_M_chosen_x1 p0 p1 (fun q => h1 ((zhc q1 q7).mp q))) ?_, c_M_thrown⟩
    · rintro r w2 ⟨rfl, rfl⟩
      exact ⟨rfl, f, fun q => absurd q (by decide), rfl⟩
    · rintro r w2 ⟨rfl, rfl⟩
      exact ⟨fun q => absurd q (by decide), rfl⟩

set_option maxHeartbeats 4000000 in
theorem S_where {l : Launch} {D : va_G} {cA cL : ClassId} {tys : List (ClassId × FieldType)} {ad am : Nat → Nat} {ou : Nat} (hl : l.stackTraces = false) {X M : va_W} (h : zInv ad am cA X M) (p0 : Int32) (f : Nat → Int64) : zSt l D cA cL tys (am 0) ou (zInv ad am cA) (fun v => v.toInt64) yL_where (zwsW yL_where cL_where 4 (some .int) [(0, 9, 12, 24)]) (fun mc ms => { frames := 8, cells := mc, slots := ms, locals := 126 }) yX5_where (zws yX5_where cX5_where 3 (some .int)) { frames := 2, cells := 0, slots := 0, locals := 43 } [.ref (ad 0), .int p0, .ref ou] [.ref (am 0), .int p0] X M f := by
  obtain ⟨ro, lo, co, ks, nb, sl, si, we, ki, ap, tg, nu, bn, us, nh, ct, mk, ex, ob, oc, lc, fb, fs, cd, hw, ch, em, bx, sx, cn, nx, ns, pt, rfl, rfl, ok, hro, hHW, ⟨q1, q2, q3, q4, rfl, rfl, q7, q8, q9⟩, hoo, hns, hpt⟩ := h
  obtain ⟨o1, o2, o3, o4, o5, o6, o7, o8, o9, o10, o11, o12⟩ := id ok
  have hh : ∀ x, hw x < 2 ^ 31 := fun x => Nat.lt_of_le_of_lt (hHW.1 x) (by decide)
  by_cases h1 : (0 ≤ p0 ∧ p0 < nI nu)
  · obtain ⟨u, hu, rfl⟩ := (zhas (by omega)).mp h1
    have hu31 : ∀ x, us x < 2 ^ 31 := fun x => Nat.lt_trans (q3 x) (by decide)
    have hs31 : ∀ x, sx x < 2 ^ 31 := fun x => Nat.lt_trans (q4 x) (by decide)
    cases mk with
    | false =>
      refine ⟨0, zo (zfst (fun x => (us x).testBit u) nh), (wX ad cA ro lo co ks nb sl si we ki ap tg nu bn us nh ct false ex ob oc lc fb fs), (wM am cA 0 nb ro lo co ks nu si we ki hw sl none (false && ex) bx sx cn nx ns pt), 0, 0, by decide, by decide, by decide, ⟨_, _, _, _, _, _, _, _, _, _, _, _, _, _, _, _, _, _, _, _, _, _, _, _, _, _, _, _, _, _, _, _, _, rfl, rfl, ok, hro, hHW, ⟨q1, q2, q3, q4, rfl, rfl, q7, q8, q9⟩, hoo, hns, hpt⟩, zmi_mono (w_where (nI u) (c_where o3 q1 hu31 u hu)) ?_, zmi_mono (c_M_where_n (ch := none) o3 u hu) ?_, c_M_thrown⟩
      · rintro r w2 ⟨rfl, v9, w9, g, ⟨rfl, rfl⟩, hg, rfl⟩
        exact ⟨rfl, g, fun _ => hg, rfl⟩
      · rintro r w2 ⟨rfl, rfl⟩
        exact ⟨fun _ => (by rw [q7 rfl]; rfl), rfl⟩
    | true =>
      refine ⟨0, zo (zfst (fun x => (us x).testBit u) nh), (wX ad cA ro lo co ks nb sl si we ki ap tg nu bn us nh ct true ex ob oc lc fb fs), (wM am cA 0 nb ro lo co ks nu si we ki hw sl (some nh) (true && ex) bx sx cn nx ns pt), 0, 0, by decide, by decide, by decide, ⟨_, _, _, _, _, _, _, _, _, _, _, _, _, _, _, _, _, _, _, _, _, _, _, _, _, _, _, _, _, _, _, _, _, rfl, rfl, ok, hro, hHW, ⟨q1, q2, q3, q4, rfl, rfl, q7, q8, q9⟩, hoo, hns, hpt⟩, zmi_mono (w_where (nI u) (c_where o3 q1 hu31 u hu)) ?_, zmi_mono (c_M_where (ch := none) o3 nh q1 hs31 u hu) ?_, c_M_thrown⟩
      · rintro r w2 ⟨rfl, v9, w9, g, ⟨rfl, rfl⟩, hg, rfl⟩
        exact ⟨rfl, g, fun _ => hg, rfl⟩
      · rintro r w2 ⟨rfl, rfl⟩
        exact ⟨fun _ => (by rw [zfst_cg (P := fun k => (sx k).testBit u) (Q := fun k => (us k).testBit u) nh (fun j hj => by rw [(q8 j hj).2.1])]), rfl⟩
  · refine ⟨1, 0, (wX ad cA ro lo co ks nb sl si we ki ap tg nu bn us nh ct mk ex ob oc lc fb fs), (wM am cA 1 nb ro lo co ks nu si we ki hw sl (bif mk then some nh else none) (mk && ex) bx sx cn nx ns pt), 1, 6, by decide, by decide, by decide, ⟨_, _, _, _, _, _, _, _, _, _, _, _, _, _, _, _, _, _, _, _, _, _, _, _, _, _, _, _, _, _, _, _, _, rfl, rfl, ok, hro, hHW, ⟨q1, q2, q3, q4, rfl, rfl, q7, q8, q9⟩, hoo, hns, hpt⟩, zmi_mono (w_where_x1 p0 (c_where_x1 hl p0 h1)) ?_, zmi_mono (c_M_where_x1 o3 p0 h1) ?_, c_M_thrown⟩
    · rintro r w2 ⟨rfl, rfl⟩
      exact ⟨rfl, f, fun q => absurd q (by decide), rfl⟩
    · rintro r w2 ⟨rfl, rfl⟩
      exact ⟨fun q => absurd q (by decide), rfl⟩

set_option maxHeartbeats 4000000 in
theorem S_used {l : Launch} {D : va_G} {cA cL : ClassId} {tys : List (ClassId × FieldType)} {ad am : Nat → Nat} {ou : Nat} (hl : l.stackTraces = false) {X M : va_W} (h : zInv ad am cA X M) (p0 : Int32) (f : Nat → Int64) : zSt l D cA cL tys (am 0) ou (zInv ad am cA) (fun v => v.toInt64) yL_used (zwsW yL_used cL_used 4 (some .int) [(0, 9, 12, 13), (0, 9, 15, 54), (0, 9, 18, 56)]) (fun mc ms => { frames := 8, cells := mc, slots := ms, locals := 130 }) yX5_used (zws yX5_used cX5_used 5 (some .int)) { frames := 2, cells := 0, slots := 0, locals := 44 } [.ref (ad 0), .int p0, .ref ou] [.ref (am 0), .int p0] X M f := by
  obtain ⟨ro, lo, co, ks, nb, sl, si, we, ki, ap, tg, nu, bn, us, nh, ct, mk, ex, ob, oc, lc, fb, fs, cd, hw, ch, em, bx, sx, cn, nx, ns, pt, rfl, rfl, ok, hro, hHW, ⟨q1, q2, q3, q4, rfl, rfl, q7, q8, q9⟩, hoo, hns, hpt⟩ := h
  obtain ⟨o1, o2, o3, o4, o5, o6, o7, o8, o9, o10, o11, o12⟩ := id ok
  have hh : ∀ x, hw x < 2 ^ 31 := fun x => Nat.lt_of_le_of_lt (hHW.1 x) (by decide)
  by_cases h1 : (0 ≤ p0 ∧ p0 ≤ 1)
  · have hu31 : ∀ x, us x < 2 ^ 31 := fun x => Nat.lt_trans (q3 x) (by decide)
    have hs31 : ∀ x, sx x < 2 ^ 31 := fun x => Nat.lt_trans (q4 x) (by decide)
    cases mk with
    | false =>
      refine ⟨2, 0, (wX ad cA ro lo co ks nb sl si we ki ap tg nu bn us nh ct false ex ob oc lc fb fs), (wM am cA 2 nb ro lo co ks nu si we ki hw sl none (false && ex) bx sx cn nx ns pt), 1, 6, by decide, by decide, by decide, ⟨_, _, _, _, _, _, _, _, _, _, _, _, _, _, _, _, _, _, _, _, _, _, _, _, _, _, _, _, _, _, _, _, _, rfl, rfl, ok, hro, hHW, ⟨q1, q2, q3, q4, rfl, rfl, q7, q8, q9⟩, hoo, hns, hpt⟩, zmi_mono (w_used_x2 p0 (c_used_x2 hl p0 h1 rfl)) ?_, zmi_mono (c_M_used_x2 (ch := none) p0 h1) ?_, c_M_thrown⟩
      · rintro r w2 ⟨rfl, rfl⟩
        exact ⟨rfl, f, fun q => absurd q (by decide), rfl⟩
      · rintro r w2 ⟨rfl, rfl⟩
        exact ⟨fun q => absurd q (by decide), rfl⟩
    | true =>
      obtain ⟨sd, g1, rfl⟩ := zrng (a := 0) (b := 1) (by decide) h1 (by decide)
      rcases Nat.eq_zero_or_pos nh with hz | hz
      · subst hz
        refine ⟨3, 0, (wX ad cA ro lo co ks nb sl si we ki ap tg nu bn us 0 ct true ex ob oc lc fb fs), (wM am cA 3 nb ro lo co ks nu si we ki hw sl (some 0) (true && ex) bx sx cn nx ns pt), 1, 6, by decide, by decide, by decide, ⟨_, _, _, _, _, _, _, _, _, _, _, _, _, _, _, _, _, _, _, _, _, _, _, _, _, _, _, _, _, _, _, _, _, rfl, rfl, ok, hro, hHW, ⟨q1, q2, q3, q4, rfl, rfl, q7, q8, q9⟩, hoo, hns, hpt⟩, zmi_mono (w_used_x3 (nI sd) (c_used_x3 hl ok (by omega) hu31 (fun i hi => by omega) rfl sd g1.2 (Nat.gcd_zero_left 0))) ?_, zmi_mono (c_M_used_x3 (ch := none) (nI sd) h1) ?_, c_M_thrown⟩
        · rintro r w2 ⟨rfl, rfl⟩
          exact ⟨rfl, f, fun q => absurd q (by decide), rfl⟩
        · rintro r w2 ⟨rfl, rfl⟩
          exact ⟨fun q => absurd q (by decide), rfl⟩
      · have hg : 0 < Nat.gcd (zadd (fun i => zsum si (us i) nu) nh) (zadd (fun i => ro (bn i)) nh) := Nat.gcd_pos_of_pos_right _ (zadd_pos nh hz (fun i hi => hro _ (q8 i hi).2.2))
        have eA : (zadd (fun i => zsum si (sx i) nu) nh) = (zadd (fun i => zsum si (us i) nu) nh) := zadd_cg nh (fun i hi => by rw [(q8 i hi).2.1])
        have eB : (zadd (fun i => ro ((bx i).getD 0)) nh) = (zadd (fun i => ro (bn i)) nh) := zadd_cg nh (fun i hi => by rw [(q8 i hi).1]; rfl)
        have hg2 : 0 < Nat.gcd (zadd (fun i => zsum si (sx i) nu) nh) (zadd (fun i => ro ((bx i).getD 0)) nh) := by rw [eA, eB]; exact hg
        refine ⟨0, nI ((bif decide (sd = 0) then (zadd (fun i => zsum si (us i) nu) nh) else (zadd (fun i => ro (bn i)) nh)) / Nat.gcd (zadd (fun i => zsum si (us i) nu) nh) (zadd (fun i => ro (bn i)) nh)), (wX ad cA ro lo co ks nb sl si we ki ap tg nu bn us nh ct true ex ob oc lc fb fs), (wM am cA 0 nb ro lo co ks nu si we ki hw sl (some nh) (true && ex) bx sx cn nx ns pt), 0, 0, by decide, by decide, by decide, ⟨_, _, _, _, _, _, _, _, _, _, _, _, _, _, _, _, _, _, _, _, _, _, _, _, _, _, _, _, _, _, _, _, _, rfl, rfl, ok, hro, hHW, ⟨q1, q2, q3, q4, rfl, rfl, q7, q8, q9⟩, hoo, hns, hpt⟩, zmi_mono (w_used (nI sd) (c_used ok q1 hu31 (fun i hi => (q8 i hi).2.2) rfl sd g1.2 hg)) ?_, zmi_mono (c_M_used (ch := none) (zok0 ok) hh nh hz q1 hs31 (fun k hk => ⟨bn k, (q8 k hk).1, q2 k⟩) sd g1.2 hg2) ?_, c_M_thrown⟩
        · rintro r w2 ⟨rfl, v9, w9, g, ⟨rfl, rfl⟩, hg, rfl⟩
          exact ⟨rfl, g, fun _ => hg, rfl⟩
        · rintro r w2 ⟨rfl, rfl⟩
          exact ⟨fun _ => (by rw [eA, eB]), rfl⟩
  · refine ⟨1, 0, (wX ad cA ro lo co ks nb sl si we ki ap tg nu bn us nh ct mk ex ob oc lc fb fs), (wM am cA 1 nb ro lo co ks nu si we ki hw sl (bif mk then some nh else none) (mk && ex) bx sx cn nx ns pt), 1, 6, by decide, by decide, by decide, ⟨_, _, _, _, _, _, _, _, _, _, _, _, _, _, _, _, _, _, _, _, _, _, _, _, _, _, _, _, _, _, _, _, _, rfl, rfl, ok, hro, hHW, ⟨q1, q2, q3, q4, rfl, rfl, q7, q8, q9⟩, hoo, hns, hpt⟩, zmi_mono (w_used_x1 p0 (c_used_x1 hl p0 h1)) ?_, zmi_mono (c_M_used_x1 p0 h1) ?_, c_M_thrown⟩
    · rintro r w2 ⟨rfl, rfl⟩
      exact ⟨rfl, f, fun q => absurd q (by decide), rfl⟩
    · rintro r w2 ⟨rfl, rfl⟩
      exact ⟨fun q => absurd q (by decide), rfl⟩

set_option maxHeartbeats 4000000 in
theorem S_dimensional {l : Launch} {D : va_G} {cA cL : ClassId} {tys : List (ClassId × FieldType)} {ad am : Nat → Nat} {ou : Nat} (hl : l.stackTraces = false) {X M : va_W} (h : zInv ad am cA X M) (p0 p1 : Int32) (f : Nat → Int64) : zSt l D cA cL tys (am 0) ou (zInv ad am cA) (fun v => v.toInt64) yL_dimensional (zwsW yL_dimensional cL_dimensional 5 (some .int) [(0, 10, 13, 24), (0, 10, 17, 13), (0, 10, 21, 56)]) (fun mc ms => { frames := 8, cells := mc, slots := ms, locals := 127 }) yX5_dimensional (zws yX5_dimensional cX5_dimensional 3 (some .int)) { frames := 2, cells := 0, slots := 0, locals := 43 } [.ref (ad 0), .int p0, .int p1, .ref ou] [.ref (am 0), .int p0, .int p1] X M f := by
  obtain ⟨ro, lo, co, ks, nb, sl, si, we, ki, ap, tg, nu, bn, us, nh, ct, mk, ex, ob, oc, lc, fb, fs, cd, hw, ch, em, bx, sx, cn, nx, ns, pt, rfl, rfl, ok, hro, hHW, ⟨q1, q2, q3, q4, rfl, rfl, q7, q8, q9⟩, hoo, hns, hpt⟩ := h
  obtain ⟨o1, o2, o3, o4, o5, o6, o7, o8, o9, o10, o11, o12⟩ := id ok
  have hh : ∀ x, hw x < 2 ^ 31 := fun x => Nat.lt_of_le_of_lt (hHW.1 x) (by decide)
  by_cases h1 : (0 ≤ p0 ∧ p0 < nI nb)
  · by_cases h2 : ¬ p1 < 0
    · by_cases h3 : ¬ p1 = 0
      · obtain ⟨b, hb, rfl⟩ := (zhas (by omega)).mp h1
        obtain ⟨v, hv, rfl⟩ := nI_of h2
        have hv0 : 0 < v := Nat.pos_of_ne_zero (fun q => h3 (by rw [q]; rfl))
        refine ⟨0, nI ((ro b - 1) / v + 1), (wX ad cA ro lo co ks nb sl si we ki ap tg nu bn us nh ct mk ex ob oc lc fb fs), (wM am cA 0 nb ro lo co ks nu si we ki hw sl (bif mk then some nh else none) (mk && ex) bx sx cn nx ns pt), 0, 0, by decide, by decide, by decide, ⟨_, _, _, _, _, _, _, _, _, _, _, _, _, _, _, _, _, _, _, _, _, _, _, _, _, _, _, _, _, _, _, _, _, rfl, rfl, ok, hro, hHW, ⟨q1, q2, q3, q4, rfl, rfl, q7, q8, q9⟩, hoo, hns, hpt⟩, zmi_mono (w_dimensional (nI b) (nI v) (c_dim ok b v hb (hro b hb) hv0 hv)) ?_, zmi_mono (c_M_dim (zok0 ok) hh b v hb hv0 hv) ?_, c_M_thrown⟩
        · rintro r w2 ⟨rfl, v9, w9, g, ⟨rfl, rfl⟩, hg, rfl⟩
          exact ⟨rfl, g, fun _ => hg, rfl⟩
        · rintro r w2 ⟨rfl, rfl⟩
          exact ⟨fun _ => (by rw [zdim (hro b hb) hv0]), rfl⟩
      · refine ⟨3, 0, (wX ad cA ro lo co ks nb sl si we ki ap tg nu bn us nh ct mk ex ob oc lc fb fs), (wM am cA 3 nb ro lo co ks nu si we ki hw sl (bif mk then some nh else none) (mk && ex) bx sx cn nx ns pt), 1, 6, by decide, by decide, by decide, ⟨_, _, _, _, _, _, _, _, _, _, _, _, _, _, _, _, _, _, _, _, _, _, _, _, _, _, _, _, _, _, _, _, _, rfl, rfl, ok, hro, hHW, ⟨q1, q2, q3, q4, rfl, rfl, q7, q8, q9⟩, hoo, hns, hpt⟩, zmi_mono (w_dimensional_x3 p0 p1 (c_dim_x3 hl p0 p1 h1 (Decidable.of_not_not h3))) ?_, zmi_mono (c_M_dim_x3 o1 p0 p1 h1 (Decidable.of_not_not h3)) ?_, c_M_thrown⟩
        · rintro r w2 ⟨rfl, rfl⟩
          exact ⟨rfl, f, fun q => absurd q (by decide), rfl⟩
        · rintro r w2 ⟨rfl, rfl⟩
          exact ⟨fun q => absurd q (by decide), rfl⟩
    · refine ⟨2, 0, (wX ad cA ro lo co ks nb sl si we ki ap tg nu bn us nh ct mk ex ob oc lc fb fs), (wM am cA 2 nb ro lo co ks nu si we ki hw sl (bif mk then some nh else none) (mk && ex) bx sx cn nx ns pt), 1, 6, by decide, by decide, by decide, ⟨_, _, _, _, _, _, _, _, _, _, _, _, _, _, _, _, _, _, _, _, _, _, _, _, _, _, _, _, _, _, _, _, _, rfl, rfl, ok, hro, hHW, ⟨q1, q2, q3, q4, rfl, rfl, q7, q8, q9⟩, hoo, hns, hpt⟩, zmi_mono (w_dimensional_x2 p0 p1 (c_dim_x2 hl p0 p1 h1 (Decidable.of_not_not h2))) ?_, zmi_mono (c_M_dim_x2 o1 p0 p1 h1 (Decidable.of_not_not h2)) ?_, c_M_thrown⟩
      · rintro r w2 ⟨rfl, rfl⟩
        exact ⟨rfl, f, fun q => absurd q (by decide), rfl⟩
      · rintro r w2 ⟨rfl, rfl⟩
        exact ⟨fun q => absurd q (by decide), rfl⟩
  · refine ⟨1, 0, (wX ad cA ro lo co ks nb sl si we ki ap tg nu bn us nh ct mk ex ob oc lc fb fs), (wM am cA 1 nb ro lo co ks nu si we ki hw sl (bif mk then some nh else none) (mk && ex) bx sx cn nx ns pt), 1, 6, by decide, by decide, by decide, ⟨_, _, _, _, _, _, _, _, _, _, _, _, _, _, _, _, _, _, _, _, _, _, _, _, _, _, _, _, _, _, _, _, _, rfl, rfl, ok, hro, hHW, ⟨q1, q2, q3, q4, rfl, rfl, q7, q8, q9⟩, hoo, hns, hpt⟩, zmi_mono (w_dimensional_x1 p0 p1 (c_dim_x1 hl p0 p1 h1)) ?_, zmi_mono (c_M_dim_x1 o1 p0 p1 h1) ?_, c_M_thrown⟩
    · rintro r w2 ⟨rfl, rfl⟩
      exact ⟨rfl, f, fun q => absurd q (by decide), rfl⟩
    · rintro r w2 ⟨rfl, rfl⟩
      exact ⟨fun q => absurd q (by decide), rfl⟩

set_option maxHeartbeats 4000000 in
theorem S_count {l : Launch} {D : va_G} {cA cL : ClassId} {tys : List (ClassId × FieldType)} {ad am : Nat → Nat} {ou : Nat} (hl : l.stackTraces = false) {X M : va_W} (h : zInv ad am cA X M) (p0 : Int32) : zSq l D cA cL tys (zInv ad am cA) yX4_count (zws yX4_count cX4_count 2 (some .int)) { frames := 3, cells := 0, slots := 0, locals := 67 } yX5_count (zws yX5_count cX5_count 5 (some .int)) { frames := 1, cells := 0, slots := 0, locals := 24 } [.ref (ad 0), .int p0] [.ref (am 0), .int p0] X M := by
  obtain ⟨ro, lo, co, ks, nb, sl, si, we, ki, ap, tg, nu, bn, us, nh, ct, mk, ex, ob, oc, lc, fb, fs, cd, hw, ch, em, bx, sx, cn, nx, ns, pt, rfl, rfl, ok, hro, hHW, ⟨q1, q2, q3, q4, rfl, rfl, q7, q8, q9⟩, hoo, hns, hpt⟩ := h
  obtain ⟨o1, o2, o3, o4, o5, o6, o7, o8, o9, o10, o11, o12⟩ := id ok
  have hh : ∀ x, hw x < 2 ^ 31 := fun x => Nat.lt_of_le_of_lt (hHW.1 x) (by decide)
  by_cases h0 : p0 = 0
  · subst h0
    exact ⟨_, (wX ad cA ro lo co ks nb sl si we ki ap tg nu bn us nh ct mk ex ob oc lc fb fs), (wM am cA 0 nb ro lo co ks nu si we ki hw sl (bif mk then some nh else none) (mk && ex) bx sx cn nx ns pt), ⟨_, _, _, _, _, _, _, _, _, _, _, _, _, _, _, _, _, _, _, _, _, _, _, _, _, _, _, _, _, _, _, _, _, rfl, rfl, ok, hro, hHW, ⟨q1, q2, q3, q4, rfl, rfl, q7, q8, q9⟩, hoo, hns, hpt⟩, c_count_0 ok, c_M_count_0⟩
  by_cases h1 : p0 = 1
  · subst h1
    exact ⟨_, (wX ad cA ro lo co ks nb sl si we ki ap tg nu bn us nh ct mk ex ob oc lc fb fs), (wM am cA 0 nb ro lo co ks nu si we ki hw sl (bif mk then some nh else none) (mk && ex) bx sx cn nx ns pt), ⟨_, _, _, _, _, _, _, _, _, _, _, _, _, _, _, _, _, _, _, _, _, _, _, _, _, _, _, _, _, _, _, _, _, rfl, rfl, ok, hro, hHW, ⟨q1, q2, q3, q4, rfl, rfl, q7, q8, q9⟩, hoo, hns, hpt⟩, c_count_1 ok, c_M_count_1⟩
  by_cases h4 : p0 = 4
  · subst h4
    cases mk with
    | false =>
      exact ⟨_, (wX ad cA ro lo co ks nb sl si we ki ap tg nu bn us nh ct false ex ob oc lc fb fs), (wM am cA 0 nb ro lo co ks nu si we ki hw sl none (false && ex) bx sx cn nx ns pt), ⟨_, _, _, _, _, _, _, _, _, _, _, _, _, _, _, _, _, _, _, _, _, _, _, _, _, _, _, _, _, _, _, _, _, rfl, rfl, ok, hro, hHW, ⟨q1, q2, q3, q4, rfl, rfl, q7, q8, q9⟩, hoo, hns, hpt⟩, c_count_4 ok, c_M_count_4n (ch := none)⟩
    | true =>
      exact ⟨_, (wX ad cA ro lo co ks nb sl si we ki ap tg nu bn us nh ct true ex ob oc lc fb fs), (wM am cA 0 nb ro lo co ks nu si we ki hw sl (some nh) (true && ex) bx sx cn nx ns pt), ⟨_, _, _, _, _, _, _, _, _, _, _, _, _, _, _, _, _, _, _, _, _, _, _, _, _, _, _, _, _, _, _, _, _, rfl, rfl, ok, hro, hHW, ⟨q1, q2, q3, q4, rfl, rfl, q7, q8, q9⟩, hoo, hns, hpt⟩, c_count_4 ok, zmi_mono (c_M_count_4 (ch := none) nh q1 (fun k hk => ⟨bn k, (q8 k hk).1, q2 k⟩)) (by rintro r w2 ⟨rfl, rfl⟩; exact ⟨by rw [q9 rfl]; rfl, rfl⟩)⟩
  by_cases h2 : p0 = 2
  · subst h2
    have e9 : zadd (fun y => zcin (fun x => decide (zrel ap tg y x = 1)) (y + 1) nu) nu = zadd (fun x => zcin (fun y => decide (nI (hw (8 * x + y)) = (nI 2 : Int32) - 1)) 0 x) nu := by
      refine zpairs (P := fun y x => decide (zrel ap tg y x = 1)) (Q := fun x y => decide (nI (hw (8 * x + y)) = (nI 2 : Int32) - 1)) (fun a b ha hb => ?_) nu o3
      show decide (zrel ap tg a b = 1) = decide (nI (hw (8 * b + a)) = nI 1)
      rw [hHW.2.1 b a hb ha]
      have es : zrel ap tg b a = zrel ap tg a b := by unfold zrel; rw [hHW.2.2.1 a b ha hb, hHW.2.2.2.1 a b ha hb]
      rw [es]
      have e2 : zrel ap tg a b ≤ 2 := by rw [← hHW.2.1 a b ha hb]; exact hHW.1 _
      by_cases q : zrel ap tg a b = 1
      · rw [decide_eq_true q, q]; rfl
      · rw [decide_eq_false q, decide_eq_false (fun z => q ((nI_eq (by omega) (by decide)).mp z))]
    exact ⟨_, (wX ad cA ro lo co ks nb sl si we ki ap tg nu bn us nh ct mk ex ob oc lc fb fs), (wM am cA 0 nb ro lo co ks nu si we ki hw sl (bif mk then some nh else none) (mk && ex) bx sx cn nx ns pt), ⟨_, _, _, _, _, _, _, _, _, _, _, _, _, _, _, _, _, _, _, _, _, _, _, _, _, _, _, _, _, _, _, _, _, rfl, rfl, ok, hro, hHW, ⟨q1, q2, q3, q4, rfl, rfl, q7, q8, q9⟩, hoo, hns, hpt⟩, c_count_2 ok, zmi_mono (c_M_count o3 hh (nI 2) (by decide) (by decide) (by decide)) (by rintro r w2 ⟨rfl, rfl⟩; exact ⟨by rw [if_pos (by decide)]; exact congrArg nI e9.symm, rfl⟩)⟩
  by_cases h3 : p0 = 3
  · subst h3
    have e9 : zadd (fun y => zcin (fun x => decide (zrel ap tg y x = 2)) (y + 1) nu) nu = zadd (fun x => zcin (fun y => decide (nI (hw (8 * x + y)) = (nI 3 : Int32) - 1)) 0 x) nu := by
      refine zpairs (P := fun y x => decide (zrel ap tg y x = 2)) (Q := fun x y => decide (nI (hw (8 * x + y)) = (nI 3 : Int32) - 1)) (fun a b ha hb => ?_) nu o3
      show decide (zrel ap tg a b = 2) = decide (nI (hw (8 * b + a)) = nI 2)
      rw [hHW.2.1 b a hb ha]
      have es : zrel ap tg b a = zrel ap tg a b := by unfold zrel; rw [hHW.2.2.1 a b ha hb, hHW.2.2.2.1 a b ha hb]
      rw [es]
      have e2 : zrel ap tg a b ≤ 2 := by rw [← hHW.2.1 a b ha hb]; exact hHW.1 _
      by_cases q : zrel ap tg a b = 2
      · rw [decide_eq_true q, q]; rfl
      · rw [decide_eq_false q, decide_eq_false (fun z => q ((nI_eq (by omega) (by decide)).mp z))]
    exact ⟨_, (wX ad cA ro lo co ks nb sl si we ki ap tg nu bn us nh ct mk ex ob oc lc fb fs), (wM am cA 0 nb ro lo co ks nu si we ki hw sl (bif mk then some nh else none) (mk && ex) bx sx cn nx ns pt), ⟨_, _, _, _, _, _, _, _, _, _, _, _, _, _, _, _, _, _, _, _, _, _, _, _, _, _, _, _, _, _, _, _, _, rfl, rfl, ok, hro, hHW, ⟨q1, q2, q3, q4, rfl, rfl, q7, q8, q9⟩, hoo, hns, hpt⟩, c_count_3 ok, zmi_mono (c_M_count o3 hh (nI 3) (by decide) (by decide) (by decide)) (by rintro r w2 ⟨rfl, rfl⟩; exact ⟨by rw [if_pos (by decide)]; exact congrArg nI e9.symm, rfl⟩)⟩
  have ho : p0.toInt < 0 ∨ 4 < p0.toInt := by
    rcases Int.lt_or_le p0.toInt 0 with q | q
    · exact Or.inl q
    · rcases Int.lt_or_le 4 p0.toInt with z | z
      · exact Or.inr z
      · exfalso
        obtain ⟨j, hj, rfl⟩ := nI_of (x := p0) (by rw [Int32.lt_iff_toInt_lt]; show ¬ p0.toInt < 0; omega)
        rw [nI_toInt hj] at z
        rcases (show j = 0 ∨ j = 1 ∨ j = 2 ∨ j = 3 ∨ j = 4 by omega) with rfl | rfl | rfl | rfl | rfl
        · exact h0 rfl
        · exact h1 rfl
        · exact h2 rfl
        · exact h3 rfl
        · exact h4 rfl
  exact ⟨_, (wX ad cA ro lo co ks nb sl si we ki ap tg nu bn us nh ct mk ex ob oc lc fb fs), (wM am cA 0 nb ro lo co ks nu si we ki hw sl (bif mk then some nh else none) (mk && ex) bx sx cn nx ns pt), ⟨_, _, _, _, _, _, _, _, _, _, _, _, _, _, _, _, _, _, _, _, _, _, _, _, _, _, _, _, _, _, _, _, _, rfl, rfl, ok, hro, hHW, ⟨q1, q2, q3, q4, rfl, rfl, q7, q8, q9⟩, hoo, hns, hpt⟩, c_count_o p0 ho, zmi_mono (c_M_count o3 hh p0 h0 h1 h4) (by rintro r w2 ⟨rfl, rfl⟩; exact ⟨by rw [if_neg (fun q => q.elim h2 h3)], rfl⟩)⟩
