/-- Euclid, n steps at most -/
def zgd : Nat → Nat → Nat → Nat
  | 0, a, _ => a
  | n + 1, a, b => if b = 0 then a else zgd n b (a % b)
theorem zgcd_s (a b : Nat) : Nat.gcd a b = Nat.gcd b (a % b) := by
  rw [Nat.gcd_comm a b, Nat.gcd_rec b a, Nat.gcd_comm]
theorem zgd_ok : ∀ (k n a b : Nat), b < 2 ^ k → 2 * k + 1 ≤ n → zgd n a b = Nat.gcd a b
  | 0, n, a, b, hb, hn => by
    have h0 : b = 0 := by simp at hb; exact hb
    subst h0
    cases n with
    | zero => omega
    | succ n => show (if 0 = 0 then a else _) = _; rw [if_pos rfl, Nat.gcd_zero_right]
  | k + 1, n, a, b, hb, hn => by
    obtain ⟨n1, rfl⟩ : ∃ n1, n = n1 + 2 := ⟨n - 2, by omega⟩
    by_cases h0 : b = 0
    · subst h0
      show (if 0 = 0 then a else _) = _
      rw [if_pos rfl, Nat.gcd_zero_right]
    · show (if b = 0 then a else zgd (n1 + 1) b (a % b)) = _
      rw [if_neg h0, zgcd_s a b]
      by_cases h1 : a % b = 0
      · show (if a % b = 0 then b else _) = _
        rw [if_pos h1, h1, Nat.gcd_zero_right]
      · show (if a % b = 0 then b else zgd n1 (a % b) (b % (a % b))) = _
        rw [if_neg h1, zgcd_s b (a % b)]
        have hr : a % b < b := Nat.mod_lt a (by omega)
        have hq := Nat.mod_lt b (show 0 < a % b by omega)
        have hd := Nat.div_add_mod b (a % b)
        have h3 : 1 ≤ b / (a % b) := (Nat.one_le_div_iff (by omega)).mpr (by omega)
        have h4 : a % b * 1 ≤ a % b * (b / (a % b)) := Nat.mul_le_mul_left _ h3
        have hp : 2 ^ (k + 1) = 2 * 2 ^ k := by rw [Nat.pow_succ]; omega
        exact zgd_ok k n1 (a % b) (b % (a % b)) (by omega) (by omega)
theorem zgd_t {n a b : Nat} (h : ¬ b = 0) : zgd (n + 1) a b = zgd n b (a % b) := by
  show (if b = 0 then a else _) = _
  rw [if_neg h]
theorem zgd_0 {n a : Nat} : zgd n a 0 = a := by
  cases n with
  | zero => rfl
  | succ n => show (if 0 = 0 then a else _) = _; rw [if_pos rfl]

set_option maxHeartbeats 4000000 in
set_option maxRecDepth 100000 in
/-- commonDivisor -/
theorem c_X_gcd {l : Launch} {D : va_G} {tys : List (ClassId × FieldType)} {cA : ClassId} {w : va_W} (a b : Nat) (ha : a < 2 ^ 31) (hb : b < 2 ^ 31) : zMi l yX4_commonDivisor (zws yX4_commonDivisor cX4_commonDivisor 6 (some .int)) { frames := 0, cells := 0, slots := 0, locals := 0 } D zcl ((cA, .int) :: tys) zG [.int (nI a), .int (nI b)] w (fun r w2 => r = nI (zgd 1000 a b) ∧ w2 = w) 0 0 := by
  refine z_ofi (cc := cX4_commonDivisor) (maxL := 6) (ret := (some .int)) (by decide) rfl (Nat.le_of_ble_eq_true rfl) ?_
  intro p e s m below meth c A F hr hlk hnm
  have loop : ∀ (n i x y : Nat), i ≤ 1000 → 1001 ≤ i + n → x < 2 ^ 31 → y < 2 ^ 31 → zgd (1000 - i) x y = zgd 1000 a b → zW p l e (headSpec (zws yX4_commonDivisor cX4_commonDivisor 6 (some .int)) { frames := 0, cells := 0, slots := 0, locals := 0 }).room s m [.int (nI a), .int (nI b)].toArray below meth c 6 D zcl A 0 0 (MQ below (va_Qi (fun r w2 => r = nI (zgd 1000 a b) ∧ w2 = w) (zEnd D zcl A) A) [.int (nI a), .int (nI b)].toArray s 0 0 A) w [(0, .int (nI a)), (1, .int (nI b)), (2, .int (nI x)), (3, .int (nI y)), (4, .int (nI i))] 7 [] := by
    intro n
    induction n with
    | zero => intro i x y h1 h2; omega
    | succ n ih =>
      intro i x y hi1 hi2 hx hy hg
      refine z_iload F dX4_commonDivisor_7 rfl ?_
      refine z_sipush (v := 1000) F dX4_commonDivisor_9 (by decide) ?_
      refine z_icmp_ge (tgt := 35) F dX4_commonDivisor_12 (by decide) (fun c12 => ?_) (fun c12 => ?_)
      · have ei : i = 1000 := zge_end hi1 (by omega) c12
        refine z_iload_n F dX4_commonDivisor_35 rfl ?_
        exact z_iret F hr rfl hlk dX4_commonDivisor_36 ⟨by rw [← hg, ei]; rfl, rfl⟩ (Nat.le_of_ble_eq_true rfl) (Nat.le_of_ble_eq_true rfl)
      · have hi6 : i < 1000 := zge_on (by omega) hi1 c12
        refine z_iload_n F dX4_commonDivisor_15 rfl ?_
        refine z_if_le (tgt := 35) F dX4_commonDivisor_16 (by decide) (fun c16 => ?_) (fun c16 => ?_)
        · have n16 : y = 0 := by
            rcases Nat.eq_zero_or_pos y with q | q
            · exact q
            · exact absurd c16 (nI_nle q (by omega))
          refine z_iload_n F dX4_commonDivisor_35 rfl ?_
          exact z_iret F hr rfl hlk dX4_commonDivisor_36 ⟨by rw [← hg, n16, zgd_0], rfl⟩ (Nat.le_of_ble_eq_true rfl) (Nat.le_of_ble_eq_true rfl)
        · have n16 : ¬ y = 0 := fun q => c16 (by rw [q]; decide)
          refine z_iload_n F dX4_commonDivisor_19 rfl ?_
          refine z_iload_n F dX4_commonDivisor_20 rfl ?_
          refine z_irem F dX4_commonDivisor_21 (nI_ne0 (by omega) (by omega)) ?_
          refine z_topi (y := nI (x % y)) (pk_rem (by omega) (by omega) (by omega)) ?_
          refine z_istore F dX4_commonDivisor_22 (by decide) ?_
          refine z_iload_n F dX4_commonDivisor_24 rfl ?_
          refine z_istore_n F dX4_commonDivisor_25 (by decide) ?_
          refine z_iload F dX4_commonDivisor_26 rfl ?_
          refine z_istore_n F dX4_commonDivisor_28 (by decide) ?_
          refine z_iinc (v := nI (i + 1)) F dX4_commonDivisor_29 rfl (nI_1 i) (by decide) ?_
          refine z_goto (tgt := 7) F dX4_commonDivisor_32 (by decide) ?_
          have h9 := ih (i + 1) y (x % y) (by omega) (by omega) (by omega) (Nat.lt_trans (Nat.mod_lt x (by omega)) hy) (by rw [← hg, show 1000 - i = (1000 - (i + 1)) + 1 by omega, zgd_t n16])
          exact z_lv rfl h9
  refine z_iload_n F dX4_commonDivisor_0 rfl ?_
  refine z_istore_n F dX4_commonDivisor_1 (by decide) ?_
  refine z_iload_n F dX4_commonDivisor_2 rfl ?_
  refine z_istore_n F dX4_commonDivisor_3 (by decide) ?_
  refine z_iconst (v := 0) F dX4_commonDivisor_4 (by decide) ?_
  refine z_istore F dX4_commonDivisor_5 (by decide) ?_
  exact z_lv rfl (loop 1001 0 a b (by omega) (by omega) ha hb rfl)

set_option maxHeartbeats 4000000 in
set_option maxRecDepth 100000 in
theorem c_chosen_x1 {l : Launch} {D : va_G} {tys : List (ClassId × FieldType)} {ad : Nat → Nat} {cA : ClassId} {ro lo co ks : Nat → Nat} {nb sl : Nat} {si we ki ap tg : Nat → Nat} {nu : Nat} {bn us : Nat → Nat} {nh ct : Nat} {mk ex : Bool} {ob : Nat → Option Nat} {oc : Nat → Nat} {lc : Nat → Option Nat} {fb fs : Nat → Nat} (hl : l.stackTraces = false) (v1 v2 : Int32) (h1 : ¬ (0 ≤ v1 ∧ v1 < nI nh)) : zXi l yX4_chosen (zws yX4_chosen cX4_chosen 3 (some .int)) { frames := 6, cells := 1, slots := 6, locals := 84 } D zcl ((cA, .int) :: tys) zG [.ref (ad 0), .int v1, .int v2] (wX ad cA ro lo co ks nb sl si we ki ap tg nu bn us nh ct mk ex ob oc lc fb fs) (fun _ _ => False) (fun E w2 => E = "java/util/NoSuchElementException" ∧ w2 = (wX ad cA ro lo co ks nb sl si we ki ap tg nu bn us nh ct mk ex ob oc lc fb fs)) 1 6 := by
  refine zx_ofi (cc := cX4_chosen) (maxL := 3) (ret := (some .int)) (by decide) rfl (Nat.le_of_ble_eq_true rfl) ?_
  intro p e s m below meth c A F hr hlk hnm hex
  refine z_aload_n F dX4_chosen_0 rfl ?_
  refine z_get (ci := 4) (C := RX4) (T := TX4) (N := 4) F 0 2 dX4_chosen_1 inX4 kfX4_26 rfl rfl rfl (by decide) rfl ?_
  refine z_iload_n F dX4_chosen_4 rfl ?_
  refine z_callVi (w1 := ((ad 0, .inr (4, [.ref (ad 1), .ref (ad 6), .ref (ad 12), .ref (ad 15)])) :: (wC (ad 1) (ad 2) (ad 3) (ad 4) (ad 5) cA ro lo co ks nb sl ++ wU (ad 6) (ad 7) (ad 8) (ad 9) (ad 10) (ad 11) cA si we ki ap tg nu))) (w3 := (wE (ad 15) (ad 16) (ad 17) (ad 18) (ad 19) (ad 20) cA ob oc lc fb fs)) F (c_H_has v1) 0 rfl rfl (zcwV F.2.2.2.2.1 kcX1_has kmX4_112 kiX1_has ksX1_has knX1 hdX1_has rfl rfl ⟨(Nat.le_of_ble_eq_true rfl), (Nat.le_of_ble_eq_true rfl)⟩) dX4_chosen_5 rfl rfl rfl (Nat.le_of_ble_eq_true rfl) ⟨(Nat.le_of_ble_eq_true rfl), (Nat.le_of_ble_eq_true rfl)⟩ ?_
  rintro r w2 ⟨rfl, rfl⟩
  refine z_eq (ws2 := (wX ad cA ro lo co ks nb sl si we ki ap tg nu bn us nh ct mk ex ob oc lc fb fs)) rfl rfl rfl rfl ?_
  refine z_if_ne (tgt := 21) F dX4_chosen_8 (by decide) (fun c8 => ?_) (fun c8 => ?_)
  · exact absurd (zB_1.mp c8) (by rw [decide_eq_false h1]; decide)
  · exact zn_throwi F hl (cls := "java/util/NoSuchElementException") (Yn := "java/lang/RuntimeException") (text := "the choice has no such box") (names := ["java/lang/Exception"]) (ik := 116) (is := 118) (ic := 120) (ix := 13) (bytes := prog_16_method_4_code) bN_0 bN_1 bN_2 bN_5 (by decide) (by decide) (by decide) (F.2.2.2.2.1 _ klX4_116) (F.2.2.2.2.1 _ knJ_NoSuchElementException) (F.2.2.2.2.2.2.2.1.2.2.2.1 (118, "the choice has no such box") (List.mem_of_getElem? (i := 5) rfl)) (xat_NSE F.2.2.2.2.1 F.2.2.2.2.2.2.2.1) xgd_NSE F.2.2.2.2.2.2.2.1.2.2.2.2.1 F.2.2.2.2.2.2.2.1.2.2.2.2.2 hex dX4_chosen_11 dX4_chosen_14 dX4_chosen_15 dX4_chosen_17 dX4_chosen_20 (Nat.le_of_ble_eq_true rfl) (Nat.le_of_ble_eq_true rfl) (Nat.le_of_ble_eq_true rfl) (Nat.le_of_ble_eq_true rfl) hlk ⟨rfl, rfl⟩ (Nat.le_of_ble_eq_true rfl) (Nat.le_of_ble_eq_true rfl)

set_option maxHeartbeats 4000000 in
set_option maxRecDepth 100000 in
theorem c_chosen_x2 {l : Launch} {D : va_G} {tys : List (ClassId × FieldType)} {ad : Nat → Nat} {cA : ClassId} {ro lo co ks : Nat → Nat} {nb sl : Nat} {si we ki ap tg : Nat → Nat} {nu : Nat} {bn us : Nat → Nat} {nh ct : Nat} {mk ex : Bool} {ob : Nat → Option Nat} {oc : Nat → Nat} {lc : Nat → Option Nat} {fb fs : Nat → Nat} (hl : l.stackTraces = false) (v1 v2 : Int32) (h1 : (0 ≤ v1 ∧ v1 < nI nh)) (h2 : v2.toInt < 0 ∨ 3 < v2.toInt) : zXi l yX4_chosen (zws yX4_chosen cX4_chosen 3 (some .int)) { frames := 6, cells := 1, slots := 6, locals := 84 } D zcl ((cA, .int) :: tys) zG [.ref (ad 0), .int v1, .int v2] (wX ad cA ro lo co ks nb sl si we ki ap tg nu bn us nh ct mk ex ob oc lc fb fs) (fun _ _ => False) (fun E w2 => E = "java/lang/IllegalArgumentException" ∧ w2 = (wX ad cA ro lo co ks nb sl si we ki ap tg nu bn us nh ct mk ex ob oc lc fb fs)) 1 6 := by
  refine zx_ofi (cc := cX4_chosen) (maxL := 3) (ret := (some .int)) (by decide) rfl (Nat.le_of_ble_eq_true rfl) ?_
  intro p e s m below meth c A F hr hlk hnm hex
  refine z_aload_n F dX4_chosen_0 rfl ?_
  refine z_get (ci := 4) (C := RX4) (T := TX4) (N := 4) F 0 2 dX4_chosen_1 inX4 kfX4_26 rfl rfl rfl (by decide) rfl ?_
  refine z_iload_n F dX4_chosen_4 rfl ?_
  refine z_callVi (w1 := ((ad 0, .inr (4, [.ref (ad 1), .ref (ad 6), .ref (ad 12), .ref (ad 15)])) :: (wC (ad 1) (ad 2) (ad 3) (ad 4) (ad 5) cA ro lo co ks nb sl ++ wU (ad 6) (ad 7) (ad 8) (ad 9) (ad 10) (ad 11) cA si we ki ap tg nu))) (w3 := (wE (ad 15) (ad 16) (ad 17) (ad 18) (ad 19) (ad 20) cA ob oc lc fb fs)) F (c_H_has v1) 0 rfl rfl (zcwV F.2.2.2.2.1 kcX1_has kmX4_112 kiX1_has ksX1_has knX1 hdX1_has rfl rfl ⟨(Nat.le_of_ble_eq_true rfl), (Nat.le_of_ble_eq_true rfl)⟩) dX4_chosen_5 rfl rfl rfl (Nat.le_of_ble_eq_true rfl) ⟨(Nat.le_of_ble_eq_true rfl), (Nat.le_of_ble_eq_true rfl)⟩ ?_
  rintro r w2 ⟨rfl, rfl⟩
  refine z_eq (ws2 := (wX ad cA ro lo co ks nb sl si we ki ap tg nu bn us nh ct mk ex ob oc lc fb fs)) rfl rfl rfl rfl ?_
  refine z_if_ne (tgt := 21) F dX4_chosen_8 (by decide) (fun c8 => ?_) (fun c8 => ?_)
  · refine z_iload_n F dX4_chosen_21 rfl ?_
    refine z_tableOut (tgt := 102) F dX4_chosen_22 h2 (by decide) ?_
    exact zx_throwi F hl (cls := "java/lang/IllegalArgumentException") (text := "a box of the choice is asked for 0 .. 3") (names := ["java/lang/RuntimeException", "java/lang/Exception"]) (ik := 66) (is := 134) (ic := 70) (by decide) (by decide) (F.2.2.2.2.1 _ klX4_66) (F.2.2.2.2.1 _ knJ_IllegalArgumentException) (F.2.2.2.2.2.2.2.1.2.2.2.1 (134, "a box of the choice is asked for 0 .. 3") (List.mem_of_getElem? (i := 6) rfl)) (xat_IllegalArgumentException F.2.2.2.2.1 F.2.2.2.2.2.2.2.1) xgd_IllegalArgumentException_66 F.2.2.2.2.2.2.2.1.2.2.2.2.1 F.2.2.2.2.2.2.2.1.2.2.2.2.2 hex dX4_chosen_102 dX4_chosen_105 dX4_chosen_106 dX4_chosen_108 dX4_chosen_111 (Nat.le_of_ble_eq_true rfl) (Nat.le_of_ble_eq_true rfl) (Nat.le_of_ble_eq_true rfl) (Nat.le_of_ble_eq_true rfl) hlk ⟨rfl, rfl⟩ (Nat.le_of_ble_eq_true rfl) (Nat.le_of_ble_eq_true rfl)
  · exact absurd (zB_0.mp c8) (by rw [decide_eq_true h1]; decide)

set_option maxHeartbeats 4000000 in
set_option maxRecDepth 100000 in
/-- chosen, 0 -/
theorem c_chosen_0 {l : Launch} {D : va_G} {tys : List (ClassId × FieldType)} {ad : Nat → Nat} {cA : ClassId} {ro lo co ks : Nat → Nat} {nb sl : Nat} {si we ki ap tg : Nat → Nat} {nu : Nat} {bn us : Nat → Nat} {nh ct : Nat} {mk ex : Bool} {ob : Nat → Option Nat} {oc : Nat → Nat} {lc : Nat → Option Nat} {fb fs : Nat → Nat} (hn8 : nu ≤ 8) (hn : nh ≤ 8) (hb : ∀ x, us x < 2 ^ 31) (i : Nat) (hi : i < nh) : zMi l yX4_chosen (zws yX4_chosen cX4_chosen 3 (some .int)) { frames := 6, cells := 0, slots := 0, locals := 84 } D zcl ((cA, .int) :: tys) zG [.ref (ad 0), .int (nI i), .int (nI 0)] (wX ad cA ro lo co ks nb sl si we ki ap tg nu bn us nh ct mk ex ob oc lc fb fs) (fun r w2 => r = nI (bn i) ∧ w2 = (wX ad cA ro lo co ks nb sl si we ki ap tg nu bn us nh ct mk ex ob oc lc fb fs)) 0 0 := by
  refine z_ofi (cc := cX4_chosen) (maxL := 3) (ret := (some .int)) (by decide) rfl (Nat.le_of_ble_eq_true rfl) ?_
  intro p e s m below meth c A F hr hlk hnm
  refine z_aload_n F dX4_chosen_0 rfl ?_
  refine z_get (ci := 4) (C := RX4) (T := TX4) (N := 4) F 0 2 dX4_chosen_1 inX4 kfX4_26 rfl rfl rfl (by decide) rfl ?_
  refine z_iload_n F dX4_chosen_4 rfl ?_
  refine z_callVi (w1 := ((ad 0, .inr (4, [.ref (ad 1), .ref (ad 6), .ref (ad 12), .ref (ad 15)])) :: (wC (ad 1) (ad 2) (ad 3) (ad 4) (ad 5) cA ro lo co ks nb sl ++ wU (ad 6) (ad 7) (ad 8) (ad 9) (ad 10) (ad 11) cA si we ki ap tg nu))) (w3 := (wE (ad 15) (ad 16) (ad 17) (ad 18) (ad 19) (ad 20) cA ob oc lc fb fs)) F (c_H_has (nI i)) 0 rfl rfl (zcwV F.2.2.2.2.1 kcX1_has kmX4_112 kiX1_has ksX1_has knX1 hdX1_has rfl rfl ⟨(Nat.le_of_ble_eq_true rfl), (Nat.le_of_ble_eq_true rfl)⟩) dX4_chosen_5 rfl rfl rfl (Nat.le_of_ble_eq_true rfl) ⟨(Nat.le_of_ble_eq_true rfl), (Nat.le_of_ble_eq_true rfl)⟩ ?_
  rintro r w2 ⟨rfl, rfl⟩
  refine z_eq (ws2 := (wX ad cA ro lo co ks nb sl si we ki ap tg nu bn us nh ct mk ex ob oc lc fb fs)) rfl rfl rfl rfl ?_
  refine z_if_ne (tgt := 21) F dX4_chosen_8 (by decide) (fun c8 => ?_) (fun c8 => ?_)
  · refine z_iload_n F dX4_chosen_21 rfl ?_
    refine z_tableIn (off := 30) (tgt := 52) F dX4_chosen_22 (by decide) (by decide) rfl (by decide) ?_
    refine z_aload_n F dX4_chosen_52 rfl ?_
    refine z_get (ci := 4) (C := RX4) (T := TX4) (N := 4) F 0 2 dX4_chosen_53 inX4 kfX4_26 rfl rfl rfl (by decide) rfl ?_
    refine z_iload_n F dX4_chosen_56 rfl ?_
    refine z_callVi (w1 := ((ad 0, .inr (4, [.ref (ad 1), .ref (ad 6), .ref (ad 12), .ref (ad 15)])) :: (wC (ad 1) (ad 2) (ad 3) (ad 4) (ad 5) cA ro lo co ks nb sl ++ wU (ad 6) (ad 7) (ad 8) (ad 9) (ad 10) (ad 11) cA si we ki ap tg nu))) (w3 := (wE (ad 15) (ad 16) (ad 17) (ad 18) (ad 19) (ad 20) cA ob oc lc fb fs)) F (c_H_boxAt hn i hi) 0 rfl rfl (zcwV F.2.2.2.2.1 kcX1_boxAt kmX4_121 kiX1_boxAt ksX1_boxAt knX1 hdX1_boxAt rfl rfl ⟨(Nat.le_of_ble_eq_true rfl), (Nat.le_of_ble_eq_true rfl)⟩) dX4_chosen_57 rfl rfl rfl (Nat.le_of_ble_eq_true rfl) ⟨(Nat.le_of_ble_eq_true rfl), (Nat.le_of_ble_eq_true rfl)⟩ ?_
    rintro r w2 ⟨rfl, rfl⟩
    refine z_eq (ws2 := (wX ad cA ro lo co ks nb sl si we ki ap tg nu bn us nh ct mk ex ob oc lc fb fs)) rfl rfl rfl rfl ?_
    exact z_iret F hr rfl hlk dX4_chosen_60 ⟨rfl, rfl⟩ (Nat.le_of_ble_eq_true rfl) (Nat.le_of_ble_eq_true rfl)
  · exact absurd (zB_0.mp c8) (by rw [decide_eq_true ((zhas (by omega)).mpr ⟨i, hi, rfl⟩)]; decide)

set_option maxHeartbeats 4000000 in
set_option maxRecDepth 100000 in
/-- chosen, 1 -/
theorem c_chosen_1 {l : Launch} {D : va_G} {tys : List (ClassId × FieldType)} {ad : Nat → Nat} {cA : ClassId} {ro lo co ks : Nat → Nat} {nb sl : Nat} {si we ki ap tg : Nat → Nat} {nu : Nat} {bn us : Nat → Nat} {nh ct : Nat} {mk ex : Bool} {ob : Nat → Option Nat} {oc : Nat → Nat} {lc : Nat → Option Nat} {fb fs : Nat → Nat} (hn8 : nu ≤ 8) (hn : nh ≤ 8) (hb : ∀ x, us x < 2 ^ 31) (i : Nat) (hi : i < nh) : zMi l yX4_chosen (zws yX4_chosen cX4_chosen 3 (some .int)) { frames := 6, cells := 0, slots := 0, locals := 84 } D zcl ((cA, .int) :: tys) zG [.ref (ad 0), .int (nI i), .int (nI 1)] (wX ad cA ro lo co ks nb sl si we ki ap tg nu bn us nh ct mk ex ob oc lc fb fs) (fun r w2 => r = nI (us i) ∧ w2 = (wX ad cA ro lo co ks nb sl si we ki ap tg nu bn us nh ct mk ex ob oc lc fb fs)) 0 0 := by
  refine z_ofi (cc := cX4_chosen) (maxL := 3) (ret := (some .int)) (by decide) rfl (Nat.le_of_ble_eq_true rfl) ?_
  intro p e s m below meth c A F hr hlk hnm
  refine z_aload_n F dX4_chosen_0 rfl ?_
  refine z_get (ci := 4) (C := RX4) (T := TX4) (N := 4) F 0 2 dX4_chosen_1 inX4 kfX4_26 rfl rfl rfl (by decide) rfl ?_
  refine z_iload_n F dX4_chosen_4 rfl ?_
  refine z_callVi (w1 := ((ad 0, .inr (4, [.ref (ad 1), .ref (ad 6), .ref (ad 12), .ref (ad 15)])) :: (wC (ad 1) (ad 2) (ad 3) (ad 4) (ad 5) cA ro lo co ks nb sl ++ wU (ad 6) (ad 7) (ad 8) (ad 9) (ad 10) (ad 11) cA si we ki ap tg nu))) (w3 := (wE (ad 15) (ad 16) (ad 17) (ad 18) (ad 19) (ad 20) cA ob oc lc fb fs)) F (c_H_has (nI i)) 0 rfl rfl (zcwV F.2.2.2.2.1 kcX1_has kmX4_112 kiX1_has ksX1_has knX1 hdX1_has rfl rfl ⟨(Nat.le_of_ble_eq_true rfl), (Nat.le_of_ble_eq_true rfl)⟩) dX4_chosen_5 rfl rfl rfl (Nat.le_of_ble_eq_true rfl) ⟨(Nat.le_of_ble_eq_true rfl), (Nat.le_of_ble_eq_true rfl)⟩ ?_
  rintro r w2 ⟨rfl, rfl⟩
  refine z_eq (ws2 := (wX ad cA ro lo co ks nb sl si we ki ap tg nu bn us nh ct mk ex ob oc lc fb fs)) rfl rfl rfl rfl ?_
  refine z_if_ne (tgt := 21) F dX4_chosen_8 (by decide) (fun c8 => ?_) (fun c8 => ?_)
  · refine z_iload_n F dX4_chosen_21 rfl ?_
    refine z_tableIn (off := 39) (tgt := 61) F dX4_chosen_22 (by decide) (by decide) rfl (by decide) ?_
    refine z_aload_n F dX4_chosen_61 rfl ?_
    refine z_get (ci := 4) (C := RX4) (T := TX4) (N := 4) F 0 2 dX4_chosen_62 inX4 kfX4_26 rfl rfl rfl (by decide) rfl ?_
    refine z_iload_n F dX4_chosen_65 rfl ?_
    refine z_callVi (w1 := ((ad 0, .inr (4, [.ref (ad 1), .ref (ad 6), .ref (ad 12), .ref (ad 15)])) :: (wC (ad 1) (ad 2) (ad 3) (ad 4) (ad 5) cA ro lo co ks nb sl ++ wU (ad 6) (ad 7) (ad 8) (ad 9) (ad 10) (ad 11) cA si we ki ap tg nu))) (w3 := (wE (ad 15) (ad 16) (ad 17) (ad 18) (ad 19) (ad 20) cA ob oc lc fb fs)) F (c_H_setAt hn i hi) 0 rfl rfl (zcwV F.2.2.2.2.1 kcX1_setAt kmX4_125 kiX1_setAt ksX1_setAt knX1 hdX1_setAt rfl rfl ⟨(Nat.le_of_ble_eq_true rfl), (Nat.le_of_ble_eq_true rfl)⟩) dX4_chosen_66 rfl rfl rfl (Nat.le_of_ble_eq_true rfl) ⟨(Nat.le_of_ble_eq_true rfl), (Nat.le_of_ble_eq_true rfl)⟩ ?_
    rintro r w2 ⟨rfl, rfl⟩
    refine z_eq (ws2 := (wX ad cA ro lo co ks nb sl si we ki ap tg nu bn us nh ct mk ex ob oc lc fb fs)) rfl rfl rfl rfl ?_
    exact z_iret F hr rfl hlk dX4_chosen_69 ⟨rfl, rfl⟩ (Nat.le_of_ble_eq_true rfl) (Nat.le_of_ble_eq_true rfl)
  · exact absurd (zB_0.mp c8) (by rw [decide_eq_true ((zhas (by omega)).mpr ⟨i, hi, rfl⟩)]; decide)

set_option maxHeartbeats 4000000 in
set_option maxRecDepth 100000 in
/-- chosen, 2 -/
theorem c_chosen_2 {l : Launch} {D : va_G} {tys : List (ClassId × FieldType)} {ad : Nat → Nat} {cA : ClassId} {ro lo co ks : Nat → Nat} {nb sl : Nat} {si we ki ap tg : Nat → Nat} {nu : Nat} {bn us : Nat → Nat} {nh ct : Nat} {mk ex : Bool} {ob : Nat → Option Nat} {oc : Nat → Nat} {lc : Nat → Option Nat} {fb fs : Nat → Nat} (hn8 : nu ≤ 8) (hn : nh ≤ 8) (hb : ∀ x, us x < 2 ^ 31) (i : Nat) (hi : i < nh) : zMi l yX4_chosen (zws yX4_chosen cX4_chosen 3 (some .int)) { frames := 6, cells := 0, slots := 0, locals := 84 } D zcl ((cA, .int) :: tys) zG [.ref (ad 0), .int (nI i), .int (nI 2)] (wX ad cA ro lo co ks nb sl si we ki ap tg nu bn us nh ct mk ex ob oc lc fb fs) (fun r w2 => r = nI (zsum si (us i) nu) ∧ w2 = (wX ad cA ro lo co ks nb sl si we ki ap tg nu bn us nh ct mk ex ob oc lc fb fs)) 0 0 := by
  refine z_ofi (cc := cX4_chosen) (maxL := 3) (ret := (some .int)) (by decide) rfl (Nat.le_of_ble_eq_true rfl) ?_
  intro p e s m below meth c A F hr hlk hnm
  refine z_aload_n F dX4_chosen_0 rfl ?_
  refine z_get (ci := 4) (C := RX4) (T := TX4) (N := 4) F 0 2 dX4_chosen_1 inX4 kfX4_26 rfl rfl rfl (by decide) rfl ?_
  refine z_iload_n F dX4_chosen_4 rfl ?_
  refine z_callVi (w1 := ((ad 0, .inr (4, [.ref (ad 1), .ref (ad 6), .ref (ad 12), .ref (ad 15)])) :: (wC (ad 1) (ad 2) (ad 3) (ad 4) (ad 5) cA ro lo co ks nb sl ++ wU (ad 6) (ad 7) (ad 8) (ad 9) (ad 10) (ad 11) cA si we ki ap tg nu))) (w3 := (wE (ad 15) (ad 16) (ad 17) (ad 18) (ad 19) (ad 20) cA ob oc lc fb fs)) F (c_H_has (nI i)) 0 rfl rfl (zcwV F.2.2.2.2.1 kcX1_has kmX4_112 kiX1_has ksX1_has knX1 hdX1_has rfl rfl ⟨(Nat.le_of_ble_eq_true rfl), (Nat.le_of_ble_eq_true rfl)⟩) dX4_chosen_5 rfl rfl rfl (Nat.le_of_ble_eq_true rfl) ⟨(Nat.le_of_ble_eq_true rfl), (Nat.le_of_ble_eq_true rfl)⟩ ?_
  rintro r w2 ⟨rfl, rfl⟩
  refine z_eq (ws2 := (wX ad cA ro lo co ks nb sl si we ki ap tg nu bn us nh ct mk ex ob oc lc fb fs)) rfl rfl rfl rfl ?_
  refine z_if_ne (tgt := 21) F dX4_chosen_8 (by decide) (fun c8 => ?_) (fun c8 => ?_)
  · refine z_iload_n F dX4_chosen_21 rfl ?_
    refine z_tableIn (off := 48) (tgt := 70) F dX4_chosen_22 (by decide) (by decide) rfl (by decide) ?_
    refine z_aload_n F dX4_chosen_70 rfl ?_
    refine z_get (ci := 4) (C := RX4) (T := TX4) (N := 4) F 0 1 dX4_chosen_71 inX4 kfX4_19 rfl rfl rfl (by decide) rfl ?_
    refine z_aload_n F dX4_chosen_74 rfl ?_
    refine z_get (ci := 4) (C := RX4) (T := TX4) (N := 4) F 0 2 dX4_chosen_75 inX4 kfX4_26 rfl rfl rfl (by decide) rfl ?_
    refine z_iload_n F dX4_chosen_78 rfl ?_
    refine z_callVi (w1 := ((ad 0, .inr (4, [.ref (ad 1), .ref (ad 6), .ref (ad 12), .ref (ad 15)])) :: (wC (ad 1) (ad 2) (ad 3) (ad 4) (ad 5) cA ro lo co ks nb sl ++ wU (ad 6) (ad 7) (ad 8) (ad 9) (ad 10) (ad 11) cA si we ki ap tg nu))) (w3 := (wE (ad 15) (ad 16) (ad 17) (ad 18) (ad 19) (ad 20) cA ob oc lc fb fs)) F (c_H_setAt hn i hi) 0 rfl rfl (zcwV F.2.2.2.2.1 kcX1_setAt kmX4_125 kiX1_setAt ksX1_setAt knX1 hdX1_setAt rfl rfl ⟨(Nat.le_of_ble_eq_true rfl), (Nat.le_of_ble_eq_true rfl)⟩) dX4_chosen_79 rfl rfl rfl (Nat.le_of_ble_eq_true rfl) ⟨(Nat.le_of_ble_eq_true rfl), (Nat.le_of_ble_eq_true rfl)⟩ ?_
    rintro r w2 ⟨rfl, rfl⟩
    refine z_eq (ws2 := (wX ad cA ro lo co ks nb sl si we ki ap tg nu bn us nh ct mk ex ob oc lc fb fs)) rfl rfl rfl rfl ?_
    refine z_callVi (w1 := ((ad 0, .inr (4, [.ref (ad 1), .ref (ad 6), .ref (ad 12), .ref (ad 15)])) :: wC (ad 1) (ad 2) (ad 3) (ad 4) (ad 5) cA ro lo co ks nb sl)) (w3 := (wH (ad 12) (ad 13) (ad 14) cA bn us nh ct mk ex ++ wE (ad 15) (ad 16) (ad 17) (ad 18) (ad 19) (ad 20) cA ob oc lc fb fs)) F (c_U_sizeOf hn8 (us i) (hb i)) 0 rfl rfl (zcwV F.2.2.2.2.1 kcX3_sizeOf kmX4_128 kiX3_sizeOf ksX3_sizeOf knX3 hdX3_sizeOf rfl rfl ⟨(Nat.le_of_ble_eq_true rfl), (Nat.le_of_ble_eq_true rfl)⟩) dX4_chosen_82 rfl rfl rfl (Nat.le_of_ble_eq_true rfl) ⟨(Nat.le_of_ble_eq_true rfl), (Nat.le_of_ble_eq_true rfl)⟩ ?_
    rintro r w2 ⟨rfl, rfl⟩
    refine z_eq (ws2 := (wX ad cA ro lo co ks nb sl si we ki ap tg nu bn us nh ct mk ex ob oc lc fb fs)) rfl rfl rfl rfl ?_
    exact z_iret F hr rfl hlk dX4_chosen_85 ⟨rfl, rfl⟩ (Nat.le_of_ble_eq_true rfl) (Nat.le_of_ble_eq_true rfl)
  · exact absurd (zB_0.mp c8) (by rw [decide_eq_true ((zhas (by omega)).mpr ⟨i, hi, rfl⟩)]; decide)

set_option maxHeartbeats 4000000 in
set_option maxRecDepth 100000 in
/-- chosen, 3 -/
theorem c_chosen_3 {l : Launch} {D : va_G} {tys : List (ClassId × FieldType)} {ad : Nat → Nat} {cA : ClassId} {ro lo co ks : Nat → Nat} {nb sl : Nat} {si we ki ap tg : Nat → Nat} {nu : Nat} {bn us : Nat → Nat} {nh ct : Nat} {mk ex : Bool} {ob : Nat → Option Nat} {oc : Nat → Nat} {lc : Nat → Option Nat} {fb fs : Nat → Nat} (hn8 : nu ≤ 8) (hn : nh ≤ 8) (hb : ∀ x, us x < 2 ^ 31) (i : Nat) (hi : i < nh) : zMi l yX4_chosen (zws yX4_chosen cX4_chosen 3 (some .int)) { frames := 6, cells := 0, slots := 0, locals := 84 } D zcl ((cA, .int) :: tys) zG [.ref (ad 0), .int (nI i), .int (nI 3)] (wX ad cA ro lo co ks nb sl si we ki ap tg nu bn us nh ct mk ex ob oc lc fb fs) (fun r w2 => r = nI (zsum we (us i) nu) ∧ w2 = (wX ad cA ro lo co ks nb sl si we ki ap tg nu bn us nh ct mk ex ob oc lc fb fs)) 0 0 := by
  refine z_ofi (cc := cX4_chosen) (maxL := 3) (ret := (some .int)) (by decide) rfl (Nat.le_of_ble_eq_true rfl) ?_
  intro p e s m below meth c A F hr hlk hnm
  refine z_aload_n F dX4_chosen_0 rfl ?_
  refine z_get (ci := 4) (C := RX4) (T := TX4) (N := 4) F 0 2 dX4_chosen_1 inX4 kfX4_26 rfl rfl rfl (by decide) rfl ?_
  refine z_iload_n F dX4_chosen_4 rfl ?_
  refine z_callVi (w1 := ((ad 0, .inr (4, [.ref (ad 1), .ref (ad 6), .ref (ad 12), .ref (ad 15)])) :: (wC (ad 1) (ad 2) (ad 3) (ad 4) (ad 5) cA ro lo co ks nb sl ++ wU (ad 6) (ad 7) (ad 8) (ad 9) (ad 10) (ad 11) cA si we ki ap tg nu))) (w3 := (wE (ad 15) (ad 16) (ad 17) (ad 18) (ad 19) (ad 20) cA ob oc lc fb fs)) F (c_H_has (nI i)) 0 rfl rfl (zcwV F.2.2.2.2.1 kcX1_has kmX4_112 kiX1_has ksX1_has knX1 hdX1_has rfl rfl ⟨(Nat.le_of_ble_eq_true rfl), (Nat.le_of_ble_eq_true rfl)⟩) dX4_chosen_5 rfl rfl rfl (Nat.le_of_ble_eq_true rfl) ⟨(Nat.le_of_ble_eq_true rfl), (Nat.le_of_ble_eq_true rfl)⟩ ?_
  rintro r w2 ⟨rfl, rfl⟩
  refine z_eq (ws2 := (wX ad cA ro lo co ks nb sl si we ki ap tg nu bn us nh ct mk ex ob oc lc fb fs)) rfl rfl rfl rfl ?_
  refine z_if_ne (tgt := 21) F dX4_chosen_8 (by decide) (fun c8 => ?_) (fun c8 => ?_)
  · refine z_iload_n F dX4_chosen_21 rfl ?_
    refine z_tableIn (off := 64) (tgt := 86) F dX4_chosen_22 (by decide) (by decide) rfl (by decide) ?_
    refine z_aload_n F dX4_chosen_86 rfl ?_
    refine z_get (ci := 4) (C := RX4) (T := TX4) (N := 4) F 0 1 dX4_chosen_87 inX4 kfX4_19 rfl rfl rfl (by decide) rfl ?_
    refine z_aload_n F dX4_chosen_90 rfl ?_
    refine z_get (ci := 4) (C := RX4) (T := TX4) (N := 4) F 0 2 dX4_chosen_91 inX4 kfX4_26 rfl rfl rfl (by decide) rfl ?_
    refine z_iload_n F dX4_chosen_94 rfl ?_
    refine z_callVi (w1 := ((ad 0, .inr (4, [.ref (ad 1), .ref (ad 6), .ref (ad 12), .ref (ad 15)])) :: (wC (ad 1) (ad 2) (ad 3) (ad 4) (ad 5) cA ro lo co ks nb sl ++ wU (ad 6) (ad 7) (ad 8) (ad 9) (ad 10) (ad 11) cA si we ki ap tg nu))) (w3 := (wE (ad 15) (ad 16) (ad 17) (ad 18) (ad 19) (ad 20) cA ob oc lc fb fs)) F (c_H_setAt hn i hi) 0 rfl rfl (zcwV F.2.2.2.2.1 kcX1_setAt kmX4_125 kiX1_setAt ksX1_setAt knX1 hdX1_setAt rfl rfl ⟨(Nat.le_of_ble_eq_true rfl), (Nat.le_of_ble_eq_true rfl)⟩) dX4_chosen_95 rfl rfl rfl (Nat.le_of_ble_eq_true rfl) ⟨(Nat.le_of_ble_eq_true rfl), (Nat.le_of_ble_eq_true rfl)⟩ ?_
    rintro r w2 ⟨rfl, rfl⟩
    refine z_eq (ws2 := (wX ad cA ro lo co ks nb sl si we ki ap tg nu bn us nh ct mk ex ob oc lc fb fs)) rfl rfl rfl rfl ?_
    refine z_callVi (w1 := ((ad 0, .inr (4, [.ref (ad 1), .ref (ad 6), .ref (ad 12), .ref (ad 15)])) :: wC (ad 1) (ad 2) (ad 3) (ad 4) (ad 5) cA ro lo co ks nb sl)) (w3 := (wH (ad 12) (ad 13) (ad 14) cA bn us nh ct mk ex ++ wE (ad 15) (ad 16) (ad 17) (ad 18) (ad 19) (ad 20) cA ob oc lc fb fs)) F (c_U_weightOf hn8 (us i) (hb i)) 0 rfl rfl (zcwV F.2.2.2.2.1 kcX3_weightOf kmX4_131 kiX3_weightOf ksX3_weightOf knX3 hdX3_weightOf rfl rfl ⟨(Nat.le_of_ble_eq_true rfl), (Nat.le_of_ble_eq_true rfl)⟩) dX4_chosen_98 rfl rfl rfl (Nat.le_of_ble_eq_true rfl) ⟨(Nat.le_of_ble_eq_true rfl), (Nat.le_of_ble_eq_true rfl)⟩ ?_
    rintro r w2 ⟨rfl, rfl⟩
    refine z_eq (ws2 := (wX ad cA ro lo co ks nb sl si we ki ap tg nu bn us nh ct mk ex ob oc lc fb fs)) rfl rfl rfl rfl ?_
    exact z_iret F hr rfl hlk dX4_chosen_101 ⟨rfl, rfl⟩ (Nat.le_of_ble_eq_true rfl) (Nat.le_of_ble_eq_true rfl)
  · exact absurd (zB_0.mp c8) (by rw [decide_eq_true ((zhas (by omega)).mpr ⟨i, hi, rfl⟩)]; decide)

/-- what bars the set k -/
def zbar (ro lo ks : Nat → Nat) (nb sl : Nat) (si we ki ap : Nat → Nat) (nu k : Nat) : Nat :=
  if zset (fun x => decide (zd (zuni (fun y => 2 ^ ki y) k nu) (ks x) = 0)) nb = 0 then 1 else
  if zset (fun x => decide (zd (zuni (fun y => 2 ^ ki y) k nu) (ks x) = 0)) nb &&& zset (fun x => decide (zsum si k nu + sl ≤ ro x)) nb = 0 then 2 else
  if (zset (fun x => decide (zd (zuni (fun y => 2 ^ ki y) k nu) (ks x) = 0)) nb &&& zset (fun x => decide (zsum si k nu + sl ≤ ro x)) nb) &&& zset (fun x => decide (zsum we k nu ≤ lo x)) nb = 0 then 3 else
  if zapt ap nu k = true then 4 else 0

set_option maxHeartbeats 4000000 in
set_option maxRecDepth 100000 in
theorem c_bar_x1 {l : Launch} {D : va_G} {tys : List (ClassId × FieldType)} {ad : Nat → Nat} {cA : ClassId} {ro lo co ks : Nat → Nat} {nb sl : Nat} {si we ki ap tg : Nat → Nat} {nu : Nat} {bn us : Nat → Nat} {nh ct : Nat} {mk ex : Bool} {ob : Nat → Option Nat} {oc : Nat → Nat} {lc : Nat → Option Nat} {fb fs : Nat → Nat} (hl : l.stackTraces = false) (v1 : Int32) (h1 : ¬ (0 ≤ v1 ∧ v1 < nI nu)) : zXi l yX4_bar (zws yX4_bar cX4_bar 4 (some .int)) { frames := 7, cells := 1, slots := 6, locals := 105 } D zcl ((cA, .int) :: tys) zG [.ref (ad 0), .int v1] (wX ad cA ro lo co ks nb sl si we ki ap tg nu bn us nh ct mk ex ob oc lc fb fs) (fun _ _ => False) (fun E w2 => E = "java/util/NoSuchElementException" ∧ w2 = (wX ad cA ro lo co ks nb sl si we ki ap tg nu bn us nh ct mk ex ob oc lc fb fs)) 1 6 := by
  refine zx_ofi (cc := cX4_bar) (maxL := 4) (ret := (some .int)) (by decide) rfl (Nat.le_of_ble_eq_true rfl) ?_
  intro p e s m below meth c A F hr hlk hnm hex
  refine z_aload_n F dX4_bar_0 rfl ?_
  refine z_iload_n F dX4_bar_1 rfl ?_
  refine zx_callVv (w1 := []) (w3 := []) F (c_X_unit_x hl v1 h1) 0 rfl rfl (zcwV F.2.2.2.2.1 kcX4_needUnit kmX4_62 kiX4_needUnit ksX4_needUnit knX4 hdX4_needUnit rfl rfl ⟨(Nat.le_of_ble_eq_true rfl), (Nat.le_of_ble_eq_true rfl)⟩) dX4_bar_2 rfl rfl rfl (Nat.le_of_ble_eq_true rfl) ⟨(Nat.le_of_ble_eq_true rfl), (Nat.le_of_ble_eq_true rfl)⟩ ?_ ?_
  · rintro E w2 ⟨rfl, rfl⟩
    exact zx_outi hex hlk ⟨rfl, rfl⟩ (Nat.le_of_ble_eq_true rfl) (Nat.le_of_ble_eq_true rfl)
  intro w2 h9
  exact h9.elim

set_option maxHeartbeats 4000000 in
set_option maxRecDepth 100000 in
/-- bar -/
theorem c_bar {l : Launch} {D : va_G} {tys : List (ClassId × FieldType)} {ad : Nat → Nat} {cA : ClassId} {ro lo co ks : Nat → Nat} {nb sl : Nat} {si we ki ap tg : Nat → Nat} {nu : Nat} {bn us : Nat → Nat} {nh ct : Nat} {mk ex : Bool} {ob : Nat → Option Nat} {oc : Nat → Nat} {lc : Nat → Option Nat} {fb fs : Nat → Nat} (ok : zok ro lo co ks nb sl si we ki ap tg nu) (u : Nat) (hu : u < nu) : zMi l yX4_bar (zws yX4_bar cX4_bar 4 (some .int)) { frames := 7, cells := 0, slots := 0, locals := 105 } D zcl ((cA, .int) :: tys) zG [.ref (ad 0), .int (nI u)] (wX ad cA ro lo co ks nb sl si we ki ap tg nu bn us nh ct mk ex ob oc lc fb fs) (fun r w2 => r = nI (zbar ro lo ks nb sl si we ki ap nu (zco tg nu u nu)) ∧ w2 = (wX ad cA ro lo co ks nb sl si we ki ap tg nu bn us nh ct mk ex ob oc lc fb fs)) 0 0 := by
  refine z_ofi (cc := cX4_bar) (maxL := 4) (ret := (some .int)) (by decide) rfl (Nat.le_of_ble_eq_true rfl) ?_
  intro p e s m below meth c A F hr hlk hnm
  obtain ⟨o1, o2, o3, o4, o5, o6, o7, o8, o9, o10, o11, o12⟩ := id ok
  have hk : (zco tg nu u nu) < 2 ^ 31 := Nat.lt_trans (zco_lt (k := 8) o12 (by omega) nu) (by decide)
  refine z_aload_n F dX4_bar_0 rfl ?_
  refine z_iload_n F dX4_bar_1 rfl ?_
  refine z_callVv0 F (c_X_unit (nI u) ((zhas (by omega)).mpr ⟨u, hu, rfl⟩)) 0 rfl rfl (zcwV F.2.2.2.2.1 kcX4_needUnit kmX4_62 kiX4_needUnit ksX4_needUnit knX4 hdX4_needUnit rfl rfl ⟨(Nat.le_of_ble_eq_true rfl), (Nat.le_of_ble_eq_true rfl)⟩) dX4_bar_2 rfl rfl (Nat.le_of_ble_eq_true rfl) ⟨(Nat.le_of_ble_eq_true rfl), (Nat.le_of_ble_eq_true rfl)⟩ ?_
  rintro w2 rfl
  refine z_aload_n F dX4_bar_5 rfl ?_
  refine z_get (ci := 4) (C := RX4) (T := TX4) (N := 4) F 0 1 dX4_bar_6 inX4 kfX4_19 rfl rfl rfl (by decide) rfl ?_
  refine z_iload_n F dX4_bar_9 rfl ?_
  refine z_callVi (w1 := ((ad 0, .inr (4, [.ref (ad 1), .ref (ad 6), .ref (ad 12), .ref (ad 15)])) :: wC (ad 1) (ad 2) (ad 3) (ad 4) (ad 5) cA ro lo co ks nb sl)) (w3 := (wH (ad 12) (ad 13) (ad 14) cA bn us nh ct mk ex ++ wE (ad 15) (ad 16) (ad 17) (ad 18) (ad 19) (ad 20) cA ob oc lc fb fs)) F (c_U_companyOf o3 o12 u hu) 0 rfl rfl (zcwV F.2.2.2.2.1 kcX3_companyOf kmX4_139 kiX3_companyOf ksX3_companyOf knX3 hdX3_companyOf rfl rfl ⟨(Nat.le_of_ble_eq_true rfl), (Nat.le_of_ble_eq_true rfl)⟩) dX4_bar_10 rfl rfl rfl (Nat.le_of_ble_eq_true rfl) ⟨(Nat.le_of_ble_eq_true rfl), (Nat.le_of_ble_eq_true rfl)⟩ ?_
  rintro r w2 ⟨rfl, rfl⟩
  refine z_eq (ws2 := (wX ad cA ro lo co ks nb sl si we ki ap tg nu bn us nh ct mk ex ob oc lc fb fs)) rfl rfl rfl rfl ?_
  refine z_istore_n F dX4_bar_13 (by decide) ?_
  refine z_aload_n F dX4_bar_14 rfl ?_
  refine z_get (ci := 4) (C := RX4) (T := TX4) (N := 4) F 0 0 dX4_bar_15 inX4 kfX4_12 rfl rfl rfl (by decide) rfl ?_
  refine z_aload_n F dX4_bar_18 rfl ?_
  refine z_get (ci := 4) (C := RX4) (T := TX4) (N := 4) F 0 1 dX4_bar_19 inX4 kfX4_19 rfl rfl rfl (by decide) rfl ?_
  refine z_iload_n F dX4_bar_22 rfl ?_
  refine z_callVi (w1 := ((ad 0, .inr (4, [.ref (ad 1), .ref (ad 6), .ref (ad 12), .ref (ad 15)])) :: wC (ad 1) (ad 2) (ad 3) (ad 4) (ad 5) cA ro lo co ks nb sl)) (w3 := (wH (ad 12) (ad 13) (ad 14) cA bn us nh ct mk ex ++ wE (ad 15) (ad 16) (ad 17) (ad 18) (ad 19) (ad 20) cA ob oc lc fb fs)) F (c_U_kindsOf o3 (fun x => Nat.lt_trans (o10 x) (by decide)) (zco tg nu u nu) hk) 0 rfl rfl (zcwV F.2.2.2.2.1 kcX3_kindsOf kmX4_142 kiX3_kindsOf ksX3_kindsOf knX3 hdX3_kindsOf rfl rfl ⟨(Nat.le_of_ble_eq_true rfl), (Nat.le_of_ble_eq_true rfl)⟩) dX4_bar_23 rfl rfl rfl (Nat.le_of_ble_eq_true rfl) ⟨(Nat.le_of_ble_eq_true rfl), (Nat.le_of_ble_eq_true rfl)⟩ ?_
  rintro r w2 ⟨rfl, rfl⟩
  refine z_eq (ws2 := (wX ad cA ro lo co ks nb sl si we ki ap tg nu bn us nh ct mk ex ob oc lc fb fs)) rfl rfl rfl rfl ?_
  refine z_callVi (w1 := [(ad 0, .inr (4, [.ref (ad 1), .ref (ad 6), .ref (ad 12), .ref (ad 15)]))]) (w3 := (wU (ad 6) (ad 7) (ad 8) (ad 9) (ad 10) (ad 11) cA si we ki ap tg nu ++ (wH (ad 12) (ad 13) (ad 14) cA bn us nh ct mk ex ++ wE (ad 15) (ad 16) (ad 17) (ad 18) (ad 19) (ad 20) cA ob oc lc fb fs))) F (c_C_thatTake o1 (zuni (fun y => 2 ^ ki y) (zco tg nu u nu) nu) (Nat.lt_trans (zuni_b o10) (by decide))) 0 rfl rfl (zcwV F.2.2.2.2.1 kcX0_thatTake kmX4_145 kiX0_thatTake ksX0_thatTake knX0 hdX0_thatTake rfl rfl ⟨(Nat.le_of_ble_eq_true rfl), (Nat.le_of_ble_eq_true rfl)⟩) dX4_bar_26 rfl rfl rfl (Nat.le_of_ble_eq_true rfl) ⟨(Nat.le_of_ble_eq_true rfl), (Nat.le_of_ble_eq_true rfl)⟩ ?_
  rintro r w2 ⟨rfl, rfl⟩
  refine z_eq (ws2 := (wX ad cA ro lo co ks nb sl si we ki ap tg nu bn us nh ct mk ex ob oc lc fb fs)) rfl rfl rfl rfl ?_
  refine z_istore_n F dX4_bar_29 (by decide) ?_
  refine z_iload_n F dX4_bar_30 rfl ?_
  refine z_if_ne (tgt := 36) F dX4_bar_31 (by decide) (fun c31 => ?_) (fun c31 => ?_)
  · refine z_iload_n F dX4_bar_36 rfl ?_
    refine z_aload_n F dX4_bar_37 rfl ?_
    refine z_get (ci := 4) (C := RX4) (T := TX4) (N := 4) F 0 0 dX4_bar_38 inX4 kfX4_12 rfl rfl rfl (by decide) rfl ?_
    refine z_aload_n F dX4_bar_41 rfl ?_
    refine z_get (ci := 4) (C := RX4) (T := TX4) (N := 4) F 0 1 dX4_bar_42 inX4 kfX4_19 rfl rfl rfl (by decide) rfl ?_
    refine z_iload_n F dX4_bar_45 rfl ?_
    refine z_callVi (w1 := ((ad 0, .inr (4, [.ref (ad 1), .ref (ad 6), .ref (ad 12), .ref (ad 15)])) :: wC (ad 1) (ad 2) (ad 3) (ad 4) (ad 5) cA ro lo co ks nb sl)) (w3 := (wH (ad 12) (ad 13) (ad 14) cA bn us nh ct mk ex ++ wE (ad 15) (ad 16) (ad 17) (ad 18) (ad 19) (ad 20) cA ob oc lc fb fs)) F (c_U_sizeOf o3 (zco tg nu u nu) hk) 0 rfl rfl (zcwV F.2.2.2.2.1 kcX3_sizeOf kmX4_128 kiX3_sizeOf ksX3_sizeOf knX3 hdX3_sizeOf rfl rfl ⟨(Nat.le_of_ble_eq_true rfl), (Nat.le_of_ble_eq_true rfl)⟩) dX4_bar_46 rfl rfl rfl (Nat.le_of_ble_eq_true rfl) ⟨(Nat.le_of_ble_eq_true rfl), (Nat.le_of_ble_eq_true rfl)⟩ ?_
    rintro r w2 ⟨rfl, rfl⟩
    refine z_eq (ws2 := (wX ad cA ro lo co ks nb sl si we ki ap tg nu bn us nh ct mk ex ob oc lc fb fs)) rfl rfl rfl rfl ?_
    refine z_callVi (w1 := [(ad 0, .inr (4, [.ref (ad 1), .ref (ad 6), .ref (ad 12), .ref (ad 15)]))]) (w3 := (wU (ad 6) (ad 7) (ad 8) (ad 9) (ad 10) (ad 11) cA si we ki ap tg nu ++ (wH (ad 12) (ad 13) (ad 14) cA bn us nh ct mk ex ++ wE (ad 15) (ad 16) (ad 17) (ad 18) (ad 19) (ad 20) cA ob oc lc fb fs))) F (c_C_withRoomFor o1 (zk9 o4 (by decide)) (zsum si (zco tg nu u nu) nu) (by have := zsum_b (a := (zco tg nu u nu)) o8 o3; omega)) 0 rfl rfl (zcwV F.2.2.2.2.1 kcX0_withRoomFor kmX4_148 kiX0_withRoomFor ksX0_withRoomFor knX0 hdX0_withRoomFor rfl rfl ⟨(Nat.le_of_ble_eq_true rfl), (Nat.le_of_ble_eq_true rfl)⟩) dX4_bar_49 rfl rfl rfl (Nat.le_of_ble_eq_true rfl) ⟨(Nat.le_of_ble_eq_true rfl), (Nat.le_of_ble_eq_true rfl)⟩ ?_
    rintro r w2 ⟨rfl, rfl⟩
    refine z_eq (ws2 := (wX ad cA ro lo co ks nb sl si we ki ap tg nu bn us nh ct mk ex ob oc lc fb fs)) rfl rfl rfl rfl ?_
    refine z_iand F dX4_bar_52 ?_
    refine z_topi (y := nI (zset (fun x => decide (zd (zuni (fun y => 2 ^ ki y) (zco tg nu u nu) nu) (ks x) = 0)) nb &&& zset (fun x => decide (zsum si (zco tg nu u nu) nu + sl ≤ ro x)) nb)) (zb_and _ _) ?_
    refine z_istore_n F dX4_bar_53 (by decide) ?_
    refine z_iload_n F dX4_bar_54 rfl ?_
    refine z_if_ne (tgt := 60) F dX4_bar_55 (by decide) (fun c55 => ?_) (fun c55 => ?_)
    · refine z_iload_n F dX4_bar_60 rfl ?_
      refine z_aload_n F dX4_bar_61 rfl ?_
      refine z_get (ci := 4) (C := RX4) (T := TX4) (N := 4) F 0 0 dX4_bar_62 inX4 kfX4_12 rfl rfl rfl (by decide) rfl ?_
      refine z_aload_n F dX4_bar_65 rfl ?_
      refine z_get (ci := 4) (C := RX4) (T := TX4) (N := 4) F 0 1 dX4_bar_66 inX4 kfX4_19 rfl rfl rfl (by decide) rfl ?_
      refine z_iload_n F dX4_bar_69 rfl ?_
      refine z_callVi (w1 := ((ad 0, .inr (4, [.ref (ad 1), .ref (ad 6), .ref (ad 12), .ref (ad 15)])) :: wC (ad 1) (ad 2) (ad 3) (ad 4) (ad 5) cA ro lo co ks nb sl)) (w3 := (wH (ad 12) (ad 13) (ad 14) cA bn us nh ct mk ex ++ wE (ad 15) (ad 16) (ad 17) (ad 18) (ad 19) (ad 20) cA ob oc lc fb fs)) F (c_U_weightOf o3 (zco tg nu u nu) hk) 0 rfl rfl (zcwV F.2.2.2.2.1 kcX3_weightOf kmX4_131 kiX3_weightOf ksX3_weightOf knX3 hdX3_weightOf rfl rfl ⟨(Nat.le_of_ble_eq_true rfl), (Nat.le_of_ble_eq_true rfl)⟩) dX4_bar_70 rfl rfl rfl (Nat.le_of_ble_eq_true rfl) ⟨(Nat.le_of_ble_eq_true rfl), (Nat.le_of_ble_eq_true rfl)⟩ ?_
      rintro r w2 ⟨rfl, rfl⟩
      refine z_eq (ws2 := (wX ad cA ro lo co ks nb sl si we ki ap tg nu bn us nh ct mk ex ob oc lc fb fs)) rfl rfl rfl rfl ?_
      refine z_callVi (w1 := [(ad 0, .inr (4, [.ref (ad 1), .ref (ad 6), .ref (ad 12), .ref (ad 15)]))]) (w3 := (wU (ad 6) (ad 7) (ad 8) (ad 9) (ad 10) (ad 11) cA si we ki ap tg nu ++ (wH (ad 12) (ad 13) (ad 14) cA bn us nh ct mk ex ++ wE (ad 15) (ad 16) (ad 17) (ad 18) (ad 19) (ad 20) cA ob oc lc fb fs))) F (c_C_thatBear o1 (zk9 o5 (by decide)) (zsum we (zco tg nu u nu) nu) (by have := zsum_b (a := (zco tg nu u nu)) o9 o3; omega)) 0 rfl rfl (zcwV F.2.2.2.2.1 kcX0_thatBear kmX4_151 kiX0_thatBear ksX0_thatBear knX0 hdX0_thatBear rfl rfl ⟨(Nat.le_of_ble_eq_true rfl), (Nat.le_of_ble_eq_true rfl)⟩) dX4_bar_73 rfl rfl rfl (Nat.le_of_ble_eq_true rfl) ⟨(Nat.le_of_ble_eq_true rfl), (Nat.le_of_ble_eq_true rfl)⟩ ?_
      rintro r w2 ⟨rfl, rfl⟩
      refine z_eq (ws2 := (wX ad cA ro lo co ks nb sl si we ki ap tg nu bn us nh ct mk ex ob oc lc fb fs)) rfl rfl rfl rfl ?_
      refine z_iand F dX4_bar_76 ?_
      refine z_topi (y := nI ((zset (fun x => decide (zd (zuni (fun y => 2 ^ ki y) (zco tg nu u nu) nu) (ks x) = 0)) nb &&& zset (fun x => decide (zsum si (zco tg nu u nu) nu + sl ≤ ro x)) nb) &&& zset (fun x => decide (zsum we (zco tg nu u nu) nu ≤ lo x)) nb)) (zb_and _ _) ?_
      refine z_istore_n F dX4_bar_77 (by decide) ?_
      refine z_iload_n F dX4_bar_78 rfl ?_
      refine z_if_ne (tgt := 84) F dX4_bar_79 (by decide) (fun c79 => ?_) (fun c79 => ?_)
      · refine z_aload_n F dX4_bar_84 rfl ?_
        refine z_get (ci := 4) (C := RX4) (T := TX4) (N := 4) F 0 1 dX4_bar_85 inX4 kfX4_19 rfl rfl rfl (by decide) rfl ?_
        refine z_iload_n F dX4_bar_88 rfl ?_
        refine z_callVi (w1 := ((ad 0, .inr (4, [.ref (ad 1), .ref (ad 6), .ref (ad 12), .ref (ad 15)])) :: wC (ad 1) (ad 2) (ad 3) (ad 4) (ad 5) cA ro lo co ks nb sl)) (w3 := (wH (ad 12) (ad 13) (ad 14) cA bn us nh ct mk ex ++ wE (ad 15) (ad 16) (ad 17) (ad 18) (ad 19) (ad 20) cA ob oc lc fb fs)) F (c_U_anyApart o3 (zk8 o11 (by decide)) (zco tg nu u nu) hk) 0 rfl rfl (zcwV F.2.2.2.2.1 kcX3_anyApart kmX4_154 kiX3_anyApart ksX3_anyApart knX3 hdX3_anyApart rfl rfl ⟨(Nat.le_of_ble_eq_true rfl), (Nat.le_of_ble_eq_true rfl)⟩) dX4_bar_89 rfl rfl rfl (Nat.le_of_ble_eq_true rfl) ⟨(Nat.le_of_ble_eq_true rfl), (Nat.le_of_ble_eq_true rfl)⟩ ?_
        rintro r w2 ⟨rfl, rfl⟩
        refine z_eq (ws2 := (wX ad cA ro lo co ks nb sl si we ki ap tg nu bn us nh ct mk ex ob oc lc fb fs)) rfl rfl rfl rfl ?_
        refine z_if_eq (tgt := 99) F dX4_bar_92 (by decide) (fun c92 => ?_) (fun c92 => ?_)
        · refine z_iconst (v := 0) F dX4_bar_99 (by decide) ?_
          exact z_iret F hr rfl hlk dX4_bar_100 ⟨by unfold zbar; rw [if_neg (fun q => c31 ((zb_eq0 (zset31 o1)).mpr q)), if_neg (fun q => c55 ((zb_eq0 (Nat.lt_of_le_of_lt Nat.and_le_left (zset31 o1))).mpr q)), if_neg (fun q => c79 ((zb_eq0 (Nat.lt_of_le_of_lt Nat.and_le_left (Nat.lt_of_le_of_lt Nat.and_le_left (zset31 o1)))).mpr q)), if_neg (fun q => by rw [show zapt ap nu (zco tg nu u nu) = false from zB_0.mp c92] at q; cases q)]; rfl, rfl⟩ (Nat.le_of_ble_eq_true rfl) (Nat.le_of_ble_eq_true rfl)
        · refine z_iconst (v := 4) F dX4_bar_95 (by decide) ?_
          refine z_goto (tgt := 100) F dX4_bar_96 (by decide) ?_
          exact z_iret F hr rfl hlk dX4_bar_100 ⟨by unfold zbar; rw [if_neg (fun q => c31 ((zb_eq0 (zset31 o1)).mpr q)), if_neg (fun q => c55 ((zb_eq0 (Nat.lt_of_le_of_lt Nat.and_le_left (zset31 o1))).mpr q)), if_neg (fun q => c79 ((zb_eq0 (Nat.lt_of_le_of_lt Nat.and_le_left (Nat.lt_of_le_of_lt Nat.and_le_left (zset31 o1)))).mpr q)), if_pos (show zapt ap nu (zco tg nu u nu) = true from zB_1.mp c92)]; rfl, rfl⟩ (Nat.le_of_ble_eq_true rfl) (Nat.le_of_ble_eq_true rfl)
      · refine z_iconst (v := 3) F dX4_bar_82 (by decide) ?_
        exact z_iret F hr rfl hlk dX4_bar_83 ⟨by unfold zbar; rw [if_neg (fun q => c31 ((zb_eq0 (zset31 o1)).mpr q)), if_neg (fun q => c55 ((zb_eq0 (Nat.lt_of_le_of_lt Nat.and_le_left (zset31 o1))).mpr q)), if_pos ((zb_eq0 (Nat.lt_of_le_of_lt Nat.and_le_left (Nat.lt_of_le_of_lt Nat.and_le_left (zset31 o1)))).mp c79)]; rfl, rfl⟩ (Nat.le_of_ble_eq_true rfl) (Nat.le_of_ble_eq_true rfl)
    · refine z_iconst (v := 2) F dX4_bar_58 (by decide) ?_
      exact z_iret F hr rfl hlk dX4_bar_59 ⟨by unfold zbar; rw [if_neg (fun q => c31 ((zb_eq0 (zset31 o1)).mpr q)), if_pos ((zb_eq0 (Nat.lt_of_le_of_lt Nat.and_le_left (zset31 o1))).mp c55)]; rfl, rfl⟩ (Nat.le_of_ble_eq_true rfl) (Nat.le_of_ble_eq_true rfl)
  · refine z_iconst (v := 1) F dX4_bar_34 (by decide) ?_
    exact z_iret F hr rfl hlk dX4_bar_35 ⟨by unfold zbar; rw [if_pos ((zb_eq0 (zset31 o1)).mp c31)]; rfl, rfl⟩ (Nat.le_of_ble_eq_true rfl) (Nat.le_of_ble_eq_true rfl)

set_option maxHeartbeats 4000000 in
set_option maxRecDepth 100000 in
theorem c_fits_x1 {l : Launch} {D : va_G} {tys : List (ClassId × FieldType)} {ad : Nat → Nat} {cA : ClassId} {ro lo co ks : Nat → Nat} {nb sl : Nat} {si we ki ap tg : Nat → Nat} {nu : Nat} {bn us : Nat → Nat} {nh ct : Nat} {mk ex : Bool} {ob : Nat → Option Nat} {oc : Nat → Nat} {lc : Nat → Option Nat} {fb fs : Nat → Nat} (hl : l.stackTraces = false) (v1 v2 : Int32) (h1 : ¬ (0 ≤ v1 ∧ v1 < nI nb)) : zXi l yX4_fits (zws yX4_fits cX4_fits 3 (some .boolean)) { frames := 7, cells := 1, slots := 6, locals := 105 } D zcl ((cA, .int) :: tys) zG [.ref (ad 0), .int v1, .int v2] (wX ad cA ro lo co ks nb sl si we ki ap tg nu bn us nh ct mk ex ob oc lc fb fs) (fun _ _ => False) (fun E w2 => E = "java/util/NoSuchElementException" ∧ w2 = (wX ad cA ro lo co ks nb sl si we ki ap tg nu bn us nh ct mk ex ob oc lc fb fs)) 1 6 := by
  refine zx_ofi (cc := cX4_fits) (maxL := 3) (ret := (some .boolean)) (by decide) rfl (Nat.le_of_ble_eq_true rfl) ?_
  intro p e s m below meth c A F hr hlk hnm hex
  refine z_aload_n F dX4_fits_0 rfl ?_
  refine z_iload_n F dX4_fits_1 rfl ?_
  refine zx_callVv (w1 := []) (w3 := []) F (c_X_bx_x hl v1 h1) 0 rfl rfl (zcwV F.2.2.2.2.1 kcX4_needBox kmX4_157 kiX4_needBox ksX4_needBox knX4 hdX4_needBox rfl rfl ⟨(Nat.le_of_ble_eq_true rfl), (Nat.le_of_ble_eq_true rfl)⟩) dX4_fits_2 rfl rfl rfl (Nat.le_of_ble_eq_true rfl) ⟨(Nat.le_of_ble_eq_true rfl), (Nat.le_of_ble_eq_true rfl)⟩ ?_ ?_
  · rintro E w2 ⟨rfl, rfl⟩
    exact zx_outi hex hlk ⟨rfl, rfl⟩ (Nat.le_of_ble_eq_true rfl) (Nat.le_of_ble_eq_true rfl)
  intro w2 h9
  exact h9.elim

set_option maxHeartbeats 4000000 in
set_option maxRecDepth 100000 in
theorem c_fits_x2 {l : Launch} {D : va_G} {tys : List (ClassId × FieldType)} {ad : Nat → Nat} {cA : ClassId} {ro lo co ks : Nat → Nat} {nb sl : Nat} {si we ki ap tg : Nat → Nat} {nu : Nat} {bn us : Nat → Nat} {nh ct : Nat} {mk ex : Bool} {ob : Nat → Option Nat} {oc : Nat → Nat} {lc : Nat → Option Nat} {fb fs : Nat → Nat} (hl : l.stackTraces = false) (v1 v2 : Int32) (h1 : (0 ≤ v1 ∧ v1 < nI nb)) (h2 : ¬ (0 ≤ v2 ∧ v2 < nI nu)) : zXi l yX4_fits (zws yX4_fits cX4_fits 3 (some .boolean)) { frames := 7, cells := 1, slots := 6, locals := 105 } D zcl ((cA, .int) :: tys) zG [.ref (ad 0), .int v1, .int v2] (wX ad cA ro lo co ks nb sl si we ki ap tg nu bn us nh ct mk ex ob oc lc fb fs) (fun _ _ => False) (fun E w2 => E = "java/util/NoSuchElementException" ∧ w2 = (wX ad cA ro lo co ks nb sl si we ki ap tg nu bn us nh ct mk ex ob oc lc fb fs)) 1 6 := by
  refine zx_ofi (cc := cX4_fits) (maxL := 3) (ret := (some .boolean)) (by decide) rfl (Nat.le_of_ble_eq_true rfl) ?_
  intro p e s m below meth c A F hr hlk hnm hex
  refine z_aload_n F dX4_fits_0 rfl ?_
  refine z_iload_n F dX4_fits_1 rfl ?_
  refine z_callVv0 F (c_X_bx v1 h1) 0 rfl rfl (zcwV F.2.2.2.2.1 kcX4_needBox kmX4_157 kiX4_needBox ksX4_needBox knX4 hdX4_needBox rfl rfl ⟨(Nat.le_of_ble_eq_true rfl), (Nat.le_of_ble_eq_true rfl)⟩) dX4_fits_2 rfl rfl (Nat.le_of_ble_eq_true rfl) ⟨(Nat.le_of_ble_eq_true rfl), (Nat.le_of_ble_eq_true rfl)⟩ ?_
  rintro w2 rfl
  refine z_aload_n F dX4_fits_5 rfl ?_
  refine z_iload_n F dX4_fits_6 rfl ?_
  refine zx_callVv (w1 := []) (w3 := []) F (c_X_unit_x hl v2 h2) 0 rfl rfl (zcwV F.2.2.2.2.1 kcX4_needUnit kmX4_62 kiX4_needUnit ksX4_needUnit knX4 hdX4_needUnit rfl rfl ⟨(Nat.le_of_ble_eq_true rfl), (Nat.le_of_ble_eq_true rfl)⟩) dX4_fits_7 rfl rfl rfl (Nat.le_of_ble_eq_true rfl) ⟨(Nat.le_of_ble_eq_true rfl), (Nat.le_of_ble_eq_true rfl)⟩ ?_ ?_
  · rintro E w2 ⟨rfl, rfl⟩
    exact zx_outi hex hlk ⟨rfl, rfl⟩ (Nat.le_of_ble_eq_true rfl) (Nat.le_of_ble_eq_true rfl)
  intro w2 h9
  exact h9.elim

set_option maxHeartbeats 4000000 in
set_option maxRecDepth 100000 in
/-- fits -/
theorem c_fits {l : Launch} {D : va_G} {tys : List (ClassId × FieldType)} {ad : Nat → Nat} {cA : ClassId} {ro lo co ks : Nat → Nat} {nb sl : Nat} {si we ki ap tg : Nat → Nat} {nu : Nat} {bn us : Nat → Nat} {nh ct : Nat} {mk ex : Bool} {ob : Nat → Option Nat} {oc : Nat → Nat} {lc : Nat → Option Nat} {fb fs : Nat → Nat} (ok : zok ro lo co ks nb sl si we ki ap tg nu) (b u : Nat) (hb : b < nb) (hu : u < nu) : zMi l yX4_fits (zws yX4_fits cX4_fits 3 (some .boolean)) { frames := 7, cells := 0, slots := 0, locals := 105 } D zcl ((cA, .int) :: tys) zG [.ref (ad 0), .int (nI b), .int (nI u)] (wX ad cA ro lo co ks nb sl si we ki ap tg nu bn us nh ct mk ex ob oc lc fb fs) (fun r w2 => r = zB (zfc ro lo ks sl si we ki nu (2 ^ u) b) ∧ w2 = (wX ad cA ro lo co ks nb sl si we ki ap tg nu bn us nh ct mk ex ob oc lc fb fs)) 0 0 := by
  refine z_ofi (cc := cX4_fits) (maxL := 3) (ret := (some .boolean)) (by decide) rfl (Nat.le_of_ble_eq_true rfl) ?_
  intro p e s m below meth c A F hr hlk hnm
  obtain ⟨o1, o2, o3, o4, o5, o6, o7, o8, o9, o10, o11, o12⟩ := id ok
  refine z_aload_n F dX4_fits_0 rfl ?_
  refine z_iload_n F dX4_fits_1 rfl ?_
  refine z_callVv0 F (c_X_bx (nI b) ((zhas (by omega)).mpr ⟨b, hb, rfl⟩)) 0 rfl rfl (zcwV F.2.2.2.2.1 kcX4_needBox kmX4_157 kiX4_needBox ksX4_needBox knX4 hdX4_needBox rfl rfl ⟨(Nat.le_of_ble_eq_true rfl), (Nat.le_of_ble_eq_true rfl)⟩) dX4_fits_2 rfl rfl (Nat.le_of_ble_eq_true rfl) ⟨(Nat.le_of_ble_eq_true rfl), (Nat.le_of_ble_eq_true rfl)⟩ ?_
  rintro w2 rfl
  refine z_aload_n F dX4_fits_5 rfl ?_
  refine z_iload_n F dX4_fits_6 rfl ?_
  refine z_callVv0 F (c_X_unit (nI u) ((zhas (by omega)).mpr ⟨u, hu, rfl⟩)) 0 rfl rfl (zcwV F.2.2.2.2.1 kcX4_needUnit kmX4_62 kiX4_needUnit ksX4_needUnit knX4 hdX4_needUnit rfl rfl ⟨(Nat.le_of_ble_eq_true rfl), (Nat.le_of_ble_eq_true rfl)⟩) dX4_fits_7 rfl rfl (Nat.le_of_ble_eq_true rfl) ⟨(Nat.le_of_ble_eq_true rfl), (Nat.le_of_ble_eq_true rfl)⟩ ?_
  rintro w2 rfl
  refine z_aload_n F dX4_fits_10 rfl ?_
  refine z_iconst (v := 1) F dX4_fits_11 (by decide) ?_
  refine z_iload_n F dX4_fits_12 rfl ?_
  refine z_ishl F dX4_fits_13 ?_
  refine z_topi (y := nI (2 ^ u)) (zb_shl1 u (by omega)) ?_
  refine z_callVi0 F (c_X_carry ok (2 ^ u) (Nat.pow_lt_pow_right (by decide) (by omega))) 0 rfl rfl (zcwV F.2.2.2.2.1 kcX4_boxesThatCarry kmX4_160 kiX4_boxesThatCarry ksX4_boxesThatCarry knX4 hdX4_boxesThatCarry rfl rfl ⟨(Nat.le_of_ble_eq_true rfl), (Nat.le_of_ble_eq_true rfl)⟩) dX4_fits_14 rfl rfl (Nat.le_of_ble_eq_true rfl) ⟨(Nat.le_of_ble_eq_true rfl), (Nat.le_of_ble_eq_true rfl)⟩ ?_
  rintro r w2 ⟨rfl, rfl⟩
  refine z_iload_n F dX4_fits_17 rfl ?_
  refine z_callSi0 F (c_holds (zset (zfc ro lo ks sl si we ki nu (2 ^ u)) nb) b (zset31 o1) (by omega)) (zcwS F.2.2.2.2.1 kcX4_holds kmX4_163 ktX4_holds knX4 hdX4_holds rfl rfl ⟨(Nat.le_of_ble_eq_true rfl), (Nat.le_of_ble_eq_true rfl)⟩) dX4_fits_18 rfl rfl (Nat.le_of_ble_eq_true rfl) ⟨(Nat.le_of_ble_eq_true rfl), (Nat.le_of_ble_eq_true rfl)⟩ ?_
  rintro r w2 ⟨rfl, rfl⟩
  exact z_iret F hr (zB_nar _) hlk dX4_fits_21 ⟨by rw [zset_bit, decide_eq_true hb]; rfl, rfl⟩ (Nat.le_of_ble_eq_true rfl) (Nat.le_of_ble_eq_true rfl)

set_option maxHeartbeats 4000000 in
set_option maxRecDepth 100000 in
theorem c_dim_x1 {l : Launch} {D : va_G} {tys : List (ClassId × FieldType)} {ad : Nat → Nat} {cA : ClassId} {ro lo co ks : Nat → Nat} {nb sl : Nat} {si we ki ap tg : Nat → Nat} {nu : Nat} {bn us : Nat → Nat} {nh ct : Nat} {mk ex : Bool} {ob : Nat → Option Nat} {oc : Nat → Nat} {lc : Nat → Option Nat} {fb fs : Nat → Nat} (hl : l.stackTraces = false) (v1 v2 : Int32) (h1 : ¬ (0 ≤ v1 ∧ v1 < nI nb)) : zXi l yX4_dimensional (zws yX4_dimensional cX4_dimensional 3 (some .int)) { frames := 7, cells := 1, slots := 6, locals := 105 } D zcl ((cA, .int) :: tys) zG [.ref (ad 0), .int v1, .int v2] (wX ad cA ro lo co ks nb sl si we ki ap tg nu bn us nh ct mk ex ob oc lc fb fs) (fun _ _ => False) (fun E w2 => E = "java/util/NoSuchElementException" ∧ w2 = (wX ad cA ro lo co ks nb sl si we ki ap tg nu bn us nh ct mk ex ob oc lc fb fs)) 1 6 := by
  refine zx_ofi (cc := cX4_dimensional) (maxL := 3) (ret := (some .int)) (by decide) rfl (Nat.le_of_ble_eq_true rfl) ?_
  intro p e s m below meth c A F hr hlk hnm hex
  refine z_aload_n F dX4_dimensional_0 rfl ?_
  refine z_iload_n F dX4_dimensional_1 rfl ?_
  refine zx_callVv (w1 := []) (w3 := []) F (c_X_bx_x hl v1 h1) 0 rfl rfl (zcwV F.2.2.2.2.1 kcX4_needBox kmX4_157 kiX4_needBox ksX4_needBox knX4 hdX4_needBox rfl rfl ⟨(Nat.le_of_ble_eq_true rfl), (Nat.le_of_ble_eq_true rfl)⟩) dX4_dimensional_2 rfl rfl rfl (Nat.le_of_ble_eq_true rfl) ⟨(Nat.le_of_ble_eq_true rfl), (Nat.le_of_ble_eq_true rfl)⟩ ?_ ?_
  · rintro E w2 ⟨rfl, rfl⟩
    exact zx_outi hex hlk ⟨rfl, rfl⟩ (Nat.le_of_ble_eq_true rfl) (Nat.le_of_ble_eq_true rfl)
  intro w2 h9
  exact h9.elim

set_option maxHeartbeats 4000000 in
set_option maxRecDepth 100000 in
theorem c_dim_x2 {l : Launch} {D : va_G} {tys : List (ClassId × FieldType)} {ad : Nat → Nat} {cA : ClassId} {ro lo co ks : Nat → Nat} {nb sl : Nat} {si we ki ap tg : Nat → Nat} {nu : Nat} {bn us : Nat → Nat} {nh ct : Nat} {mk ex : Bool} {ob : Nat → Option Nat} {oc : Nat → Nat} {lc : Nat → Option Nat} {fb fs : Nat → Nat} (hl : l.stackTraces = false) (v1 v2 : Int32) (h1 : (0 ≤ v1 ∧ v1 < nI nb)) (h2 : v2 < 0) : zXi l yX4_dimensional (zws yX4_dimensional cX4_dimensional 3 (some .int)) { frames := 7, cells := 1, slots := 6, locals := 105 } D zcl ((cA, .int) :: tys) zG [.ref (ad 0), .int v1, .int v2] (wX ad cA ro lo co ks nb sl si we ki ap tg nu bn us nh ct mk ex ob oc lc fb fs) (fun _ _ => False) (fun E w2 => E = "java/lang/IllegalArgumentException" ∧ w2 = (wX ad cA ro lo co ks nb sl si we ki ap tg nu bn us nh ct mk ex ob oc lc fb fs)) 1 6 := by
  refine zx_ofi (cc := cX4_dimensional) (maxL := 3) (ret := (some .int)) (by decide) rfl (Nat.le_of_ble_eq_true rfl) ?_
  intro p e s m below meth c A F hr hlk hnm hex
  refine z_aload_n F dX4_dimensional_0 rfl ?_
  refine z_iload_n F dX4_dimensional_1 rfl ?_
  refine z_callVv0 F (c_X_bx v1 h1) 0 rfl rfl (zcwV F.2.2.2.2.1 kcX4_needBox kmX4_157 kiX4_needBox ksX4_needBox knX4 hdX4_needBox rfl rfl ⟨(Nat.le_of_ble_eq_true rfl), (Nat.le_of_ble_eq_true rfl)⟩) dX4_dimensional_2 rfl rfl (Nat.le_of_ble_eq_true rfl) ⟨(Nat.le_of_ble_eq_true rfl), (Nat.le_of_ble_eq_true rfl)⟩ ?_
  rintro w2 rfl
  refine z_iload_n F dX4_dimensional_5 rfl ?_
  refine z_if_ge (tgt := 19) F dX4_dimensional_6 (by decide) (fun c6 => ?_) (fun c6 => ?_)
  · exact absurd c6 (fun q => zlt_nge h2 q)
  · exact zx_throwi F hl (cls := "java/lang/IllegalArgumentException") (text := "the divisor is below 0") (names := ["java/lang/RuntimeException", "java/lang/Exception"]) (ik := 66) (is := 183) (ic := 70) (by decide) (by decide) (F.2.2.2.2.1 _ klX4_66) (F.2.2.2.2.1 _ knJ_IllegalArgumentException) (F.2.2.2.2.2.2.2.1.2.2.2.1 (183, "the divisor is below 0") (List.mem_of_getElem? (i := 10) rfl)) (xat_IllegalArgumentException F.2.2.2.2.1 F.2.2.2.2.2.2.2.1) xgd_IllegalArgumentException_66 F.2.2.2.2.2.2.2.1.2.2.2.2.1 F.2.2.2.2.2.2.2.1.2.2.2.2.2 hex dX4_dimensional_9 dX4_dimensional_12 dX4_dimensional_13 dX4_dimensional_15 dX4_dimensional_18 (Nat.le_of_ble_eq_true rfl) (Nat.le_of_ble_eq_true rfl) (Nat.le_of_ble_eq_true rfl) (Nat.le_of_ble_eq_true rfl) hlk ⟨rfl, rfl⟩ (Nat.le_of_ble_eq_true rfl) (Nat.le_of_ble_eq_true rfl)

set_option maxHeartbeats 4000000 in
set_option maxRecDepth 100000 in
theorem c_dim_x3 {l : Launch} {D : va_G} {tys : List (ClassId × FieldType)} {ad : Nat → Nat} {cA : ClassId} {ro lo co ks : Nat → Nat} {nb sl : Nat} {si we ki ap tg : Nat → Nat} {nu : Nat} {bn us : Nat → Nat} {nh ct : Nat} {mk ex : Bool} {ob : Nat → Option Nat} {oc : Nat → Nat} {lc : Nat → Option Nat} {fb fs : Nat → Nat} (hl : l.stackTraces = false) (v1 v2 : Int32) (h1 : (0 ≤ v1 ∧ v1 < nI nb)) (h2 : v2 = 0) : zXi l yX4_dimensional (zws yX4_dimensional cX4_dimensional 3 (some .int)) { frames := 7, cells := 1, slots := 6, locals := 105 } D zcl ((cA, .int) :: tys) zG [.ref (ad 0), .int v1, .int v2] (wX ad cA ro lo co ks nb sl si we ki ap tg nu bn us nh ct mk ex ob oc lc fb fs) (fun _ _ => False) (fun E w2 => E = "java/lang/ArithmeticException" ∧ w2 = (wX ad cA ro lo co ks nb sl si we ki ap tg nu bn us nh ct mk ex ob oc lc fb fs)) 1 6 := by
  refine zx_ofi (cc := cX4_dimensional) (maxL := 3) (ret := (some .int)) (by decide) rfl (Nat.le_of_ble_eq_true rfl) ?_
  intro p e s m below meth c A F hr hlk hnm hex
  refine z_aload_n F dX4_dimensional_0 rfl ?_
  refine z_iload_n F dX4_dimensional_1 rfl ?_
  refine z_callVv0 F (c_X_bx v1 h1) 0 rfl rfl (zcwV F.2.2.2.2.1 kcX4_needBox kmX4_157 kiX4_needBox ksX4_needBox knX4 hdX4_needBox rfl rfl ⟨(Nat.le_of_ble_eq_true rfl), (Nat.le_of_ble_eq_true rfl)⟩) dX4_dimensional_2 rfl rfl (Nat.le_of_ble_eq_true rfl) ⟨(Nat.le_of_ble_eq_true rfl), (Nat.le_of_ble_eq_true rfl)⟩ ?_
  rintro w2 rfl
  refine z_iload_n F dX4_dimensional_5 rfl ?_
  refine z_if_ge (tgt := 19) F dX4_dimensional_6 (by decide) (fun c6 => ?_) (fun c6 => ?_)
  · refine z_iload_n F dX4_dimensional_19 rfl ?_
    refine z_if_ne (tgt := 33) F dX4_dimensional_20 (by decide) (fun c20 => ?_) (fun c20 => ?_)
    · exact absurd h2 c20
    · exact zx_throwi F hl (cls := "java/lang/ArithmeticException") (text := "/ by zero") (names := ["java/lang/RuntimeException", "java/lang/Exception"]) (ik := 178) (is := 180) (ic := 182) (by decide) (by decide) (F.2.2.2.2.1 _ klX4_178) (F.2.2.2.2.1 _ knJ_ArithmeticException) (F.2.2.2.2.2.2.2.1.2.2.2.1 (180, "/ by zero") (List.mem_of_getElem? (i := 9) rfl)) (xat_ArithmeticException F.2.2.2.2.1 F.2.2.2.2.2.2.2.1) xgd_ArithmeticException_178 F.2.2.2.2.2.2.2.1.2.2.2.2.1 F.2.2.2.2.2.2.2.1.2.2.2.2.2 hex dX4_dimensional_23 dX4_dimensional_26 dX4_dimensional_27 dX4_dimensional_29 dX4_dimensional_32 (Nat.le_of_ble_eq_true rfl) (Nat.le_of_ble_eq_true rfl) (Nat.le_of_ble_eq_true rfl) (Nat.le_of_ble_eq_true rfl) hlk ⟨rfl, rfl⟩ (Nat.le_of_ble_eq_true rfl) (Nat.le_of_ble_eq_true rfl)
  · exact absurd (by rw [h2]; decide) c6

set_option maxHeartbeats 4000000 in
set_option maxRecDepth 100000 in
/-- dimensional -/
theorem c_dim {l : Launch} {D : va_G} {tys : List (ClassId × FieldType)} {ad : Nat → Nat} {cA : ClassId} {ro lo co ks : Nat → Nat} {nb sl : Nat} {si we ki ap tg : Nat → Nat} {nu : Nat} {bn us : Nat → Nat} {nh ct : Nat} {mk ex : Bool} {ob : Nat → Option Nat} {oc : Nat → Nat} {lc : Nat → Option Nat} {fb fs : Nat → Nat} (ok : zok ro lo co ks nb sl si we ki ap tg nu) (b v : Nat) (hb : b < nb) (hr1 : 1 ≤ ro b) (hd : 0 < v) (hv : v < 2 ^ 31) : zMi l yX4_dimensional (zws yX4_dimensional cX4_dimensional 3 (some .int)) { frames := 7, cells := 0, slots := 0, locals := 105 } D zcl ((cA, .int) :: tys) zG [.ref (ad 0), .int (nI b), .int (nI v)] (wX ad cA ro lo co ks nb sl si we ki ap tg nu bn us nh ct mk ex ob oc lc fb fs) (fun r w2 => r = nI ((ro b - 1) / v + 1) ∧ w2 = (wX ad cA ro lo co ks nb sl si we ki ap tg nu bn us nh ct mk ex ob oc lc fb fs)) 0 0 := by
  refine z_ofi (cc := cX4_dimensional) (maxL := 3) (ret := (some .int)) (by decide) rfl (Nat.le_of_ble_eq_true rfl) ?_
  intro p e s m below meth c A F hr hlk hnm
  obtain ⟨o1, o2, o3, o4, o5, o6, o7, o8, o9, o10, o11, o12⟩ := id ok
  refine z_aload_n F dX4_dimensional_0 rfl ?_
  refine z_iload_n F dX4_dimensional_1 rfl ?_
  refine z_callVv0 F (c_X_bx (nI b) ((zhas (by omega)).mpr ⟨b, hb, rfl⟩)) 0 rfl rfl (zcwV F.2.2.2.2.1 kcX4_needBox kmX4_157 kiX4_needBox ksX4_needBox knX4 hdX4_needBox rfl rfl ⟨(Nat.le_of_ble_eq_true rfl), (Nat.le_of_ble_eq_true rfl)⟩) dX4_dimensional_2 rfl rfl (Nat.le_of_ble_eq_true rfl) ⟨(Nat.le_of_ble_eq_true rfl), (Nat.le_of_ble_eq_true rfl)⟩ ?_
  rintro w2 rfl
  refine z_iload_n F dX4_dimensional_5 rfl ?_
  refine z_if_ge (tgt := 19) F dX4_dimensional_6 (by decide) (fun c6 => ?_) (fun c6 => ?_)
  · refine z_iload_n F dX4_dimensional_19 rfl ?_
    refine z_if_ne (tgt := 33) F dX4_dimensional_20 (by decide) (fun c20 => ?_) (fun c20 => ?_)
    · refine z_aload_n F dX4_dimensional_33 rfl ?_
      refine z_get (ci := 4) (C := RX4) (T := TX4) (N := 4) F 0 0 dX4_dimensional_34 inX4 kfX4_12 rfl rfl rfl (by decide) rfl ?_
      refine z_iload_n F dX4_dimensional_37 rfl ?_
      refine z_callVi (w1 := [(ad 0, .inr (4, [.ref (ad 1), .ref (ad 6), .ref (ad 12), .ref (ad 15)]))]) (w3 := (wU (ad 6) (ad 7) (ad 8) (ad 9) (ad 10) (ad 11) cA si we ki ap tg nu ++ (wH (ad 12) (ad 13) (ad 14) cA bn us nh ct mk ex ++ wE (ad 15) (ad 16) (ad 17) (ad 18) (ad 19) (ad 20) cA ob oc lc fb fs))) F (c_C_roomOf o1 b hb) 0 rfl rfl (zcwV F.2.2.2.2.1 kcX0_roomOf kmX4_172 kiX0_roomOf ksX0_roomOf knX0 hdX0_roomOf rfl rfl ⟨(Nat.le_of_ble_eq_true rfl), (Nat.le_of_ble_eq_true rfl)⟩) dX4_dimensional_38 rfl rfl rfl (Nat.le_of_ble_eq_true rfl) ⟨(Nat.le_of_ble_eq_true rfl), (Nat.le_of_ble_eq_true rfl)⟩ ?_
      rintro r w2 ⟨rfl, rfl⟩
      refine z_eq (ws2 := (wX ad cA ro lo co ks nb sl si we ki ap tg nu bn us nh ct mk ex ob oc lc fb fs)) rfl rfl rfl rfl ?_
      refine z_iconst (v := 1) F dX4_dimensional_41 (by decide) ?_
      refine z_isub F dX4_dimensional_42 ?_
      refine z_topi (y := nI (ro b - 1)) (pk_sub hr1) ?_
      refine z_iload_n F dX4_dimensional_43 rfl ?_
      refine z_idiv F dX4_dimensional_44 (nI_ne0 hd hv) ?_
      refine z_topi (y := nI ((ro b - 1) / v)) (pk_div (by have := o4 b; omega) hd hv) ?_
      refine z_iconst (v := 1) F dX4_dimensional_45 (by decide) ?_
      refine z_iadd F dX4_dimensional_46 ?_
      refine z_topi (y := nI ((ro b - 1) / v + 1)) (nI_1 _) ?_
      exact z_iret F hr rfl hlk dX4_dimensional_47 ⟨rfl, rfl⟩ (Nat.le_of_ble_eq_true rfl) (Nat.le_of_ble_eq_true rfl)
    · exact absurd c20 (nI_ne0 hd hv)
  · exact absurd (nI_pos' hv) c6

set_option maxHeartbeats 4000000 in
set_option maxRecDepth 100000 in
/-- count, 0 -/
theorem c_count_0 {l : Launch} {D : va_G} {tys : List (ClassId × FieldType)} {ad : Nat → Nat} {cA : ClassId} {ro lo co ks : Nat → Nat} {nb sl : Nat} {si we ki ap tg : Nat → Nat} {nu : Nat} {bn us : Nat → Nat} {nh ct : Nat} {mk ex : Bool} {ob : Nat → Option Nat} {oc : Nat → Nat} {lc : Nat → Option Nat} {fb fs : Nat → Nat} (ok : zok ro lo co ks nb sl si we ki ap tg nu) : zMi l yX4_count (zws yX4_count cX4_count 2 (some .int)) { frames := 3, cells := 0, slots := 0, locals := 67 } D zcl ((cA, .int) :: tys) zG [.ref (ad 0), .int (nI 0)] (wX ad cA ro lo co ks nb sl si we ki ap tg nu bn us nh ct mk ex ob oc lc fb fs) (fun r w2 => r = nI nb ∧ w2 = (wX ad cA ro lo co ks nb sl si we ki ap tg nu bn us nh ct mk ex ob oc lc fb fs)) 0 0 := by
  refine z_ofi (cc := cX4_count) (maxL := 2) (ret := (some .int)) (by decide) rfl (Nat.le_of_ble_eq_true rfl) ?_
  intro p e s m below meth c A F hr hlk hnm
  obtain ⟨o1, o2, o3, o4, o5, o6, o7, o8, o9, o10, o11, o12⟩ := id ok
  refine z_iload_n F dX4_count_0 rfl ?_
  refine z_tableIn (off := 35) (tgt := 36) F dX4_count_1 (by decide) (by decide) rfl (by decide) ?_
  refine z_aload_n F dX4_count_36 rfl ?_
  refine z_get (ci := 4) (C := RX4) (T := TX4) (N := 4) F 0 0 dX4_count_37 inX4 kfX4_12 rfl rfl rfl (by decide) rfl ?_
  refine z_getN (ci := 0) (C := RX0) (T := TX0) (N := 6) F 1 4 dX4_count_40 inX0 (nfX4_185 F.2.2.2.2.2.2.2.1) rfl rfl rfl (by decide) rfl ?_
  exact z_iret F hr rfl hlk dX4_count_43 ⟨rfl, rfl⟩ (Nat.le_of_ble_eq_true rfl) (Nat.le_of_ble_eq_true rfl)

set_option maxHeartbeats 4000000 in
set_option maxRecDepth 100000 in
/-- count, 1 -/
theorem c_count_1 {l : Launch} {D : va_G} {tys : List (ClassId × FieldType)} {ad : Nat → Nat} {cA : ClassId} {ro lo co ks : Nat → Nat} {nb sl : Nat} {si we ki ap tg : Nat → Nat} {nu : Nat} {bn us : Nat → Nat} {nh ct : Nat} {mk ex : Bool} {ob : Nat → Option Nat} {oc : Nat → Nat} {lc : Nat → Option Nat} {fb fs : Nat → Nat} (ok : zok ro lo co ks nb sl si we ki ap tg nu) : zMi l yX4_count (zws yX4_count cX4_count 2 (some .int)) { frames := 3, cells := 0, slots := 0, locals := 67 } D zcl ((cA, .int) :: tys) zG [.ref (ad 0), .int (nI 1)] (wX ad cA ro lo co ks nb sl si we ki ap tg nu bn us nh ct mk ex ob oc lc fb fs) (fun r w2 => r = nI nu ∧ w2 = (wX ad cA ro lo co ks nb sl si we ki ap tg nu bn us nh ct mk ex ob oc lc fb fs)) 0 0 := by
  refine z_ofi (cc := cX4_count) (maxL := 2) (ret := (some .int)) (by decide) rfl (Nat.le_of_ble_eq_true rfl) ?_
  intro p e s m below meth c A F hr hlk hnm
  obtain ⟨o1, o2, o3, o4, o5, o6, o7, o8, o9, o10, o11, o12⟩ := id ok
  refine z_iload_n F dX4_count_0 rfl ?_
  refine z_tableIn (off := 43) (tgt := 44) F dX4_count_1 (by decide) (by decide) rfl (by decide) ?_
  refine z_aload_n F dX4_count_44 rfl ?_
  refine z_get (ci := 4) (C := RX4) (T := TX4) (N := 4) F 0 1 dX4_count_45 inX4 kfX4_19 rfl rfl rfl (by decide) rfl ?_
  refine z_getN (ci := 3) (C := RX3) (T := TX3) (N := 6) F 6 5 dX4_count_48 inX3 (nfX4_84 F.2.2.2.2.2.2.2.1) rfl rfl rfl (by decide) rfl ?_
  exact z_iret F hr rfl hlk dX4_count_51 ⟨rfl, rfl⟩ (Nat.le_of_ble_eq_true rfl) (Nat.le_of_ble_eq_true rfl)

set_option maxHeartbeats 4000000 in
set_option maxRecDepth 100000 in
/-- count, 2 -/
theorem c_count_2 {l : Launch} {D : va_G} {tys : List (ClassId × FieldType)} {ad : Nat → Nat} {cA : ClassId} {ro lo co ks : Nat → Nat} {nb sl : Nat} {si we ki ap tg : Nat → Nat} {nu : Nat} {bn us : Nat → Nat} {nh ct : Nat} {mk ex : Bool} {ob : Nat → Option Nat} {oc : Nat → Nat} {lc : Nat → Option Nat} {fb fs : Nat → Nat} (ok : zok ro lo co ks nb sl si we ki ap tg nu) : zMi l yX4_count (zws yX4_count cX4_count 2 (some .int)) { frames := 3, cells := 0, slots := 0, locals := 67 } D zcl ((cA, .int) :: tys) zG [.ref (ad 0), .int (nI 2)] (wX ad cA ro lo co ks nb sl si we ki ap tg nu bn us nh ct mk ex ob oc lc fb fs) (fun r w2 => r = nI (zadd (fun y => zcin (fun x => decide (zrel ap tg y x = 1)) (y + 1) nu) nu) ∧ w2 = (wX ad cA ro lo co ks nb sl si we ki ap tg nu bn us nh ct mk ex ob oc lc fb fs)) 0 0 := by
  refine z_ofi (cc := cX4_count) (maxL := 2) (ret := (some .int)) (by decide) rfl (Nat.le_of_ble_eq_true rfl) ?_
  intro p e s m below meth c A F hr hlk hnm
  obtain ⟨o1, o2, o3, o4, o5, o6, o7, o8, o9, o10, o11, o12⟩ := id ok
  refine z_iload_n F dX4_count_0 rfl ?_
  refine z_tableIn (off := 51) (tgt := 52) F dX4_count_1 (by decide) (by decide) rfl (by decide) ?_
  refine z_aload_n F dX4_count_52 rfl ?_
  refine z_get (ci := 4) (C := RX4) (T := TX4) (N := 4) F 0 1 dX4_count_53 inX4 kfX4_19 rfl rfl rfl (by decide) rfl ?_
  refine z_iconst (v := 1) F dX4_count_56 (by decide) ?_
  refine z_callVi (w1 := ((ad 0, .inr (4, [.ref (ad 1), .ref (ad 6), .ref (ad 12), .ref (ad 15)])) :: wC (ad 1) (ad 2) (ad 3) (ad 4) (ad 5) cA ro lo co ks nb sl)) (w3 := (wH (ad 12) (ad 13) (ad 14) cA bn us nh ct mk ex ++ wE (ad 15) (ad 16) (ad 17) (ad 18) (ad 19) (ad 20) cA ob oc lc fb fs)) F (c_U_pairsOf o3 (zk8 o11 (by decide)) (zk8 o12 (by decide)) 1 (by decide)) 0 rfl rfl (zcwV F.2.2.2.2.1 kcX3_pairsOf kmX4_186 kiX3_pairsOf ksX3_pairsOf knX3 hdX3_pairsOf rfl rfl ⟨(Nat.le_of_ble_eq_true rfl), (Nat.le_of_ble_eq_true rfl)⟩) dX4_count_57 rfl rfl rfl (Nat.le_of_ble_eq_true rfl) ⟨(Nat.le_of_ble_eq_true rfl), (Nat.le_of_ble_eq_true rfl)⟩ ?_
  rintro r w2 ⟨rfl, rfl⟩
  refine z_eq (ws2 := (wX ad cA ro lo co ks nb sl si we ki ap tg nu bn us nh ct mk ex ob oc lc fb fs)) rfl rfl rfl rfl ?_
  exact z_iret F hr rfl hlk dX4_count_60 ⟨rfl, rfl⟩ (Nat.le_of_ble_eq_true rfl) (Nat.le_of_ble_eq_true rfl)

set_option maxHeartbeats 4000000 in
set_option maxRecDepth 100000 in
/-- count, 3 -/
theorem c_count_3 {l : Launch} {D : va_G} {tys : List (ClassId × FieldType)} {ad : Nat → Nat} {cA : ClassId} {ro lo co ks : Nat → Nat} {nb sl : Nat} {si we ki ap tg : Nat → Nat} {nu : Nat} {bn us : Nat → Nat} {nh ct : Nat} {mk ex : Bool} {ob : Nat → Option Nat} {oc : Nat → Nat} {lc : Nat → Option Nat} {fb fs : Nat → Nat} (ok : zok ro lo co ks nb sl si we ki ap tg nu) : zMi l yX4_count (zws yX4_count cX4_count 2 (some .int)) { frames := 3, cells := 0, slots := 0, locals := 67 } D zcl ((cA, .int) :: tys) zG [.ref (ad 0), .int (nI 3)] (wX ad cA ro lo co ks nb sl si we ki ap tg nu bn us nh ct mk ex ob oc lc fb fs) (fun r w2 => r = nI (zadd (fun y => zcin (fun x => decide (zrel ap tg y x = 2)) (y + 1) nu) nu) ∧ w2 = (wX ad cA ro lo co ks nb sl si we ki ap tg nu bn us nh ct mk ex ob oc lc fb fs)) 0 0 := by
  refine z_ofi (cc := cX4_count) (maxL := 2) (ret := (some .int)) (by decide) rfl (Nat.le_of_ble_eq_true rfl) ?_
  intro p e s m below meth c A F hr hlk hnm
  obtain ⟨o1, o2, o3, o4, o5, o6, o7, o8, o9, o10, o11, o12⟩ := id ok
  refine z_iload_n F dX4_count_0 rfl ?_
  refine z_tableIn (off := 60) (tgt := 61) F dX4_count_1 (by decide) (by decide) rfl (by decide) ?_
  refine z_aload_n F dX4_count_61 rfl ?_
  refine z_get (ci := 4) (C := RX4) (T := TX4) (N := 4) F 0 1 dX4_count_62 inX4 kfX4_19 rfl rfl rfl (by decide) rfl ?_
  refine z_iconst (v := 2) F dX4_count_65 (by decide) ?_
  refine z_callVi (w1 := ((ad 0, .inr (4, [.ref (ad 1), .ref (ad 6), .ref (ad 12), .ref (ad 15)])) :: wC (ad 1) (ad 2) (ad 3) (ad 4) (ad 5) cA ro lo co ks nb sl)) (w3 := (wH (ad 12) (ad 13) (ad 14) cA bn us nh ct mk ex ++ wE (ad 15) (ad 16) (ad 17) (ad 18) (ad 19) (ad 20) cA ob oc lc fb fs)) F (c_U_pairsOf o3 (zk8 o11 (by decide)) (zk8 o12 (by decide)) 2 (by decide)) 0 rfl rfl (zcwV F.2.2.2.2.1 kcX3_pairsOf kmX4_186 kiX3_pairsOf ksX3_pairsOf knX3 hdX3_pairsOf rfl rfl ⟨(Nat.le_of_ble_eq_true rfl), (Nat.le_of_ble_eq_true rfl)⟩) dX4_count_66 rfl rfl rfl (Nat.le_of_ble_eq_true rfl) ⟨(Nat.le_of_ble_eq_true rfl), (Nat.le_of_ble_eq_true rfl)⟩ ?_
  rintro r w2 ⟨rfl, rfl⟩
  refine z_eq (ws2 := (wX ad cA ro lo co ks nb sl si we ki ap tg nu bn us nh ct mk ex ob oc lc fb fs)) rfl rfl rfl rfl ?_
  exact z_iret F hr rfl hlk dX4_count_69 ⟨rfl, rfl⟩ (Nat.le_of_ble_eq_true rfl) (Nat.le_of_ble_eq_true rfl)

set_option maxHeartbeats 4000000 in
set_option maxRecDepth 100000 in
/-- count, 4 -/
theorem c_count_4 {l : Launch} {D : va_G} {tys : List (ClassId × FieldType)} {ad : Nat → Nat} {cA : ClassId} {ro lo co ks : Nat → Nat} {nb sl : Nat} {si we ki ap tg : Nat → Nat} {nu : Nat} {bn us : Nat → Nat} {nh ct : Nat} {mk ex : Bool} {ob : Nat → Option Nat} {oc : Nat → Nat} {lc : Nat → Option Nat} {fb fs : Nat → Nat} (ok : zok ro lo co ks nb sl si we ki ap tg nu) : zMi l yX4_count (zws yX4_count cX4_count 2 (some .int)) { frames := 3, cells := 0, slots := 0, locals := 67 } D zcl ((cA, .int) :: tys) zG [.ref (ad 0), .int (nI 4)] (wX ad cA ro lo co ks nb sl si we ki ap tg nu bn us nh ct mk ex ob oc lc fb fs) (fun r w2 => r = zo (bif mk then some ct else none) ∧ w2 = (wX ad cA ro lo co ks nb sl si we ki ap tg nu bn us nh ct mk ex ob oc lc fb fs)) 0 0 := by
  refine z_ofi (cc := cX4_count) (maxL := 2) (ret := (some .int)) (by decide) rfl (Nat.le_of_ble_eq_true rfl) ?_
  intro p e s m below meth c A F hr hlk hnm
  obtain ⟨o1, o2, o3, o4, o5, o6, o7, o8, o9, o10, o11, o12⟩ := id ok
  refine z_iload_n F dX4_count_0 rfl ?_
  refine z_tableIn (off := 69) (tgt := 70) F dX4_count_1 (by decide) (by decide) rfl (by decide) ?_
  refine z_aload_n F dX4_count_70 rfl ?_
  refine z_get (ci := 4) (C := RX4) (T := TX4) (N := 4) F 0 2 dX4_count_71 inX4 kfX4_26 rfl rfl rfl (by decide) rfl ?_
  refine z_getN (ci := 1) (C := RX1) (T := TX1) (N := 6) F 12 4 dX4_count_74 inX1 (nfX4_104 F.2.2.2.2.2.2.2.1) rfl rfl rfl (by decide) rfl ?_
  refine z_if_eq (tgt := 90) F dX4_count_77 (by decide) (fun c77 => ?_) (fun c77 => ?_)
  · refine z_iconst (v := (-1)) F dX4_count_90 (by decide) ?_
    exact z_iret F hr rfl hlk dX4_count_91 ⟨by rw [zB_0.mp c77]; rfl, rfl⟩ (Nat.le_of_ble_eq_true rfl) (Nat.le_of_ble_eq_true rfl)
  · refine z_aload_n F dX4_count_80 rfl ?_
    refine z_get (ci := 4) (C := RX4) (T := TX4) (N := 4) F 0 2 dX4_count_81 inX4 kfX4_26 rfl rfl rfl (by decide) rfl ?_
    refine z_getN (ci := 1) (C := RX1) (T := TX1) (N := 6) F 12 3 dX4_count_84 inX1 (nfX4_101 F.2.2.2.2.2.2.2.1) rfl rfl rfl (by decide) rfl ?_
    refine z_goto (tgt := 91) F dX4_count_87 (by decide) ?_
    exact z_iret F hr rfl hlk dX4_count_91 ⟨by rw [zB_1.mp c77]; rfl, rfl⟩ (Nat.le_of_ble_eq_true rfl) (Nat.le_of_ble_eq_true rfl)

set_option maxHeartbeats 4000000 in
set_option maxRecDepth 100000 in
/-- count, another -/
theorem c_count_o {l : Launch} {D : va_G} {tys : List (ClassId × FieldType)} {ad : Nat → Nat} {cA : ClassId} {ro lo co ks : Nat → Nat} {nb sl : Nat} {si we ki ap tg : Nat → Nat} {nu : Nat} {bn us : Nat → Nat} {nh ct : Nat} {mk ex : Bool} {ob : Nat → Option Nat} {oc : Nat → Nat} {lc : Nat → Option Nat} {fb fs : Nat → Nat} (v : Int32) (h : v.toInt < 0 ∨ 4 < v.toInt) : zMi l yX4_count (zws yX4_count cX4_count 2 (some .int)) { frames := 3, cells := 0, slots := 0, locals := 67 } D zcl ((cA, .int) :: tys) zG [.ref (ad 0), .int v] (wX ad cA ro lo co ks nb sl si we ki ap tg nu bn us nh ct mk ex ob oc lc fb fs) (fun r w2 => r = -1 ∧ w2 = (wX ad cA ro lo co ks nb sl si we ki ap tg nu bn us nh ct mk ex ob oc lc fb fs)) 0 0 := by
  refine z_ofi (cc := cX4_count) (maxL := 2) (ret := (some .int)) (by decide) rfl (Nat.le_of_ble_eq_true rfl) ?_
  intro p e s m below meth c A F hr hlk hnm
  refine z_iload_n F dX4_count_0 rfl ?_
  refine z_tableOut (tgt := 92) F dX4_count_1 h (by decide) ?_
  refine z_iconst (v := (-1)) F dX4_count_92 (by decide) ?_
  exact z_iret F hr rfl hlk dX4_count_93 ⟨rfl, rfl⟩ (Nat.le_of_ble_eq_true rfl) (Nat.le_of_ble_eq_true rfl)
