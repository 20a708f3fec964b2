theorem zk8 {f : Nat → Nat} {n : Nat} (h : ∀ x, f x < n) (hn : n < 2 ^ 31) : ∀ x, f x < 2 ^ 31 := fun x => Nat.lt_trans (h x) hn
theorem zk9 {f : Nat → Nat} {n : Nat} (h : ∀ x, f x ≤ n) (hn : n < 2 ^ 31) : ∀ x, f x < 2 ^ 31 := fun x => Nat.lt_of_le_of_lt (h x) hn
theorem zsum_b {f : Nat → Nat} {a n : Nat} (h : ∀ x, f x ≤ 1000) (hn : n ≤ 8) : zsum f a n ≤ 8000 := Nat.le_trans (zsum_le a n (fun j _ => h j)) (Nat.mul_le_mul hn (Nat.le_refl 1000))
theorem zuni_b {ki : Nat → Nat} {a n : Nat} (h : ∀ x, ki x < 8) : zuni (fun y => 2 ^ ki y) a n < 2 ^ 8 := zuni_lt a n (fun j _ => Nat.pow_lt_pow_right (by decide) (h j))

set_option maxHeartbeats 4000000 in
set_option maxRecDepth 100000 in
/-- the boxes that carry a set -/
theorem c_X_carry {l : Launch} {D : va_G} {tys : List (ClassId × FieldType)} {ad : Nat → Nat} {cA : ClassId} {ro lo co ks : Nat → Nat} {nb sl : Nat} {si we ki ap tg : Nat → Nat} {nu : Nat} {bn us : Nat → Nat} {nh ct : Nat} {mk ex : Bool} {ob : Nat → Option Nat} {oc : Nat → Nat} {lc : Nat → Option Nat} {fb fs : Nat → Nat} (ok : zok ro lo co ks nb sl si we ki ap tg nu) (a : Nat) (ha : a < 2 ^ 31) : zMi l yX4_boxesThatCarry (zws yX4_boxesThatCarry cX4_boxesThatCarry 2 (some .int)) { frames := 3, cells := 0, slots := 0, locals := 66 } D zcl ((cA, .int) :: tys) zG [.ref (ad 0), .int (nI a)] (wX ad cA ro lo co ks nb sl si we ki ap tg nu bn us nh ct mk ex ob oc lc fb fs) (fun r w2 => r = nI (zset (zfc ro lo ks sl si we ki nu a) nb) ∧ w2 = (wX ad cA ro lo co ks nb sl si we ki ap tg nu bn us nh ct mk ex ob oc lc fb fs)) 0 0 := by
  refine z_ofi (cc := cX4_boxesThatCarry) (maxL := 2) (ret := (some .int)) (by decide) rfl (Nat.le_of_ble_eq_true rfl) ?_
  intro p e s m below meth c A F hr hlk hnm
  obtain ⟨o1, o2, o3, o4, o5, o6, o7, o8, o9, o10, o11, o12⟩ := id ok
  refine z_aload_n F dX4_boxesThatCarry_0 rfl ?_
  refine z_get (ci := 4) (C := RX4) (T := TX4) (N := 4) F 0 0 dX4_boxesThatCarry_1 inX4 kfX4_12 rfl rfl rfl (by decide) rfl ?_
  refine z_aload_n F dX4_boxesThatCarry_4 rfl ?_
  refine z_get (ci := 4) (C := RX4) (T := TX4) (N := 4) F 0 1 dX4_boxesThatCarry_5 inX4 kfX4_19 rfl rfl rfl (by decide) rfl ?_
  refine z_iload_n F dX4_boxesThatCarry_8 rfl ?_
  refine z_callVi (w1 := ((ad 0, .inr (4, [.ref (ad 1), .ref (ad 6), .ref (ad 12), .ref (ad 15)])) :: wC (ad 1) (ad 2) (ad 3) (ad 4) (ad 5) cA ro lo co ks nb sl)) (w3 := (wH (ad 12) (ad 13) (ad 14) cA bn us nh ct mk ex ++ wE (ad 15) (ad 16) (ad 17) (ad 18) (ad 19) (ad 20) cA ob oc lc fb fs)) F (c_U_kindsOf o3 (fun x => Nat.lt_trans (o10 x) (by decide)) a ha) 0 rfl rfl (zcwV F.2.2.2.2.1 kcX3_kindsOf kmX4_142 kiX3_kindsOf ksX3_kindsOf knX3 hdX3_kindsOf rfl rfl ⟨(Nat.le_of_ble_eq_true rfl), (Nat.le_of_ble_eq_true rfl)⟩) dX4_boxesThatCarry_9 rfl rfl rfl (Nat.le_of_ble_eq_true rfl) ⟨(Nat.le_of_ble_eq_true rfl), (Nat.le_of_ble_eq_true rfl)⟩ ?_
  rintro r w2 ⟨rfl, rfl⟩
  refine z_eq (ws2 := (wX ad cA ro lo co ks nb sl si we ki ap tg nu bn us nh ct mk ex ob oc lc fb fs)) rfl rfl rfl rfl ?_
  refine z_callVi (w1 := [(ad 0, .inr (4, [.ref (ad 1), .ref (ad 6), .ref (ad 12), .ref (ad 15)]))]) (w3 := (wU (ad 6) (ad 7) (ad 8) (ad 9) (ad 10) (ad 11) cA si we ki ap tg nu ++ (wH (ad 12) (ad 13) (ad 14) cA bn us nh ct mk ex ++ wE (ad 15) (ad 16) (ad 17) (ad 18) (ad 19) (ad 20) cA ob oc lc fb fs))) F (c_C_thatTake o1 (zuni (fun y => 2 ^ ki y) a nu) (Nat.lt_trans (zuni_b o10) (by decide))) 0 rfl rfl (zcwV F.2.2.2.2.1 kcX0_thatTake kmX4_145 kiX0_thatTake ksX0_thatTake knX0 hdX0_thatTake rfl rfl ⟨(Nat.le_of_ble_eq_true rfl), (Nat.le_of_ble_eq_true rfl)⟩) dX4_boxesThatCarry_12 rfl rfl rfl (Nat.le_of_ble_eq_true rfl) ⟨(Nat.le_of_ble_eq_true rfl), (Nat.le_of_ble_eq_true rfl)⟩ ?_
  rintro r w2 ⟨rfl, rfl⟩
  refine z_eq (ws2 := (wX ad cA ro lo co ks nb sl si we ki ap tg nu bn us nh ct mk ex ob oc lc fb fs)) rfl rfl rfl rfl ?_
  refine z_aload_n F dX4_boxesThatCarry_15 rfl ?_
  refine z_get (ci := 4) (C := RX4) (T := TX4) (N := 4) F 0 0 dX4_boxesThatCarry_16 inX4 kfX4_12 rfl rfl rfl (by decide) rfl ?_
  refine z_aload_n F dX4_boxesThatCarry_19 rfl ?_
  refine z_get (ci := 4) (C := RX4) (T := TX4) (N := 4) F 0 1 dX4_boxesThatCarry_20 inX4 kfX4_19 rfl rfl rfl (by decide) rfl ?_
  refine z_iload_n F dX4_boxesThatCarry_23 rfl ?_
  refine z_callVi (w1 := ((ad 0, .inr (4, [.ref (ad 1), .ref (ad 6), .ref (ad 12), .ref (ad 15)])) :: wC (ad 1) (ad 2) (ad 3) (ad 4) (ad 5) cA ro lo co ks nb sl)) (w3 := (wH (ad 12) (ad 13) (ad 14) cA bn us nh ct mk ex ++ wE (ad 15) (ad 16) (ad 17) (ad 18) (ad 19) (ad 20) cA ob oc lc fb fs)) F (c_U_sizeOf o3 a ha) 0 rfl rfl (zcwV F.2.2.2.2.1 kcX3_sizeOf kmX4_128 kiX3_sizeOf ksX3_sizeOf knX3 hdX3_sizeOf rfl rfl ⟨(Nat.le_of_ble_eq_true rfl), (Nat.le_of_ble_eq_true rfl)⟩) dX4_boxesThatCarry_24 rfl rfl rfl (Nat.le_of_ble_eq_true rfl) ⟨(Nat.le_of_ble_eq_true rfl), (Nat.le_of_ble_eq_true rfl)⟩ ?_
  rintro r w2 ⟨rfl, rfl⟩
  refine z_eq (ws2 := (wX ad cA ro lo co ks nb sl si we ki ap tg nu bn us nh ct mk ex ob oc lc fb fs)) rfl rfl rfl rfl ?_
  refine z_callVi (w1 := [(ad 0, .inr (4, [.ref (ad 1), .ref (ad 6), .ref (ad 12), .ref (ad 15)]))]) (w3 := (wU (ad 6) (ad 7) (ad 8) (ad 9) (ad 10) (ad 11) cA si we ki ap tg nu ++ (wH (ad 12) (ad 13) (ad 14) cA bn us nh ct mk ex ++ wE (ad 15) (ad 16) (ad 17) (ad 18) (ad 19) (ad 20) cA ob oc lc fb fs))) F (c_C_withRoomFor o1 (zk9 o4 (by decide)) (zsum si a nu) (by have := zsum_b (a := a) o8 o3; omega)) 0 rfl rfl (zcwV F.2.2.2.2.1 kcX0_withRoomFor kmX4_148 kiX0_withRoomFor ksX0_withRoomFor knX0 hdX0_withRoomFor rfl rfl ⟨(Nat.le_of_ble_eq_true rfl), (Nat.le_of_ble_eq_true rfl)⟩) dX4_boxesThatCarry_27 rfl rfl rfl (Nat.le_of_ble_eq_true rfl) ⟨(Nat.le_of_ble_eq_true rfl), (Nat.le_of_ble_eq_true rfl)⟩ ?_
  rintro r w2 ⟨rfl, rfl⟩
  refine z_eq (ws2 := (wX ad cA ro lo co ks nb sl si we ki ap tg nu bn us nh ct mk ex ob oc lc fb fs)) rfl rfl rfl rfl ?_
  refine z_iand F dX4_boxesThatCarry_30 ?_
  refine z_topi (y := nI (zset (fun x => decide (zd (zuni (fun y => 2 ^ ki y) a nu) (ks x) = 0)) nb &&& zset (fun x => decide (zsum si a nu + sl ≤ ro x)) nb)) (zb_and _ _) ?_
  refine z_aload_n F dX4_boxesThatCarry_31 rfl ?_
  refine z_get (ci := 4) (C := RX4) (T := TX4) (N := 4) F 0 0 dX4_boxesThatCarry_32 inX4 kfX4_12 rfl rfl rfl (by decide) rfl ?_
  refine z_aload_n F dX4_boxesThatCarry_35 rfl ?_
  refine z_get (ci := 4) (C := RX4) (T := TX4) (N := 4) F 0 1 dX4_boxesThatCarry_36 inX4 kfX4_19 rfl rfl rfl (by decide) rfl ?_
  refine z_iload_n F dX4_boxesThatCarry_39 rfl ?_
  refine z_callVi (w1 := ((ad 0, .inr (4, [.ref (ad 1), .ref (ad 6), .ref (ad 12), .ref (ad 15)])) :: wC (ad 1) (ad 2) (ad 3) (ad 4) (ad 5) cA ro lo co ks nb sl)) (w3 := (wH (ad 12) (ad 13) (ad 14) cA bn us nh ct mk ex ++ wE (ad 15) (ad 16) (ad 17) (ad 18) (ad 19) (ad 20) cA ob oc lc fb fs)) F (c_U_weightOf o3 a ha) 0 rfl rfl (zcwV F.2.2.2.2.1 kcX3_weightOf kmX4_131 kiX3_weightOf ksX3_weightOf knX3 hdX3_weightOf rfl rfl ⟨(Nat.le_of_ble_eq_true rfl), (Nat.le_of_ble_eq_true rfl)⟩) dX4_boxesThatCarry_40 rfl rfl rfl (Nat.le_of_ble_eq_true rfl) ⟨(Nat.le_of_ble_eq_true rfl), (Nat.le_of_ble_eq_true rfl)⟩ ?_
  rintro r w2 ⟨rfl, rfl⟩
  refine z_eq (ws2 := (wX ad cA ro lo co ks nb sl si we ki ap tg nu bn us nh ct mk ex ob oc lc fb fs)) rfl rfl rfl rfl ?_
  refine z_callVi (w1 := [(ad 0, .inr (4, [.ref (ad 1), .ref (ad 6), .ref (ad 12), .ref (ad 15)]))]) (w3 := (wU (ad 6) (ad 7) (ad 8) (ad 9) (ad 10) (ad 11) cA si we ki ap tg nu ++ (wH (ad 12) (ad 13) (ad 14) cA bn us nh ct mk ex ++ wE (ad 15) (ad 16) (ad 17) (ad 18) (ad 19) (ad 20) cA ob oc lc fb fs))) F (c_C_thatBear o1 (zk9 o5 (by decide)) (zsum we a nu) (by have := zsum_b (a := a) o9 o3; omega)) 0 rfl rfl (zcwV F.2.2.2.2.1 kcX0_thatBear kmX4_151 kiX0_thatBear ksX0_thatBear knX0 hdX0_thatBear rfl rfl ⟨(Nat.le_of_ble_eq_true rfl), (Nat.le_of_ble_eq_true rfl)⟩) dX4_boxesThatCarry_43 rfl rfl rfl (Nat.le_of_ble_eq_true rfl) ⟨(Nat.le_of_ble_eq_true rfl), (Nat.le_of_ble_eq_true rfl)⟩ ?_
  rintro r w2 ⟨rfl, rfl⟩
  refine z_eq (ws2 := (wX ad cA ro lo co ks nb sl si we ki ap tg nu bn us nh ct mk ex ob oc lc fb fs)) rfl rfl rfl rfl ?_
  refine z_iand F dX4_boxesThatCarry_46 ?_
  refine z_topi (y := nI ((zset (fun x => decide (zd (zuni (fun y => 2 ^ ki y) a nu) (ks x) = 0)) nb &&& zset (fun x => decide (zsum si a nu + sl ≤ ro x)) nb) &&& zset (fun x => decide (zsum we a nu ≤ lo x)) nb)) (zb_and _ _) ?_
  exact z_iret F hr rfl hlk dX4_boxesThatCarry_47 ⟨by rw [zset_and, zset_and]; rfl, rfl⟩ (Nat.le_of_ble_eq_true rfl) (Nat.le_of_ble_eq_true rfl)

section ZFF
variable {ro lo ks : Nat → Nat} {sl : Nat} {si we ki ap tg : Nat → Nat} {nu a x : Nat}
theorem zff_a (h : zapt ap nu a = true) : zff ro lo ks sl si we ki ap tg nu a x = false := by unfold zff; rw [h]; rfl
theorem zff_w (h : zwhl tg nu a = false) : zff ro lo ks sl si we ki ap tg nu a x = false := by unfold zff; rw [h, Bool.false_and, Bool.and_false]
theorem zff_c (h : zapt ap nu a = false) (h2 : zwhl tg nu a = true) : zfc ro lo ks sl si we ki nu a x = zff ro lo ks sl si we ki ap tg nu a x := by unfold zff; rw [h, h2]; rfl
end ZFF

set_option maxHeartbeats 4000000 in
set_option maxRecDepth 100000 in
/-- the boxes that a set fits -/
theorem c_X_for {l : Launch} {D : va_G} {tys : List (ClassId × FieldType)} {ad : Nat → Nat} {cA : ClassId} {ro lo co ks : Nat → Nat} {nb sl : Nat} {si we ki ap tg : Nat → Nat} {nu : Nat} {bn us : Nat → Nat} {nh ct : Nat} {mk ex : Bool} {ob : Nat → Option Nat} {oc : Nat → Nat} {lc : Nat → Option Nat} {fb fs : Nat → Nat} (ok : zok ro lo co ks nb sl si we ki ap tg nu) (a : Nat) (ha : a < 2 ^ 31) : zMi l yX4_boxesFor (zws yX4_boxesFor cX4_boxesFor 2 (some .int)) { frames := 4, cells := 0, slots := 0, locals := 87 } D zcl ((cA, .int) :: tys) zG [.ref (ad 0), .int (nI a)] (wX ad cA ro lo co ks nb sl si we ki ap tg nu bn us nh ct mk ex ob oc lc fb fs) (fun r w2 => r = nI (zset (zff ro lo ks sl si we ki ap tg nu a) nb) ∧ w2 = (wX ad cA ro lo co ks nb sl si we ki ap tg nu bn us nh ct mk ex ob oc lc fb fs)) 0 0 := by
  refine z_ofi (cc := cX4_boxesFor) (maxL := 2) (ret := (some .int)) (by decide) rfl (Nat.le_of_ble_eq_true rfl) ?_
  intro p e s m below meth c A F hr hlk hnm
  obtain ⟨o1, o2, o3, o4, o5, o6, o7, o8, o9, o10, o11, o12⟩ := id ok
  refine z_aload_n F dX4_boxesFor_0 rfl ?_
  refine z_get (ci := 4) (C := RX4) (T := TX4) (N := 4) F 0 1 dX4_boxesFor_1 inX4 kfX4_19 rfl rfl rfl (by decide) rfl ?_
  refine z_iload_n F dX4_boxesFor_4 rfl ?_
  refine z_callVi (w1 := ((ad 0, .inr (4, [.ref (ad 1), .ref (ad 6), .ref (ad 12), .ref (ad 15)])) :: wC (ad 1) (ad 2) (ad 3) (ad 4) (ad 5) cA ro lo co ks nb sl)) (w3 := (wH (ad 12) (ad 13) (ad 14) cA bn us nh ct mk ex ++ wE (ad 15) (ad 16) (ad 17) (ad 18) (ad 19) (ad 20) cA ob oc lc fb fs)) F (c_U_anyApart o3 (zk8 o11 (by decide)) a ha) 0 rfl rfl (zcwV F.2.2.2.2.1 kcX3_anyApart kmX4_154 kiX3_anyApart ksX3_anyApart knX3 hdX3_anyApart rfl rfl ⟨(Nat.le_of_ble_eq_true rfl), (Nat.le_of_ble_eq_true rfl)⟩) dX4_boxesFor_5 rfl rfl rfl (Nat.le_of_ble_eq_true rfl) ⟨(Nat.le_of_ble_eq_true rfl), (Nat.le_of_ble_eq_true rfl)⟩ ?_
  rintro r w2 ⟨rfl, rfl⟩
  refine z_eq (ws2 := (wX ad cA ro lo co ks nb sl si we ki ap tg nu bn us nh ct mk ex ob oc lc fb fs)) rfl rfl rfl rfl ?_
  refine z_if_ne (tgt := 22) F dX4_boxesFor_8 (by decide) (fun c8 => ?_) (fun c8 => ?_)
  · refine z_iconst (v := 0) F dX4_boxesFor_22 (by decide) ?_
    exact z_iret F hr rfl hlk dX4_boxesFor_23 ⟨by rw [zset_no (fun j => zff_a (zB_1.mp c8))]; rfl, rfl⟩ (Nat.le_of_ble_eq_true rfl) (Nat.le_of_ble_eq_true rfl)
  · refine z_aload_n F dX4_boxesFor_11 rfl ?_
    refine z_get (ci := 4) (C := RX4) (T := TX4) (N := 4) F 0 1 dX4_boxesFor_12 inX4 kfX4_19 rfl rfl rfl (by decide) rfl ?_
    refine z_iload_n F dX4_boxesFor_15 rfl ?_
    refine z_callVi (w1 := ((ad 0, .inr (4, [.ref (ad 1), .ref (ad 6), .ref (ad 12), .ref (ad 15)])) :: wC (ad 1) (ad 2) (ad 3) (ad 4) (ad 5) cA ro lo co ks nb sl)) (w3 := (wH (ad 12) (ad 13) (ad 14) cA bn us nh ct mk ex ++ wE (ad 15) (ad 16) (ad 17) (ad 18) (ad 19) (ad 20) cA ob oc lc fb fs)) F (c_U_isWhole o3 (zk8 o12 (by decide)) a ha) 0 rfl rfl (zcwV F.2.2.2.2.1 kcX3_isWhole kmX4_197 kiX3_isWhole ksX3_isWhole knX3 hdX3_isWhole rfl rfl ⟨(Nat.le_of_ble_eq_true rfl), (Nat.le_of_ble_eq_true rfl)⟩) dX4_boxesFor_16 rfl rfl rfl (Nat.le_of_ble_eq_true rfl) ⟨(Nat.le_of_ble_eq_true rfl), (Nat.le_of_ble_eq_true rfl)⟩ ?_
    rintro r w2 ⟨rfl, rfl⟩
    refine z_eq (ws2 := (wX ad cA ro lo co ks nb sl si we ki ap tg nu bn us nh ct mk ex ob oc lc fb fs)) rfl rfl rfl rfl ?_
    refine z_if_ne (tgt := 24) F dX4_boxesFor_19 (by decide) (fun c19 => ?_) (fun c19 => ?_)
    · refine z_aload_n F dX4_boxesFor_24 rfl ?_
      refine z_iload_n F dX4_boxesFor_25 rfl ?_
      refine z_callVi0 F (c_X_carry ok a ha) 0 rfl rfl (zcwV F.2.2.2.2.1 kcX4_boxesThatCarry kmX4_160 kiX4_boxesThatCarry ksX4_boxesThatCarry knX4 hdX4_boxesThatCarry rfl rfl ⟨(Nat.le_of_ble_eq_true rfl), (Nat.le_of_ble_eq_true rfl)⟩) dX4_boxesFor_26 rfl rfl (Nat.le_of_ble_eq_true rfl) ⟨(Nat.le_of_ble_eq_true rfl), (Nat.le_of_ble_eq_true rfl)⟩ ?_
      rintro r w2 ⟨rfl, rfl⟩
      exact z_iret F hr rfl hlk dX4_boxesFor_29 ⟨by rw [zset_cg _ (fun j _ => zff_c (zB_0.mp c8) (zB_1.mp c19))], rfl⟩ (Nat.le_of_ble_eq_true rfl) (Nat.le_of_ble_eq_true rfl)
    · refine z_iconst (v := 0) F dX4_boxesFor_22 (by decide) ?_
      exact z_iret F hr rfl hlk dX4_boxesFor_23 ⟨by rw [zset_no (fun j => zff_w (zB_0.mp c19))]; rfl, rfl⟩ (Nat.le_of_ble_eq_true rfl) (Nat.le_of_ble_eq_true rfl)

theorem zset_che {P : Nat → Bool} {co : Nat → Nat} {n : Nat} : zche (fun x => (zset P n).testBit x) co n = zche P co n := zche_cg n (fun j hj => by rw [zset_bit, decide_eq_true hj]; rfl)
theorem zset31 {P : Nat → Bool} {n : Nat} (h : n ≤ 6) : zset P n < 2 ^ 31 := Nat.lt_of_lt_of_le (zset_lt P n) (Nat.pow_le_pow_right (by decide) (by omega))

set_option maxHeartbeats 4000000 in
set_option maxRecDepth 100000 in
/-- putCompany -/
theorem c_X_putCompany {l : Launch} {D : va_G} {tys : List (ClassId × FieldType)} {ad : Nat → Nat} {cA : ClassId} {ro lo co ks : Nat → Nat} {nb sl : Nat} {si we ki ap tg : Nat → Nat} {nu : Nat} {bn us : Nat → Nat} {nh ct : Nat} {mk ex : Bool} {ob : Nat → Option Nat} {oc : Nat → Nat} {lc : Nat → Option Nat} {fb fs : Nat → Nat} (ok : zok ro lo co ks nb sl si we ki ap tg nu) (okh : zokH ((bn, us, nh, ct) : zCh)) (hn : nh < 8) (k : Nat) (hk : k < 256) : zMi l yX4_putCompany (zws yX4_putCompany cX4_putCompany 4 (some .boolean)) { frames := 5, cells := 0, slots := 0, locals := 108 } D zcl ((cA, .int) :: tys) zG [.ref (ad 0), .int (nI k)] (wX ad cA ro lo co ks nb sl si we ki ap tg nu bn us nh ct mk ex ob oc lc fb fs) (fun r w2 => r = zB (zputc (zff ro lo ks sl si we ki ap tg nu) co nb k ((bn, us, nh, ct) : zCh)).1 ∧ w2 = (wX ad cA ro lo co ks nb sl si we ki ap tg nu (zputc (zff ro lo ks sl si we ki ap tg nu) co nb k ((bn, us, nh, ct) : zCh)).2.1 (zputc (zff ro lo ks sl si we ki ap tg nu) co nb k ((bn, us, nh, ct) : zCh)).2.2.1 (zputc (zff ro lo ks sl si we ki ap tg nu) co nb k ((bn, us, nh, ct) : zCh)).2.2.2.1 (zputc (zff ro lo ks sl si we ki ap tg nu) co nb k ((bn, us, nh, ct) : zCh)).2.2.2.2 mk ex ob oc lc fb fs)) 0 0 := by
  refine z_ofi (cc := cX4_putCompany) (maxL := 4) (ret := (some .boolean)) (by decide) rfl (Nat.le_of_ble_eq_true rfl) ?_
  intro p e s m below meth c A F hr hlk hnm
  obtain ⟨o1, o2, o3, o4, o5, o6, o7, o8, o9, o10, o11, o12⟩ := id ok
  obtain ⟨h1, h2, h3⟩ := okh
  have h2 : ∀ i, bn i < 6 := h2
  have h3 : ∀ i, us i < 256 := h3
  have loop : ∀ (n j : Nat), j ≤ nh → nh + 1 ≤ j + n → zfst (fun i => decide (bn i < nb) && zff ro lo ks sl si we ki ap tg nu (us i ||| k) (bn i)) j = none → zW p l e (headSpec (zws yX4_putCompany cX4_putCompany 4 (some .boolean)) { frames := 5, cells := 0, slots := 0, locals := 108 }).room s m [.ref (ad 0), .int (nI k)].toArray below meth c 4 D zcl A 0 0 (MQ below (va_Qi (fun r w2 => r = zB (zputc (zff ro lo ks sl si we ki ap tg nu) co nb k ((bn, us, nh, ct) : zCh)).1 ∧ w2 = (wX ad cA ro lo co ks nb sl si we ki ap tg nu (zputc (zff ro lo ks sl si we ki ap tg nu) co nb k ((bn, us, nh, ct) : zCh)).2.1 (zputc (zff ro lo ks sl si we ki ap tg nu) co nb k ((bn, us, nh, ct) : zCh)).2.2.1 (zputc (zff ro lo ks sl si we ki ap tg nu) co nb k ((bn, us, nh, ct) : zCh)).2.2.2.1 (zputc (zff ro lo ks sl si we ki ap tg nu) co nb k ((bn, us, nh, ct) : zCh)).2.2.2.2 mk ex ob oc lc fb fs)) (zEnd D zcl A) A) [.ref (ad 0), .int (nI k)].toArray s 0 0 A) (wX ad cA ro lo co ks nb sl si we ki ap tg nu bn us nh ct mk ex ob oc lc fb fs) [(0, .ref (ad 0)), (1, .int (nI k)), (2, .int (nI j))] 2 [] := by
    intro n
    induction n with
    | zero => intro j h1 h2; omega
    | succ n ih =>
      intro j hj1 hj2 hz
      refine z_iload_n F dX4_putCompany_2 rfl ?_
      refine z_aload_n F dX4_putCompany_3 rfl ?_
      refine z_get (ci := 4) (C := RX4) (T := TX4) (N := 4) F 0 2 dX4_putCompany_4 inX4 kfX4_26 rfl rfl rfl (by decide) rfl ?_
      refine z_getN (ci := 1) (C := RX1) (T := TX1) (N := 6) F 12 2 dX4_putCompany_7 inX1 (nfX4_111 F.2.2.2.2.2.2.2.1) rfl rfl rfl (by decide) rfl ?_
      refine z_icmp_ge (tgt := 60) F dX4_putCompany_10 (by decide) (fun c10 => ?_) (fun c10 => ?_)
      · have ej := zge_end hj1 (by omega) c10
        rw [ej] at hz
        refine z_aload_n F dX4_putCompany_60 rfl ?_
        refine z_get (ci := 4) (C := RX4) (T := TX4) (N := 4) F 0 0 dX4_putCompany_61 inX4 kfX4_12 rfl rfl rfl (by decide) rfl ?_
        refine z_aload_n F dX4_putCompany_64 rfl ?_
        refine z_iload_n F dX4_putCompany_65 rfl ?_
        refine z_callVi0 F (c_X_for ok k (Nat.lt_trans hk (by decide))) 0 rfl rfl (zcwV F.2.2.2.2.1 kcX4_boxesFor kmX4_205 kiX4_boxesFor ksX4_boxesFor knX4 hdX4_boxesFor rfl rfl ⟨(Nat.le_of_ble_eq_true rfl), (Nat.le_of_ble_eq_true rfl)⟩) dX4_putCompany_66 rfl rfl (Nat.le_of_ble_eq_true rfl) ⟨(Nat.le_of_ble_eq_true rfl), (Nat.le_of_ble_eq_true rfl)⟩ ?_
        rintro r w2 ⟨rfl, rfl⟩
        refine z_callVi (w1 := [(ad 0, .inr (4, [.ref (ad 1), .ref (ad 6), .ref (ad 12), .ref (ad 15)]))]) (w3 := (wU (ad 6) (ad 7) (ad 8) (ad 9) (ad 10) (ad 11) cA si we ki ap tg nu ++ (wH (ad 12) (ad 13) (ad 14) cA bn us nh ct mk ex ++ wE (ad 15) (ad 16) (ad 17) (ad 18) (ad 19) (ad 20) cA ob oc lc fb fs))) F (c_C_cheapestOf o1 (zk9 o6 (by decide)) (zset (zff ro lo ks sl si we ki ap tg nu k) nb) (zset31 o1)) 0 rfl rfl (zcwV F.2.2.2.2.1 kcX0_cheapestOf kmX4_208 kiX0_cheapestOf ksX0_cheapestOf knX0 hdX0_cheapestOf rfl rfl ⟨(Nat.le_of_ble_eq_true rfl), (Nat.le_of_ble_eq_true rfl)⟩) dX4_putCompany_69 rfl rfl rfl (Nat.le_of_ble_eq_true rfl) ⟨(Nat.le_of_ble_eq_true rfl), (Nat.le_of_ble_eq_true rfl)⟩ ?_
        rintro r w2 ⟨rfl, rfl⟩
        refine z_eq (ws2 := (wX ad cA ro lo co ks nb sl si we ki ap tg nu bn us nh ct mk ex ob oc lc fb fs)) rfl rfl rfl rfl ?_
        rw [zset_che]
        rcases hz2 : zche (zff ro lo ks sl si we ki ap tg nu k) co nb with _ | b
        · refine z_istore_n F dX4_putCompany_72 (by decide) ?_
          refine z_iload_n F dX4_putCompany_73 rfl ?_
          refine z_iconst (v := (-1)) F dX4_putCompany_74 (by decide) ?_
          refine z_icmp_ne (tgt := 80) F dX4_putCompany_75 (by decide) (fun c75 => ?_) (fun c75 => ?_)
          · exact absurd rfl c75
          · refine z_iconst (v := 0) F dX4_putCompany_78 (by decide) ?_
            exact z_iret F hr rfl hlk dX4_putCompany_79 ⟨by rw [zputc_n (h := ((bn, us, nh, ct) : zCh)) hz hz2]; rfl, by rw [zputc_n (h := ((bn, us, nh, ct) : zCh)) hz hz2]⟩ (Nat.le_of_ble_eq_true rfl) (Nat.le_of_ble_eq_true rfl)
        · refine z_istore_n F dX4_putCompany_72 (by decide) ?_
          refine z_iload_n F dX4_putCompany_73 rfl ?_
          refine z_iconst (v := (-1)) F dX4_putCompany_74 (by decide) ?_
          refine z_icmp_ne (tgt := 80) F dX4_putCompany_75 (by decide) (fun c75 => ?_) (fun c75 => ?_)
          · refine z_aload_n F dX4_putCompany_80 rfl ?_
            refine z_get (ci := 4) (C := RX4) (T := TX4) (N := 4) F 0 2 dX4_putCompany_81 inX4 kfX4_26 rfl rfl rfl (by decide) rfl ?_
            refine z_iload_n F dX4_putCompany_84 rfl ?_
            refine z_iload_n F dX4_putCompany_85 rfl ?_
            refine z_aload_n F dX4_putCompany_86 rfl ?_
            refine z_get (ci := 4) (C := RX4) (T := TX4) (N := 4) F 0 0 dX4_putCompany_87 inX4 kfX4_12 rfl rfl rfl (by decide) rfl ?_
            refine z_iload_n F dX4_putCompany_90 rfl ?_
            refine z_callVi (w1 := [(ad 0, .inr (4, [.ref (ad 1), .ref (ad 6), .ref (ad 12), .ref (ad 15)]))]) (w3 := (wU (ad 6) (ad 7) (ad 8) (ad 9) (ad 10) (ad 11) cA si we ki ap tg nu ++ (wH (ad 12) (ad 13) (ad 14) cA bn us nh ct mk ex ++ wE (ad 15) (ad 16) (ad 17) (ad 18) (ad 19) (ad 20) cA ob oc lc fb fs))) F (c_C_costOf o1 b (zche_lt hz2).1) 0 rfl rfl (zcwV F.2.2.2.2.1 kcX0_costOf kmX4_211 kiX0_costOf ksX0_costOf knX0 hdX0_costOf rfl rfl ⟨(Nat.le_of_ble_eq_true rfl), (Nat.le_of_ble_eq_true rfl)⟩) dX4_putCompany_91 rfl rfl rfl (Nat.le_of_ble_eq_true rfl) ⟨(Nat.le_of_ble_eq_true rfl), (Nat.le_of_ble_eq_true rfl)⟩ ?_
            rintro r w2 ⟨rfl, rfl⟩
            refine z_eq (ws2 := (wX ad cA ro lo co ks nb sl si we ki ap tg nu bn us nh ct mk ex ob oc lc fb fs)) rfl rfl rfl rfl ?_
            refine z_callVv (w1 := ((ad 0, .inr (4, [.ref (ad 1), .ref (ad 6), .ref (ad 12), .ref (ad 15)])) :: (wC (ad 1) (ad 2) (ad 3) (ad 4) (ad 5) cA ro lo co ks nb sl ++ wU (ad 6) (ad 7) (ad 8) (ad 9) (ad 10) (ad 11) cA si we ki ap tg nu))) (w3 := (wE (ad 15) (ad 16) (ad 17) (ad 18) (ad 19) (ad 20) cA ob oc lc fb fs)) F (c_H_append hn b k (co b)) 0 rfl rfl (zcwV F.2.2.2.2.1 kcX1_append kmX4_228 kiX1_append ksX1_append knX1 hdX1_append rfl rfl ⟨(Nat.le_of_ble_eq_true rfl), (Nat.le_of_ble_eq_true rfl)⟩) dX4_putCompany_94 rfl rfl rfl (Nat.le_of_ble_eq_true rfl) ⟨(Nat.le_of_ble_eq_true rfl), (Nat.le_of_ble_eq_true rfl)⟩ ?_
            rintro w2 rfl
            refine z_eq (ws2 := (wX ad cA ro lo co ks nb sl si we ki ap tg nu (zu bn nh b) (zu us nh k) (nh + 1) (ct + co b) mk ex ob oc lc fb fs)) rfl rfl rfl rfl ?_
            refine z_iconst (v := 1) F dX4_putCompany_97 (by decide) ?_
            exact z_iret F hr rfl hlk dX4_putCompany_98 ⟨by rw [zputc_b (h := ((bn, us, nh, ct) : zCh)) hz hz2]; rfl, by rw [zputc_b (h := ((bn, us, nh, ct) : zCh)) hz hz2]⟩ (Nat.le_of_ble_eq_true rfl) (Nat.le_of_ble_eq_true rfl)
          · exact absurd c75 (zo_ne (by have := (zche_lt hz2).1; omega))
      · have hlt := zge_on (by omega) hj1 c10
        refine z_aload_n F dX4_putCompany_13 rfl ?_
        refine z_get (ci := 4) (C := RX4) (T := TX4) (N := 4) F 0 2 dX4_putCompany_14 inX4 kfX4_26 rfl rfl rfl (by decide) rfl ?_
        refine z_iload_n F dX4_putCompany_17 rfl ?_
        refine z_callVi (w1 := ((ad 0, .inr (4, [.ref (ad 1), .ref (ad 6), .ref (ad 12), .ref (ad 15)])) :: (wC (ad 1) (ad 2) (ad 3) (ad 4) (ad 5) cA ro lo co ks nb sl ++ wU (ad 6) (ad 7) (ad 8) (ad 9) (ad 10) (ad 11) cA si we ki ap tg nu))) (w3 := (wE (ad 15) (ad 16) (ad 17) (ad 18) (ad 19) (ad 20) cA ob oc lc fb fs)) F (c_H_setAt (by omega) j hlt) 0 rfl rfl (zcwV F.2.2.2.2.1 kcX1_setAt kmX4_125 kiX1_setAt ksX1_setAt knX1 hdX1_setAt rfl rfl ⟨(Nat.le_of_ble_eq_true rfl), (Nat.le_of_ble_eq_true rfl)⟩) dX4_putCompany_18 rfl rfl rfl (Nat.le_of_ble_eq_true rfl) ⟨(Nat.le_of_ble_eq_true rfl), (Nat.le_of_ble_eq_true rfl)⟩ ?_
        rintro r w2 ⟨rfl, rfl⟩
        refine z_eq (ws2 := (wX ad cA ro lo co ks nb sl si we ki ap tg nu bn us nh ct mk ex ob oc lc fb fs)) rfl rfl rfl rfl ?_
        refine z_iload_n F dX4_putCompany_21 rfl ?_
        refine z_ior F dX4_putCompany_22 ?_
        refine z_topi (y := nI (us j ||| k)) (zb_or _ _) ?_
        refine z_istore_n F dX4_putCompany_23 (by decide) ?_
        refine z_aload_n F dX4_putCompany_24 rfl ?_
        refine z_iload_n F dX4_putCompany_25 rfl ?_
        refine z_callVi0 F (c_X_for ok (us j ||| k) (Nat.lt_trans (Nat.or_lt_two_pow (n := 8) (h3 j) hk) (by decide))) 0 rfl rfl (zcwV F.2.2.2.2.1 kcX4_boxesFor kmX4_205 kiX4_boxesFor ksX4_boxesFor knX4 hdX4_boxesFor rfl rfl ⟨(Nat.le_of_ble_eq_true rfl), (Nat.le_of_ble_eq_true rfl)⟩) dX4_putCompany_26 rfl rfl (Nat.le_of_ble_eq_true rfl) ⟨(Nat.le_of_ble_eq_true rfl), (Nat.le_of_ble_eq_true rfl)⟩ ?_
        rintro r w2 ⟨rfl, rfl⟩
        refine z_aload_n F dX4_putCompany_29 rfl ?_
        refine z_get (ci := 4) (C := RX4) (T := TX4) (N := 4) F 0 2 dX4_putCompany_30 inX4 kfX4_26 rfl rfl rfl (by decide) rfl ?_
        refine z_iload_n F dX4_putCompany_33 rfl ?_
        refine z_callVi (w1 := ((ad 0, .inr (4, [.ref (ad 1), .ref (ad 6), .ref (ad 12), .ref (ad 15)])) :: (wC (ad 1) (ad 2) (ad 3) (ad 4) (ad 5) cA ro lo co ks nb sl ++ wU (ad 6) (ad 7) (ad 8) (ad 9) (ad 10) (ad 11) cA si we ki ap tg nu))) (w3 := (wE (ad 15) (ad 16) (ad 17) (ad 18) (ad 19) (ad 20) cA ob oc lc fb fs)) F (c_H_boxAt (by omega) j hlt) 0 rfl rfl (zcwV F.2.2.2.2.1 kcX1_boxAt kmX4_121 kiX1_boxAt ksX1_boxAt knX1 hdX1_boxAt rfl rfl ⟨(Nat.le_of_ble_eq_true rfl), (Nat.le_of_ble_eq_true rfl)⟩) dX4_putCompany_34 rfl rfl rfl (Nat.le_of_ble_eq_true rfl) ⟨(Nat.le_of_ble_eq_true rfl), (Nat.le_of_ble_eq_true rfl)⟩ ?_
        rintro r w2 ⟨rfl, rfl⟩
        refine z_eq (ws2 := (wX ad cA ro lo co ks nb sl si we ki ap tg nu bn us nh ct mk ex ob oc lc fb fs)) rfl rfl rfl rfl ?_
        refine z_callSi0 F (c_holds (zset (zff ro lo ks sl si we ki ap tg nu (us j ||| k)) nb) (bn j) (zset31 o1) (Nat.lt_trans (h2 j) (by decide))) (zcwS F.2.2.2.2.1 kcX4_holds kmX4_163 ktX4_holds knX4 hdX4_holds rfl rfl ⟨(Nat.le_of_ble_eq_true rfl), (Nat.le_of_ble_eq_true rfl)⟩) dX4_putCompany_37 rfl rfl (Nat.le_of_ble_eq_true rfl) ⟨(Nat.le_of_ble_eq_true rfl), (Nat.le_of_ble_eq_true rfl)⟩ ?_
        rintro r w2 ⟨rfl, rfl⟩
        refine z_if_eq (tgt := 54) F dX4_putCompany_40 (by decide) (fun c40 => ?_) (fun c40 => ?_)
        · refine z_iinc (v := nI (j + 1)) F dX4_putCompany_54 rfl (nI_1 j) (by decide) ?_
          refine z_goto (tgt := 2) F dX4_putCompany_57 (by decide) ?_
          exact z_lv rfl (ih (j + 1) (by omega) (by omega) (zfst_n hz (by rw [← zset_bit]; exact zB_0.mp c40)))
        · refine z_aload_n F dX4_putCompany_43 rfl ?_
          refine z_get (ci := 4) (C := RX4) (T := TX4) (N := 4) F 0 2 dX4_putCompany_44 inX4 kfX4_26 rfl rfl rfl (by decide) rfl ?_
          refine z_iload_n F dX4_putCompany_47 rfl ?_
          refine z_iload_n F dX4_putCompany_48 rfl ?_
          refine z_callVv (w1 := ((ad 0, .inr (4, [.ref (ad 1), .ref (ad 6), .ref (ad 12), .ref (ad 15)])) :: (wC (ad 1) (ad 2) (ad 3) (ad 4) (ad 5) cA ro lo co ks nb sl ++ wU (ad 6) (ad 7) (ad 8) (ad 9) (ad 10) (ad 11) cA si we ki ap tg nu))) (w3 := (wE (ad 15) (ad 16) (ad 17) (ad 18) (ad 19) (ad 20) cA ob oc lc fb fs)) F (c_H_replaceSet (by omega) j (us j ||| k) hlt) 0 rfl rfl (zcwV F.2.2.2.2.1 kcX1_replaceSet kmX4_224 kiX1_replaceSet ksX1_replaceSet knX1 hdX1_replaceSet rfl rfl ⟨(Nat.le_of_ble_eq_true rfl), (Nat.le_of_ble_eq_true rfl)⟩) dX4_putCompany_49 rfl rfl rfl (Nat.le_of_ble_eq_true rfl) ⟨(Nat.le_of_ble_eq_true rfl), (Nat.le_of_ble_eq_true rfl)⟩ ?_
          rintro w2 rfl
          refine z_eq (ws2 := (wX ad cA ro lo co ks nb sl si we ki ap tg nu bn (zu us j (us j ||| k)) nh ct mk ex ob oc lc fb fs)) rfl rfl rfl rfl ?_
          refine z_iconst (v := 1) F dX4_putCompany_52 (by decide) ?_
          exact z_iret F hr rfl hlk dX4_putCompany_53 ⟨by rw [zputc_s (h := ((bn, us, nh, ct) : zCh)) (zfst_at hz (by rw [← zset_bit]; exact zB_1.mp c40) hlt)]; rfl, by rw [zputc_s (h := ((bn, us, nh, ct) : zCh)) (zfst_at hz (by rw [← zset_bit]; exact zB_1.mp c40) hlt)]⟩ (Nat.le_of_ble_eq_true rfl) (Nat.le_of_ble_eq_true rfl)
  refine z_iconst (v := 0) F dX4_putCompany_0 (by decide) ?_
  refine z_istore_n F dX4_putCompany_1 (by decide) ?_
  exact z_lv rfl (loop (nh + 1) 0 (by omega) (by omega) rfl)
