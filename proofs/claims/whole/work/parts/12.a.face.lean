theorem zin {v a b : Nat} (h1 : a ≤ v) (h2 : v ≤ b) (hb : b < 2 ^ 31) : nI a ≤ nI v ∧ nI v ≤ nI b := ⟨nI_le h1 (by omega), nI_le h2 hb⟩

set_option maxHeartbeats 4000000 in
set_option maxRecDepth 100000 in
theorem c_X_unit {l : Launch} {D : va_G} {tys : List (ClassId × FieldType)} {ad : Nat → Nat} {cA : ClassId} {ro lo co ks : Nat → Nat} {nb sl : Nat} {si we ki ap tg : Nat → Nat} {nu : Nat} {bn us : Nat → Nat} {nh ct : Nat} {mk ex : Bool} {ob : Nat → Option Nat} {oc : Nat → Nat} {lc : Nat → Option Nat} {fb fs : Nat → Nat} (b : Int32) (h : (0 ≤ b ∧ b < nI nu)) : zMv l yX4_needUnit (zws yX4_needUnit cX4_needUnit 2 none) { frames := 6, cells := 0, slots := 0, locals := 84 } D zcl ((cA, .int) :: tys) zG [.ref (ad 0), .int b] (wX ad cA ro lo co ks nb sl si we ki ap tg nu bn us nh ct mk ex ob oc lc fb fs) (fun w2 => w2 = (wX ad cA ro lo co ks nb sl si we ki ap tg nu bn us nh ct mk ex ob oc lc fb fs)) 0 0 := by
  refine z_ofv (cc := cX4_needUnit) (maxL := 2) (ret := none) (by decide) rfl (Nat.le_of_ble_eq_true rfl) ?_
  intro p e s m below meth c A F hr hlk hnm
  refine z_aload_n F dX4_needUnit_0 rfl ?_
  refine z_get (ci := 4) (C := RX4) (T := TX4) (N := 4) F 0 1 dX4_needUnit_1 inX4 kfX4_19 rfl rfl rfl (by decide) rfl ?_
  refine z_iload_n F dX4_needUnit_4 rfl ?_
  refine z_callVi (w1 := ((ad 0, .inr (4, [.ref (ad 1), .ref (ad 6), .ref (ad 12), .ref (ad 15)])) :: wC (ad 1) (ad 2) (ad 3) (ad 4) (ad 5) cA ro lo co ks nb sl)) (w3 := (wH (ad 12) (ad 13) (ad 14) cA bn us nh ct mk ex ++ wE (ad 15) (ad 16) (ad 17) (ad 18) (ad 19) (ad 20) cA ob oc lc fb fs)) F (c_U_has b) 0 rfl rfl (zcwV F.2.2.2.2.1 kcX3_has kmX4_192 kiX3_has ksX3_has knX3 hdX3_has rfl rfl ⟨(Nat.le_of_ble_eq_true rfl), (Nat.le_of_ble_eq_true rfl)⟩) dX4_needUnit_5 rfl rfl rfl (Nat.le_of_ble_eq_true rfl) ⟨(Nat.le_of_ble_eq_true rfl), (Nat.le_of_ble_eq_true rfl)⟩ ?_
  rintro r w2 ⟨rfl, rfl⟩
  refine z_eq (ws2 := (wX ad cA ro lo co ks nb sl si we ki ap tg nu bn us nh ct mk ex ob oc lc fb fs)) rfl rfl rfl rfl ?_
  refine z_if_ne (tgt := 21) F dX4_needUnit_8 (by decide) (fun c8 => ?_) (fun c8 => ?_)
  · exact z_vret F hr hlk dX4_needUnit_21 rfl (Nat.le_of_ble_eq_true rfl) (Nat.le_of_ble_eq_true rfl)
  · exact absurd (zB_0.mp c8) (by rw [decide_eq_true h]; decide)

set_option maxHeartbeats 4000000 in
set_option maxRecDepth 100000 in
theorem c_X_unit_x {l : Launch} {D : va_G} {tys : List (ClassId × FieldType)} {ad : Nat → Nat} {cA : ClassId} {ro lo co ks : Nat → Nat} {nb sl : Nat} {si we ki ap tg : Nat → Nat} {nu : Nat} {bn us : Nat → Nat} {nh ct : Nat} {mk ex : Bool} {ob : Nat → Option Nat} {oc : Nat → Nat} {lc : Nat → Option Nat} {fb fs : Nat → Nat} (hl : l.stackTraces = false) (b : Int32) (h : ¬ (0 ≤ b ∧ b < nI nu)) : zXv l yX4_needUnit (zws yX4_needUnit cX4_needUnit 2 none) { frames := 6, cells := 1, slots := 6, locals := 84 } D zcl ((cA, .int) :: tys) zG [.ref (ad 0), .int b] (wX ad cA ro lo co ks nb sl si we ki ap tg nu bn us nh ct mk ex ob oc lc fb fs) (fun _ => False) (fun E w2 => E = "java/util/NoSuchElementException" ∧ w2 = (wX ad cA ro lo co ks nb sl si we ki ap tg nu bn us nh ct mk ex ob oc lc fb fs)) 1 6 := by
  refine zx_ofv (cc := cX4_needUnit) (maxL := 2) (ret := none) (by decide) rfl (Nat.le_of_ble_eq_true rfl) ?_
  intro p e s m below meth c A F hr hlk hnm hex
  refine z_aload_n F dX4_needUnit_0 rfl ?_
  refine z_get (ci := 4) (C := RX4) (T := TX4) (N := 4) F 0 1 dX4_needUnit_1 inX4 kfX4_19 rfl rfl rfl (by decide) rfl ?_
  refine z_iload_n F dX4_needUnit_4 rfl ?_
  refine z_callVi (w1 := ((ad 0, .inr (4, [.ref (ad 1), .ref (ad 6), .ref (ad 12), .ref (ad 15)])) :: wC (ad 1) (ad 2) (ad 3) (ad 4) (ad 5) cA ro lo co ks nb sl)) (w3 := (wH (ad 12) (ad 13) (ad 14) cA bn us nh ct mk ex ++ wE (ad 15) (ad 16) (ad 17) (ad 18) (ad 19) (ad 20) cA ob oc lc fb fs)) F (c_U_has b) 0 rfl rfl (zcwV F.2.2.2.2.1 kcX3_has kmX4_192 kiX3_has ksX3_has knX3 hdX3_has rfl rfl ⟨(Nat.le_of_ble_eq_true rfl), (Nat.le_of_ble_eq_true rfl)⟩) dX4_needUnit_5 rfl rfl rfl (Nat.le_of_ble_eq_true rfl) ⟨(Nat.le_of_ble_eq_true rfl), (Nat.le_of_ble_eq_true rfl)⟩ ?_
  rintro r w2 ⟨rfl, rfl⟩
  refine z_eq (ws2 := (wX ad cA ro lo co ks nb sl si we ki ap tg nu bn us nh ct mk ex ob oc lc fb fs)) rfl rfl rfl rfl ?_
  refine z_if_ne (tgt := 21) F dX4_needUnit_8 (by decide) (fun c8 => ?_) (fun c8 => ?_)
  · exact absurd (zB_1.mp c8) (by rw [decide_eq_false h]; decide)
  · exact zn_throwv F hl (cls := "java/util/NoSuchElementException") (Yn := "java/lang/RuntimeException") (text := "there is no such unit") (names := ["java/lang/Exception"]) (ik := 116) (is := 193) (ic := 120) (ix := 13) (bytes := prog_16_method_4_code) bN_0 bN_1 bN_2 bN_5 (by decide) (by decide) (by decide) (F.2.2.2.2.1 _ klX4_116) (F.2.2.2.2.1 _ knJ_NoSuchElementException) (F.2.2.2.2.2.2.2.1.2.2.2.1 (193, "there is no such unit") (List.mem_of_getElem? (i := 3) rfl)) (xat_NSE F.2.2.2.2.1 F.2.2.2.2.2.2.2.1) xgd_NSE F.2.2.2.2.2.2.2.1.2.2.2.2.1 F.2.2.2.2.2.2.2.1.2.2.2.2.2 hex dX4_needUnit_11 dX4_needUnit_14 dX4_needUnit_15 dX4_needUnit_17 dX4_needUnit_20 (Nat.le_of_ble_eq_true rfl) (Nat.le_of_ble_eq_true rfl) (Nat.le_of_ble_eq_true rfl) (Nat.le_of_ble_eq_true rfl) hlk ⟨rfl, rfl⟩ (Nat.le_of_ble_eq_true rfl) (Nat.le_of_ble_eq_true rfl)

set_option maxHeartbeats 4000000 in
set_option maxRecDepth 100000 in
theorem c_X_bx {l : Launch} {D : va_G} {tys : List (ClassId × FieldType)} {ad : Nat → Nat} {cA : ClassId} {ro lo co ks : Nat → Nat} {nb sl : Nat} {si we ki ap tg : Nat → Nat} {nu : Nat} {bn us : Nat → Nat} {nh ct : Nat} {mk ex : Bool} {ob : Nat → Option Nat} {oc : Nat → Nat} {lc : Nat → Option Nat} {fb fs : Nat → Nat} (b : Int32) (h : (0 ≤ b ∧ b < nI nb)) : zMv l yX4_needBox (zws yX4_needBox cX4_needBox 2 none) { frames := 6, cells := 0, slots := 0, locals := 84 } D zcl ((cA, .int) :: tys) zG [.ref (ad 0), .int b] (wX ad cA ro lo co ks nb sl si we ki ap tg nu bn us nh ct mk ex ob oc lc fb fs) (fun w2 => w2 = (wX ad cA ro lo co ks nb sl si we ki ap tg nu bn us nh ct mk ex ob oc lc fb fs)) 0 0 := by
  refine z_ofv (cc := cX4_needBox) (maxL := 2) (ret := none) (by decide) rfl (Nat.le_of_ble_eq_true rfl) ?_
  intro p e s m below meth c A F hr hlk hnm
  refine z_aload_n F dX4_needBox_0 rfl ?_
  refine z_get (ci := 4) (C := RX4) (T := TX4) (N := 4) F 0 0 dX4_needBox_1 inX4 kfX4_12 rfl rfl rfl (by decide) rfl ?_
  refine z_iload_n F dX4_needBox_4 rfl ?_
  refine z_callVi (w1 := [(ad 0, .inr (4, [.ref (ad 1), .ref (ad 6), .ref (ad 12), .ref (ad 15)]))]) (w3 := (wU (ad 6) (ad 7) (ad 8) (ad 9) (ad 10) (ad 11) cA si we ki ap tg nu ++ (wH (ad 12) (ad 13) (ad 14) cA bn us nh ct mk ex ++ wE (ad 15) (ad 16) (ad 17) (ad 18) (ad 19) (ad 20) cA ob oc lc fb fs))) F (c_C_has b) 0 rfl rfl (zcwV F.2.2.2.2.1 kcX0_has kmX4_189 kiX0_has ksX0_has knX0 hdX0_has rfl rfl ⟨(Nat.le_of_ble_eq_true rfl), (Nat.le_of_ble_eq_true rfl)⟩) dX4_needBox_5 rfl rfl rfl (Nat.le_of_ble_eq_true rfl) ⟨(Nat.le_of_ble_eq_true rfl), (Nat.le_of_ble_eq_true rfl)⟩ ?_
  rintro r w2 ⟨rfl, rfl⟩
  refine z_eq (ws2 := (wX ad cA ro lo co ks nb sl si we ki ap tg nu bn us nh ct mk ex ob oc lc fb fs)) rfl rfl rfl rfl ?_
  refine z_if_ne (tgt := 21) F dX4_needBox_8 (by decide) (fun c8 => ?_) (fun c8 => ?_)
  · exact z_vret F hr hlk dX4_needBox_21 rfl (Nat.le_of_ble_eq_true rfl) (Nat.le_of_ble_eq_true rfl)
  · exact absurd (zB_0.mp c8) (by rw [decide_eq_true h]; decide)

set_option maxHeartbeats 4000000 in
set_option maxRecDepth 100000 in
theorem c_X_bx_x {l : Launch} {D : va_G} {tys : List (ClassId × FieldType)} {ad : Nat → Nat} {cA : ClassId} {ro lo co ks : Nat → Nat} {nb sl : Nat} {si we ki ap tg : Nat → Nat} {nu : Nat} {bn us : Nat → Nat} {nh ct : Nat} {mk ex : Bool} {ob : Nat → Option Nat} {oc : Nat → Nat} {lc : Nat → Option Nat} {fb fs : Nat → Nat} (hl : l.stackTraces = false) (b : Int32) (h : ¬ (0 ≤ b ∧ b < nI nb)) : zXv l yX4_needBox (zws yX4_needBox cX4_needBox 2 none) { frames := 6, cells := 1, slots := 6, locals := 84 } D zcl ((cA, .int) :: tys) zG [.ref (ad 0), .int b] (wX ad cA ro lo co ks nb sl si we ki ap tg nu bn us nh ct mk ex ob oc lc fb fs) (fun _ => False) (fun E w2 => E = "java/util/NoSuchElementException" ∧ w2 = (wX ad cA ro lo co ks nb sl si we ki ap tg nu bn us nh ct mk ex ob oc lc fb fs)) 1 6 := by
  refine zx_ofv (cc := cX4_needBox) (maxL := 2) (ret := none) (by decide) rfl (Nat.le_of_ble_eq_true rfl) ?_
  intro p e s m below meth c A F hr hlk hnm hex
  refine z_aload_n F dX4_needBox_0 rfl ?_
  refine z_get (ci := 4) (C := RX4) (T := TX4) (N := 4) F 0 0 dX4_needBox_1 inX4 kfX4_12 rfl rfl rfl (by decide) rfl ?_
  refine z_iload_n F dX4_needBox_4 rfl ?_
  refine z_callVi (w1 := [(ad 0, .inr (4, [.ref (ad 1), .ref (ad 6), .ref (ad 12), .ref (ad 15)]))]) (w3 := (wU (ad 6) (ad 7) (ad 8) (ad 9) (ad 10) (ad 11) cA si we ki ap tg nu ++ (wH (ad 12) (ad 13) (ad 14) cA bn us nh ct mk ex ++ wE (ad 15) (ad 16) (ad 17) (ad 18) (ad 19) (ad 20) cA ob oc lc fb fs))) F (c_C_has b) 0 rfl rfl (zcwV F.2.2.2.2.1 kcX0_has kmX4_189 kiX0_has ksX0_has knX0 hdX0_has rfl rfl ⟨(Nat.le_of_ble_eq_true rfl), (Nat.le_of_ble_eq_true rfl)⟩) dX4_needBox_5 rfl rfl rfl (Nat.le_of_ble_eq_true rfl) ⟨(Nat.le_of_ble_eq_true rfl), (Nat.le_of_ble_eq_true rfl)⟩ ?_
  rintro r w2 ⟨rfl, rfl⟩
  refine z_eq (ws2 := (wX ad cA ro lo co ks nb sl si we ki ap tg nu bn us nh ct mk ex ob oc lc fb fs)) rfl rfl rfl rfl ?_
  refine z_if_ne (tgt := 21) F dX4_needBox_8 (by decide) (fun c8 => ?_) (fun c8 => ?_)
  · exact absurd (zB_1.mp c8) (by rw [decide_eq_false h]; decide)
  · exact zn_throwv F hl (cls := "java/util/NoSuchElementException") (Yn := "java/lang/RuntimeException") (text := "there is no such box") (names := ["java/lang/Exception"]) (ik := 116) (is := 190) (ic := 120) (ix := 13) (bytes := prog_16_method_4_code) bN_0 bN_1 bN_2 bN_5 (by decide) (by decide) (by decide) (F.2.2.2.2.1 _ klX4_116) (F.2.2.2.2.1 _ knJ_NoSuchElementException) (F.2.2.2.2.2.2.2.1.2.2.2.1 (190, "there is no such box") (List.mem_of_getElem? (i := 7) rfl)) (xat_NSE F.2.2.2.2.1 F.2.2.2.2.2.2.2.1) xgd_NSE F.2.2.2.2.2.2.2.1.2.2.2.2.1 F.2.2.2.2.2.2.2.1.2.2.2.2.2 hex dX4_needBox_11 dX4_needBox_14 dX4_needBox_15 dX4_needBox_17 dX4_needBox_20 (Nat.le_of_ble_eq_true rfl) (Nat.le_of_ble_eq_true rfl) (Nat.le_of_ble_eq_true rfl) (Nat.le_of_ble_eq_true rfl) hlk ⟨rfl, rfl⟩ (Nat.le_of_ble_eq_true rfl) (Nat.le_of_ble_eq_true rfl)

set_option maxHeartbeats 4000000 in
set_option maxRecDepth 100000 in
theorem c_box_x1 {l : Launch} {D : va_G} {tys : List (ClassId × FieldType)} {ad : Nat → Nat} {cA : ClassId} {ro lo co ks : Nat → Nat} {nb sl : Nat} {si we ki ap tg : Nat → Nat} {nu : Nat} {bn us : Nat → Nat} {nh ct : Nat} {mk ex : Bool} {ob : Nat → Option Nat} {oc : Nat → Nat} {lc : Nat → Option Nat} {fb fs : Nat → Nat} (hl : l.stackTraces = false) (v1 v2 v3 v4 : Int32) (h1 : ¬ (1 ≤ v1 ∧ v1 ≤ 1000)) : zXi l yX4_box (zws yX4_box cX4_box 5 (some .int)) { frames := 7, cells := 1, slots := 6, locals := 106 } D zcl ((cA, .int) :: tys) zG [.ref (ad 0), .int v1, .int v2, .int v3, .int v4] (wX ad cA ro lo co ks nb sl si we ki ap tg nu bn us nh ct mk ex ob oc lc fb fs) (fun _ _ => False) (fun E w2 => E = "java/lang/IllegalArgumentException" ∧ w2 = (wX ad cA ro lo co ks nb sl si we ki ap tg nu bn us nh ct mk ex ob oc lc fb fs)) 1 6 := by
  refine zx_ofi (cc := cX4_box) (maxL := 5) (ret := (some .int)) (by decide) rfl (Nat.le_of_ble_eq_true rfl) ?_
  intro p e s m below meth c A F hr hlk hnm hex
  refine z_iload_n F dX4_box_0 rfl ?_
  refine z_iconst (v := 1) F dX4_box_1 (by decide) ?_
  refine z_sipush (v := 1000) F dX4_box_2 (by decide) ?_
  refine zx_callSv (w1 := []) (w3 := (wX ad cA ro lo co ks nb sl si we ki ap tg nu bn us nh ct mk ex ob oc lc fb fs)) F (c_X_range_x hl v1 1 1000 h1) (zcwS F.2.2.2.2.1 kcX4_needRange kmX4_37 ktX4_needRange knX4 hdX4_needRange rfl rfl ⟨(Nat.le_of_ble_eq_true rfl), (Nat.le_of_ble_eq_true rfl)⟩) dX4_box_5 rfl rfl rfl (Nat.le_of_ble_eq_true rfl) ⟨(Nat.le_of_ble_eq_true rfl), (Nat.le_of_ble_eq_true rfl)⟩ ?_ ?_
  · rintro E w2 ⟨rfl, rfl⟩
    exact zx_outi hex hlk ⟨rfl, rfl⟩ (Nat.le_of_ble_eq_true rfl) (Nat.le_of_ble_eq_true rfl)
  intro w2 h9
  exact h9.elim

set_option maxHeartbeats 4000000 in
set_option maxRecDepth 100000 in
theorem c_box_x2 {l : Launch} {D : va_G} {tys : List (ClassId × FieldType)} {ad : Nat → Nat} {cA : ClassId} {ro lo co ks : Nat → Nat} {nb sl : Nat} {si we ki ap tg : Nat → Nat} {nu : Nat} {bn us : Nat → Nat} {nh ct : Nat} {mk ex : Bool} {ob : Nat → Option Nat} {oc : Nat → Nat} {lc : Nat → Option Nat} {fb fs : Nat → Nat} (hl : l.stackTraces = false) (v1 v2 v3 v4 : Int32) (h1 : (1 ≤ v1 ∧ v1 ≤ 1000)) (h2 : ¬ (1 ≤ v2 ∧ v2 ≤ 1000)) : zXi l yX4_box (zws yX4_box cX4_box 5 (some .int)) { frames := 7, cells := 1, slots := 6, locals := 106 } D zcl ((cA, .int) :: tys) zG [.ref (ad 0), .int v1, .int v2, .int v3, .int v4] (wX ad cA ro lo co ks nb sl si we ki ap tg nu bn us nh ct mk ex ob oc lc fb fs) (fun _ _ => False) (fun E w2 => E = "java/lang/IllegalArgumentException" ∧ w2 = (wX ad cA ro lo co ks nb sl si we ki ap tg nu bn us nh ct mk ex ob oc lc fb fs)) 1 6 := by
  refine zx_ofi (cc := cX4_box) (maxL := 5) (ret := (some .int)) (by decide) rfl (Nat.le_of_ble_eq_true rfl) ?_
  intro p e s m below meth c A F hr hlk hnm hex
  refine z_iload_n F dX4_box_0 rfl ?_
  refine z_iconst (v := 1) F dX4_box_1 (by decide) ?_
  refine z_sipush (v := 1000) F dX4_box_2 (by decide) ?_
  refine z_callSv (w1 := []) (w3 := (wX ad cA ro lo co ks nb sl si we ki ap tg nu bn us nh ct mk ex ob oc lc fb fs)) F (c_X_range v1 1 1000 h1) (zcwS F.2.2.2.2.1 kcX4_needRange kmX4_37 ktX4_needRange knX4 hdX4_needRange rfl rfl ⟨(Nat.le_of_ble_eq_true rfl), (Nat.le_of_ble_eq_true rfl)⟩) dX4_box_5 rfl rfl rfl (Nat.le_of_ble_eq_true rfl) ⟨(Nat.le_of_ble_eq_true rfl), (Nat.le_of_ble_eq_true rfl)⟩ ?_
  rintro w2 rfl
  refine z_eq (ws2 := (wX ad cA ro lo co ks nb sl si we ki ap tg nu bn us nh ct mk ex ob oc lc fb fs)) rfl rfl rfl rfl ?_
  refine z_iload_n F dX4_box_8 rfl ?_
  refine z_iconst (v := 1) F dX4_box_9 (by decide) ?_
  refine z_sipush (v := 1000) F dX4_box_10 (by decide) ?_
  refine zx_callSv (w1 := []) (w3 := (wX ad cA ro lo co ks nb sl si we ki ap tg nu bn us nh ct mk ex ob oc lc fb fs)) F (c_X_range_x hl v2 1 1000 h2) (zcwS F.2.2.2.2.1 kcX4_needRange kmX4_37 ktX4_needRange knX4 hdX4_needRange rfl rfl ⟨(Nat.le_of_ble_eq_true rfl), (Nat.le_of_ble_eq_true rfl)⟩) dX4_box_13 rfl rfl rfl (Nat.le_of_ble_eq_true rfl) ⟨(Nat.le_of_ble_eq_true rfl), (Nat.le_of_ble_eq_true rfl)⟩ ?_ ?_
  · rintro E w2 ⟨rfl, rfl⟩
    exact zx_outi hex hlk ⟨rfl, rfl⟩ (Nat.le_of_ble_eq_true rfl) (Nat.le_of_ble_eq_true rfl)
  intro w2 h9
  exact h9.elim

set_option maxHeartbeats 4000000 in
set_option maxRecDepth 100000 in
theorem c_box_x3 {l : Launch} {D : va_G} {tys : List (ClassId × FieldType)} {ad : Nat → Nat} {cA : ClassId} {ro lo co ks : Nat → Nat} {nb sl : Nat} {si we ki ap tg : Nat → Nat} {nu : Nat} {bn us : Nat → Nat} {nh ct : Nat} {mk ex : Bool} {ob : Nat → Option Nat} {oc : Nat → Nat} {lc : Nat → Option Nat} {fb fs : Nat → Nat} (hl : l.stackTraces = false) (v1 v2 v3 v4 : Int32) (h1 : (1 ≤ v1 ∧ v1 ≤ 1000)) (h2 : (1 ≤ v2 ∧ v2 ≤ 1000)) (h3 : ¬ (0 ≤ v3 ∧ v3 ≤ 1000)) : zXi l yX4_box (zws yX4_box cX4_box 5 (some .int)) { frames := 7, cells := 1, slots := 6, locals := 106 } D zcl ((cA, .int) :: tys) zG [.ref (ad 0), .int v1, .int v2, .int v3, .int v4] (wX ad cA ro lo co ks nb sl si we ki ap tg nu bn us nh ct mk ex ob oc lc fb fs) (fun _ _ => False) (fun E w2 => E = "java/lang/IllegalArgumentException" ∧ w2 = (wX ad cA ro lo co ks nb sl si we ki ap tg nu bn us nh ct mk ex ob oc lc fb fs)) 1 6 := by
  refine zx_ofi (cc := cX4_box) (maxL := 5) (ret := (some .int)) (by decide) rfl (Nat.le_of_ble_eq_true rfl) ?_
  intro p e s m below meth c A F hr hlk hnm hex
  refine z_iload_n F dX4_box_0 rfl ?_
  refine z_iconst (v := 1) F dX4_box_1 (by decide) ?_
  refine z_sipush (v := 1000) F dX4_box_2 (by decide) ?_
  refine z_callSv (w1 := []) (w3 := (wX ad cA ro lo co ks nb sl si we ki ap tg nu bn us nh ct mk ex ob oc lc fb fs)) F (c_X_range v1 1 1000 h1) (zcwS F.2.2.2.2.1 kcX4_needRange kmX4_37 ktX4_needRange knX4 hdX4_needRange rfl rfl ⟨(Nat.le_of_ble_eq_true rfl), (Nat.le_of_ble_eq_true rfl)⟩) dX4_box_5 rfl rfl rfl (Nat.le_of_ble_eq_true rfl) ⟨(Nat.le_of_ble_eq_true rfl), (Nat.le_of_ble_eq_true rfl)⟩ ?_
  rintro w2 rfl
  refine z_eq (ws2 := (wX ad cA ro lo co ks nb sl si we ki ap tg nu bn us nh ct mk ex ob oc lc fb fs)) rfl rfl rfl rfl ?_
  refine z_iload_n F dX4_box_8 rfl ?_
  refine z_iconst (v := 1) F dX4_box_9 (by decide) ?_
  refine z_sipush (v := 1000) F dX4_box_10 (by decide) ?_
  refine z_callSv (w1 := []) (w3 := (wX ad cA ro lo co ks nb sl si we ki ap tg nu bn us nh ct mk ex ob oc lc fb fs)) F (c_X_range v2 1 1000 h2) (zcwS F.2.2.2.2.1 kcX4_needRange kmX4_37 ktX4_needRange knX4 hdX4_needRange rfl rfl ⟨(Nat.le_of_ble_eq_true rfl), (Nat.le_of_ble_eq_true rfl)⟩) dX4_box_13 rfl rfl rfl (Nat.le_of_ble_eq_true rfl) ⟨(Nat.le_of_ble_eq_true rfl), (Nat.le_of_ble_eq_true rfl)⟩ ?_
  rintro w2 rfl
  refine z_eq (ws2 := (wX ad cA ro lo co ks nb sl si we ki ap tg nu bn us nh ct mk ex ob oc lc fb fs)) rfl rfl rfl rfl ?_
  refine z_iload_n F dX4_box_16 rfl ?_
  refine z_iconst (v := 0) F dX4_box_17 (by decide) ?_
  refine z_sipush (v := 1000) F dX4_box_18 (by decide) ?_
  refine zx_callSv (w1 := []) (w3 := (wX ad cA ro lo co ks nb sl si we ki ap tg nu bn us nh ct mk ex ob oc lc fb fs)) F (c_X_range_x hl v3 0 1000 h3) (zcwS F.2.2.2.2.1 kcX4_needRange kmX4_37 ktX4_needRange knX4 hdX4_needRange rfl rfl ⟨(Nat.le_of_ble_eq_true rfl), (Nat.le_of_ble_eq_true rfl)⟩) dX4_box_21 rfl rfl rfl (Nat.le_of_ble_eq_true rfl) ⟨(Nat.le_of_ble_eq_true rfl), (Nat.le_of_ble_eq_true rfl)⟩ ?_ ?_
  · rintro E w2 ⟨rfl, rfl⟩
    exact zx_outi hex hlk ⟨rfl, rfl⟩ (Nat.le_of_ble_eq_true rfl) (Nat.le_of_ble_eq_true rfl)
  intro w2 h9
  exact h9.elim

set_option maxHeartbeats 4000000 in
set_option maxRecDepth 100000 in
theorem c_box_x4 {l : Launch} {D : va_G} {tys : List (ClassId × FieldType)} {ad : Nat → Nat} {cA : ClassId} {ro lo co ks : Nat → Nat} {nb sl : Nat} {si we ki ap tg : Nat → Nat} {nu : Nat} {bn us : Nat → Nat} {nh ct : Nat} {mk ex : Bool} {ob : Nat → Option Nat} {oc : Nat → Nat} {lc : Nat → Option Nat} {fb fs : Nat → Nat} (hl : l.stackTraces = false) (v1 v2 v3 v4 : Int32) (h1 : (1 ≤ v1 ∧ v1 ≤ 1000)) (h2 : (1 ≤ v2 ∧ v2 ≤ 1000)) (h3 : (0 ≤ v3 ∧ v3 ≤ 1000)) (h4 : ¬ (0 ≤ v4 ∧ v4 ≤ 255)) : zXi l yX4_box (zws yX4_box cX4_box 5 (some .int)) { frames := 7, cells := 1, slots := 6, locals := 106 } D zcl ((cA, .int) :: tys) zG [.ref (ad 0), .int v1, .int v2, .int v3, .int v4] (wX ad cA ro lo co ks nb sl si we ki ap tg nu bn us nh ct mk ex ob oc lc fb fs) (fun _ _ => False) (fun E w2 => E = "java/lang/IllegalArgumentException" ∧ w2 = (wX ad cA ro lo co ks nb sl si we ki ap tg nu bn us nh ct mk ex ob oc lc fb fs)) 1 6 := by
  refine zx_ofi (cc := cX4_box) (maxL := 5) (ret := (some .int)) (by decide) rfl (Nat.le_of_ble_eq_true rfl) ?_
  intro p e s m below meth c A F hr hlk hnm hex
  refine z_iload_n F dX4_box_0 rfl ?_
  refine z_iconst (v := 1) F dX4_box_1 (by decide) ?_
  refine z_sipush (v := 1000) F dX4_box_2 (by decide) ?_
  refine z_callSv (w1 := []) (w3 := (wX ad cA ro lo co ks nb sl si we ki ap tg nu bn us nh ct mk ex ob oc lc fb fs)) F (c_X_range v1 1 1000 h1) (zcwS F.2.2.2.2.1 kcX4_needRange kmX4_37 ktX4_needRange knX4 hdX4_needRange rfl rfl ⟨(Nat.le_of_ble_eq_true rfl), (Nat.le_of_ble_eq_true rfl)⟩) dX4_box_5 rfl rfl rfl (Nat.le_of_ble_eq_true rfl) ⟨(Nat.le_of_ble_eq_true rfl), (Nat.le_of_ble_eq_true rfl)⟩ ?_
  rintro w2 rfl
  refine z_eq (ws2 := (wX ad cA ro lo co ks nb sl si we ki ap tg nu bn us nh ct mk ex ob oc lc fb fs)) rfl rfl rfl rfl ?_
  refine z_iload_n F dX4_box_8 rfl ?_
  refine z_iconst (v := 1) F dX4_box_9 (by decide) ?_
  refine z_sipush (v := 1000) F dX4_box_10 (by decide) ?_
  refine z_callSv (w1 := []) (w3 := (wX ad cA ro lo co ks nb sl si we ki ap tg nu bn us nh ct mk ex ob oc lc fb fs)) F (c_X_range v2 1 1000 h2) (zcwS F.2.2.2.2.1 kcX4_needRange kmX4_37 ktX4_needRange knX4 hdX4_needRange rfl rfl ⟨(Nat.le_of_ble_eq_true rfl), (Nat.le_of_ble_eq_true rfl)⟩) dX4_box_13 rfl rfl rfl (Nat.le_of_ble_eq_true rfl) ⟨(Nat.le_of_ble_eq_true rfl), (Nat.le_of_ble_eq_true rfl)⟩ ?_
  rintro w2 rfl
  refine z_eq (ws2 := (wX ad cA ro lo co ks nb sl si we ki ap tg nu bn us nh ct mk ex ob oc lc fb fs)) rfl rfl rfl rfl ?_
  refine z_iload_n F dX4_box_16 rfl ?_
  refine z_iconst (v := 0) F dX4_box_17 (by decide) ?_
  refine z_sipush (v := 1000) F dX4_box_18 (by decide) ?_
  refine z_callSv (w1 := []) (w3 := (wX ad cA ro lo co ks nb sl si we ki ap tg nu bn us nh ct mk ex ob oc lc fb fs)) F (c_X_range v3 0 1000 h3) (zcwS F.2.2.2.2.1 kcX4_needRange kmX4_37 ktX4_needRange knX4 hdX4_needRange rfl rfl ⟨(Nat.le_of_ble_eq_true rfl), (Nat.le_of_ble_eq_true rfl)⟩) dX4_box_21 rfl rfl rfl (Nat.le_of_ble_eq_true rfl) ⟨(Nat.le_of_ble_eq_true rfl), (Nat.le_of_ble_eq_true rfl)⟩ ?_
  rintro w2 rfl
  refine z_eq (ws2 := (wX ad cA ro lo co ks nb sl si we ki ap tg nu bn us nh ct mk ex ob oc lc fb fs)) rfl rfl rfl rfl ?_
  refine z_iload F dX4_box_24 rfl ?_
  refine z_iconst (v := 0) F dX4_box_26 (by decide) ?_
  refine z_sipush (v := 255) F dX4_box_27 (by decide) ?_
  refine zx_callSv (w1 := []) (w3 := (wX ad cA ro lo co ks nb sl si we ki ap tg nu bn us nh ct mk ex ob oc lc fb fs)) F (c_X_range_x hl v4 0 255 h4) (zcwS F.2.2.2.2.1 kcX4_needRange kmX4_37 ktX4_needRange knX4 hdX4_needRange rfl rfl ⟨(Nat.le_of_ble_eq_true rfl), (Nat.le_of_ble_eq_true rfl)⟩) dX4_box_30 rfl rfl rfl (Nat.le_of_ble_eq_true rfl) ⟨(Nat.le_of_ble_eq_true rfl), (Nat.le_of_ble_eq_true rfl)⟩ ?_ ?_
  · rintro E w2 ⟨rfl, rfl⟩
    exact zx_outi hex hlk ⟨rfl, rfl⟩ (Nat.le_of_ble_eq_true rfl) (Nat.le_of_ble_eq_true rfl)
  intro w2 h9
  exact h9.elim

set_option maxHeartbeats 4000000 in
set_option maxRecDepth 100000 in
theorem c_box_x5 {l : Launch} {D : va_G} {tys : List (ClassId × FieldType)} {ad : Nat → Nat} {cA : ClassId} {ro lo co ks : Nat → Nat} {nb sl : Nat} {si we ki ap tg : Nat → Nat} {nu : Nat} {bn us : Nat → Nat} {nh ct : Nat} {mk ex : Bool} {ob : Nat → Option Nat} {oc : Nat → Nat} {lc : Nat → Option Nat} {fb fs : Nat → Nat} (hl : l.stackTraces = false) (v1 v2 v3 v4 : Int32) (h1 : (1 ≤ v1 ∧ v1 ≤ 1000)) (h2 : (1 ≤ v2 ∧ v2 ≤ 1000)) (h3 : (0 ≤ v3 ∧ v3 ≤ 1000)) (h4 : (0 ≤ v4 ∧ v4 ≤ 255)) (hn : nb ≤ 6) (hf : 6 ≤ nb) : zXi l yX4_box (zws yX4_box cX4_box 5 (some .int)) { frames := 7, cells := 1, slots := 6, locals := 106 } D zcl ((cA, .int) :: tys) zG [.ref (ad 0), .int v1, .int v2, .int v3, .int v4] (wX ad cA ro lo co ks nb sl si we ki ap tg nu bn us nh ct mk ex ob oc lc fb fs) (fun _ _ => False) (fun E w2 => E = "java/lang/UnsupportedOperationException" ∧ w2 = (wX ad cA ro lo co ks nb sl si we ki ap tg nu bn us nh ct mk ex ob oc lc fb fs)) 1 6 := by
  refine zx_ofi (cc := cX4_box) (maxL := 5) (ret := (some .int)) (by decide) rfl (Nat.le_of_ble_eq_true rfl) ?_
  intro p e s m below meth c A F hr hlk hnm hex
  refine z_iload_n F dX4_box_0 rfl ?_
  refine z_iconst (v := 1) F dX4_box_1 (by decide) ?_
  refine z_sipush (v := 1000) F dX4_box_2 (by decide) ?_
  refine z_callSv (w1 := []) (w3 := (wX ad cA ro lo co ks nb sl si we ki ap tg nu bn us nh ct mk ex ob oc lc fb fs)) F (c_X_range v1 1 1000 h1) (zcwS F.2.2.2.2.1 kcX4_needRange kmX4_37 ktX4_needRange knX4 hdX4_needRange rfl rfl ⟨(Nat.le_of_ble_eq_true rfl), (Nat.le_of_ble_eq_true rfl)⟩) dX4_box_5 rfl rfl rfl (Nat.le_of_ble_eq_true rfl) ⟨(Nat.le_of_ble_eq_true rfl), (Nat.le_of_ble_eq_true rfl)⟩ ?_
  rintro w2 rfl
  refine z_eq (ws2 := (wX ad cA ro lo co ks nb sl si we ki ap tg nu bn us nh ct mk ex ob oc lc fb fs)) rfl rfl rfl rfl ?_
  refine z_iload_n F dX4_box_8 rfl ?_
  refine z_iconst (v := 1) F dX4_box_9 (by decide) ?_
  refine z_sipush (v := 1000) F dX4_box_10 (by decide) ?_
  refine z_callSv (w1 := []) (w3 := (wX ad cA ro lo co ks nb sl si we ki ap tg nu bn us nh ct mk ex ob oc lc fb fs)) F (c_X_range v2 1 1000 h2) (zcwS F.2.2.2.2.1 kcX4_needRange kmX4_37 ktX4_needRange knX4 hdX4_needRange rfl rfl ⟨(Nat.le_of_ble_eq_true rfl), (Nat.le_of_ble_eq_true rfl)⟩) dX4_box_13 rfl rfl rfl (Nat.le_of_ble_eq_true rfl) ⟨(Nat.le_of_ble_eq_true rfl), (Nat.le_of_ble_eq_true rfl)⟩ ?_
  rintro w2 rfl
  refine z_eq (ws2 := (wX ad cA ro lo co ks nb sl si we ki ap tg nu bn us nh ct mk ex ob oc lc fb fs)) rfl rfl rfl rfl ?_
  refine z_iload_n F dX4_box_16 rfl ?_
  refine z_iconst (v := 0) F dX4_box_17 (by decide) ?_
  refine z_sipush (v := 1000) F dX4_box_18 (by decide) ?_
  refine z_callSv (w1 := []) (w3 := (wX ad cA ro lo co ks nb sl si we ki ap tg nu bn us nh ct mk ex ob oc lc fb fs)) F (c_X_range v3 0 1000 h3) (zcwS F.2.2.2.2.1 kcX4_needRange kmX4_37 ktX4_needRange knX4 hdX4_needRange rfl rfl ⟨(Nat.le_of_ble_eq_true rfl), (Nat.le_of_ble_eq_true rfl)⟩) dX4_box_21 rfl rfl rfl (Nat.le_of_ble_eq_true rfl) ⟨(Nat.le_of_ble_eq_true rfl), (Nat.le_of_ble_eq_true rfl)⟩ ?_
  rintro w2 rfl
  refine z_eq (ws2 := (wX ad cA ro lo co ks nb sl si we ki ap tg nu bn us nh ct mk ex ob oc lc fb fs)) rfl rfl rfl rfl ?_
  refine z_iload F dX4_box_24 rfl ?_
  refine z_iconst (v := 0) F dX4_box_26 (by decide) ?_
  refine z_sipush (v := 255) F dX4_box_27 (by decide) ?_
  refine z_callSv (w1 := []) (w3 := (wX ad cA ro lo co ks nb sl si we ki ap tg nu bn us nh ct mk ex ob oc lc fb fs)) F (c_X_range v4 0 255 h4) (zcwS F.2.2.2.2.1 kcX4_needRange kmX4_37 ktX4_needRange knX4 hdX4_needRange rfl rfl ⟨(Nat.le_of_ble_eq_true rfl), (Nat.le_of_ble_eq_true rfl)⟩) dX4_box_30 rfl rfl rfl (Nat.le_of_ble_eq_true rfl) ⟨(Nat.le_of_ble_eq_true rfl), (Nat.le_of_ble_eq_true rfl)⟩ ?_
  rintro w2 rfl
  refine z_eq (ws2 := (wX ad cA ro lo co ks nb sl si we ki ap tg nu bn us nh ct mk ex ob oc lc fb fs)) rfl rfl rfl rfl ?_
  refine z_aload_n F dX4_box_33 rfl ?_
  refine z_get (ci := 4) (C := RX4) (T := TX4) (N := 4) F 0 0 dX4_box_34 inX4 kfX4_12 rfl rfl rfl (by decide) rfl ?_
  refine z_callVi (w1 := [(ad 0, .inr (4, [.ref (ad 1), .ref (ad 6), .ref (ad 12), .ref (ad 15)]))]) (w3 := (wU (ad 6) (ad 7) (ad 8) (ad 9) (ad 10) (ad 11) cA si we ki ap tg nu ++ (wH (ad 12) (ad 13) (ad 14) cA bn us nh ct mk ex ++ wE (ad 15) (ad 16) (ad 17) (ad 18) (ad 19) (ad 20) cA ob oc lc fb fs))) F (c_C_isFull hn) 0 rfl rfl (zcwV F.2.2.2.2.1 kcX0_isFull kmX4_41 kiX0_isFull ksX0_isFull knX0 hdX0_isFull rfl rfl ⟨(Nat.le_of_ble_eq_true rfl), (Nat.le_of_ble_eq_true rfl)⟩) dX4_box_37 rfl rfl rfl (Nat.le_of_ble_eq_true rfl) ⟨(Nat.le_of_ble_eq_true rfl), (Nat.le_of_ble_eq_true rfl)⟩ ?_
  rintro r w2 ⟨rfl, rfl⟩
  refine z_eq (ws2 := (wX ad cA ro lo co ks nb sl si we ki ap tg nu bn us nh ct mk ex ob oc lc fb fs)) rfl rfl rfl rfl ?_
  refine z_if_eq (tgt := 53) F dX4_box_40 (by decide) (fun c40 => ?_) (fun c40 => ?_)
  · exact absurd (zB_0.mp c40) (by rw [decide_eq_true hf]; decide)
  · exact zx_throwi F hl (cls := "java/lang/UnsupportedOperationException") (text := "the catalogue is full") (names := ["java/lang/RuntimeException", "java/lang/Exception"]) (ik := 45) (is := 47) (ic := 49) (by decide) (by decide) (F.2.2.2.2.1 _ klX4_45) (F.2.2.2.2.1 _ knJ_UnsupportedOperationException) (F.2.2.2.2.2.2.2.1.2.2.2.1 (47, "the catalogue is full") (List.mem_of_getElem? (i := 1) rfl)) (xat_UnsupportedOperationException F.2.2.2.2.1 F.2.2.2.2.2.2.2.1) xgd_UnsupportedOperationException_45 F.2.2.2.2.2.2.2.1.2.2.2.2.1 F.2.2.2.2.2.2.2.1.2.2.2.2.2 hex dX4_box_43 dX4_box_46 dX4_box_47 dX4_box_49 dX4_box_52 (Nat.le_of_ble_eq_true rfl) (Nat.le_of_ble_eq_true rfl) (Nat.le_of_ble_eq_true rfl) (Nat.le_of_ble_eq_true rfl) hlk ⟨rfl, rfl⟩ (Nat.le_of_ble_eq_true rfl) (Nat.le_of_ble_eq_true rfl)

set_option maxHeartbeats 4000000 in
set_option maxRecDepth 100000 in
/-- box -/
theorem c_box {l : Launch} {D : va_G} {tys : List (ClassId × FieldType)} {ad : Nat → Nat} {cA : ClassId} {ro lo co ks : Nat → Nat} {nb sl : Nat} {si we ki ap tg : Nat → Nat} {nu : Nat} {bn us : Nat → Nat} {nh ct : Nat} {mk ex : Bool} {ob : Nat → Option Nat} {oc : Nat → Nat} {lc : Nat → Option Nat} {fb fs : Nat → Nat} (hn : nb < 6) (r l2 k1 k2 : Nat) (h1 : 1 ≤ r ∧ r ≤ 1000) (h2 : 1 ≤ l2 ∧ l2 ≤ 1000) (h3 : 0 ≤ k1 ∧ k1 ≤ 1000) (h4 : 0 ≤ k2 ∧ k2 ≤ 255) : zMi l yX4_box (zws yX4_box cX4_box 5 (some .int)) { frames := 7, cells := 0, slots := 0, locals := 106 } D zcl ((cA, .int) :: tys) zG [.ref (ad 0), .int (nI r), .int (nI l2), .int (nI k1), .int (nI k2)] (wX ad cA ro lo co ks nb sl si we ki ap tg nu bn us nh ct mk ex ob oc lc fb fs) (fun r1 w2 => r1 = nI nb ∧ w2 = (wX ad cA (zu ro nb r) (zu lo nb l2) (zu co nb k1) (zu ks nb k2) (nb + 1) sl si we ki ap tg nu bn us nh ct mk ex ob oc lc fb fs)) 0 0 := by
  refine z_ofi (cc := cX4_box) (maxL := 5) (ret := (some .int)) (by decide) rfl (Nat.le_of_ble_eq_true rfl) ?_
  intro p e s m below meth c A F hr hlk hnm
  refine z_iload_n F dX4_box_0 rfl ?_
  refine z_iconst (v := 1) F dX4_box_1 (by decide) ?_
  refine z_sipush (v := 1000) F dX4_box_2 (by decide) ?_
  refine z_callSv (w1 := []) (w3 := (wX ad cA ro lo co ks nb sl si we ki ap tg nu bn us nh ct mk ex ob oc lc fb fs)) F (c_X_range (nI r) 1 1000 (zin h1.1 h1.2 (by decide))) (zcwS F.2.2.2.2.1 kcX4_needRange kmX4_37 ktX4_needRange knX4 hdX4_needRange rfl rfl ⟨(Nat.le_of_ble_eq_true rfl), (Nat.le_of_ble_eq_true rfl)⟩) dX4_box_5 rfl rfl rfl (Nat.le_of_ble_eq_true rfl) ⟨(Nat.le_of_ble_eq_true rfl), (Nat.le_of_ble_eq_true rfl)⟩ ?_
  rintro w2 rfl
  refine z_eq (ws2 := (wX ad cA ro lo co ks nb sl si we ki ap tg nu bn us nh ct mk ex ob oc lc fb fs)) rfl rfl rfl rfl ?_
  refine z_iload_n F dX4_box_8 rfl ?_
  refine z_iconst (v := 1) F dX4_box_9 (by decide) ?_
  refine z_sipush (v := 1000) F dX4_box_10 (by decide) ?_
  refine z_callSv (w1 := []) (w3 := (wX ad cA ro lo co ks nb sl si we ki ap tg nu bn us nh ct mk ex ob oc lc fb fs)) F (c_X_range (nI l2) 1 1000 (zin h2.1 h2.2 (by decide))) (zcwS F.2.2.2.2.1 kcX4_needRange kmX4_37 ktX4_needRange knX4 hdX4_needRange rfl rfl ⟨(Nat.le_of_ble_eq_true rfl), (Nat.le_of_ble_eq_true rfl)⟩) dX4_box_13 rfl rfl rfl (Nat.le_of_ble_eq_true rfl) ⟨(Nat.le_of_ble_eq_true rfl), (Nat.le_of_ble_eq_true rfl)⟩ ?_
  rintro w2 rfl
  refine z_eq (ws2 := (wX ad cA ro lo co ks nb sl si we ki ap tg nu bn us nh ct mk ex ob oc lc fb fs)) rfl rfl rfl rfl ?_
  refine z_iload_n F dX4_box_16 rfl ?_
  refine z_iconst (v := 0) F dX4_box_17 (by decide) ?_
  refine z_sipush (v := 1000) F dX4_box_18 (by decide) ?_
  refine z_callSv (w1 := []) (w3 := (wX ad cA ro lo co ks nb sl si we ki ap tg nu bn us nh ct mk ex ob oc lc fb fs)) F (c_X_range (nI k1) 0 1000 (zin h3.1 h3.2 (by decide))) (zcwS F.2.2.2.2.1 kcX4_needRange kmX4_37 ktX4_needRange knX4 hdX4_needRange rfl rfl ⟨(Nat.le_of_ble_eq_true rfl), (Nat.le_of_ble_eq_true rfl)⟩) dX4_box_21 rfl rfl rfl (Nat.le_of_ble_eq_true rfl) ⟨(Nat.le_of_ble_eq_true rfl), (Nat.le_of_ble_eq_true rfl)⟩ ?_
  rintro w2 rfl
  refine z_eq (ws2 := (wX ad cA ro lo co ks nb sl si we ki ap tg nu bn us nh ct mk ex ob oc lc fb fs)) rfl rfl rfl rfl ?_
  refine z_iload F dX4_box_24 rfl ?_
  refine z_iconst (v := 0) F dX4_box_26 (by decide) ?_
  refine z_sipush (v := 255) F dX4_box_27 (by decide) ?_
  refine z_callSv (w1 := []) (w3 := (wX ad cA ro lo co ks nb sl si we ki ap tg nu bn us nh ct mk ex ob oc lc fb fs)) F (c_X_range (nI k2) 0 255 (zin h4.1 h4.2 (by decide))) (zcwS F.2.2.2.2.1 kcX4_needRange kmX4_37 ktX4_needRange knX4 hdX4_needRange rfl rfl ⟨(Nat.le_of_ble_eq_true rfl), (Nat.le_of_ble_eq_true rfl)⟩) dX4_box_30 rfl rfl rfl (Nat.le_of_ble_eq_true rfl) ⟨(Nat.le_of_ble_eq_true rfl), (Nat.le_of_ble_eq_true rfl)⟩ ?_
  rintro w2 rfl
  refine z_eq (ws2 := (wX ad cA ro lo co ks nb sl si we ki ap tg nu bn us nh ct mk ex ob oc lc fb fs)) rfl rfl rfl rfl ?_
  refine z_aload_n F dX4_box_33 rfl ?_
  refine z_get (ci := 4) (C := RX4) (T := TX4) (N := 4) F 0 0 dX4_box_34 inX4 kfX4_12 rfl rfl rfl (by decide) rfl ?_
  refine z_callVi (w1 := [(ad 0, .inr (4, [.ref (ad 1), .ref (ad 6), .ref (ad 12), .ref (ad 15)]))]) (w3 := (wU (ad 6) (ad 7) (ad 8) (ad 9) (ad 10) (ad 11) cA si we ki ap tg nu ++ (wH (ad 12) (ad 13) (ad 14) cA bn us nh ct mk ex ++ wE (ad 15) (ad 16) (ad 17) (ad 18) (ad 19) (ad 20) cA ob oc lc fb fs))) F (c_C_isFull (Nat.le_of_lt hn)) 0 rfl rfl (zcwV F.2.2.2.2.1 kcX0_isFull kmX4_41 kiX0_isFull ksX0_isFull knX0 hdX0_isFull rfl rfl ⟨(Nat.le_of_ble_eq_true rfl), (Nat.le_of_ble_eq_true rfl)⟩) dX4_box_37 rfl rfl rfl (Nat.le_of_ble_eq_true rfl) ⟨(Nat.le_of_ble_eq_true rfl), (Nat.le_of_ble_eq_true rfl)⟩ ?_
  rintro r w2 ⟨rfl, rfl⟩
  refine z_eq (ws2 := (wX ad cA ro lo co ks nb sl si we ki ap tg nu bn us nh ct mk ex ob oc lc fb fs)) rfl rfl rfl rfl ?_
  refine z_if_eq (tgt := 53) F dX4_box_40 (by decide) (fun c40 => ?_) (fun c40 => ?_)
  · refine z_aload_n F dX4_box_53 rfl ?_
    refine z_get (ci := 4) (C := RX4) (T := TX4) (N := 4) F 0 0 dX4_box_54 inX4 kfX4_12 rfl rfl rfl (by decide) rfl ?_
    refine z_iload_n F dX4_box_57 rfl ?_
    refine z_iload_n F dX4_box_58 rfl ?_
    refine z_iload_n F dX4_box_59 rfl ?_
    refine z_iload F dX4_box_60 rfl ?_
    refine z_callVi (w1 := [(ad 0, .inr (4, [.ref (ad 1), .ref (ad 6), .ref (ad 12), .ref (ad 15)]))]) (w3 := (wU (ad 6) (ad 7) (ad 8) (ad 9) (ad 10) (ad 11) cA si we ki ap tg nu ++ (wH (ad 12) (ad 13) (ad 14) cA bn us nh ct mk ex ++ wE (ad 15) (ad 16) (ad 17) (ad 18) (ad 19) (ad 20) cA ob oc lc fb fs))) F (c_C_add hn r l2 k1 k2) 0 rfl rfl (zcwV F.2.2.2.2.1 kcX0_add kmX4_52 kiX0_add ksX0_add knX0 hdX0_add rfl rfl ⟨(Nat.le_of_ble_eq_true rfl), (Nat.le_of_ble_eq_true rfl)⟩) dX4_box_62 rfl rfl rfl (Nat.le_of_ble_eq_true rfl) ⟨(Nat.le_of_ble_eq_true rfl), (Nat.le_of_ble_eq_true rfl)⟩ ?_
    rintro r1 w2 ⟨rfl, rfl⟩
    exact z_iret F hr rfl hlk dX4_box_65 ⟨rfl, rfl⟩ (Nat.le_of_ble_eq_true rfl) (Nat.le_of_ble_eq_true rfl)
  · exact absurd (zB_1.mp c40) (by rw [decide_eq_false (by omega)]; decide)

set_option maxHeartbeats 4000000 in
set_option maxRecDepth 100000 in
theorem c_unit_x1 {l : Launch} {D : va_G} {tys : List (ClassId × FieldType)} {ad : Nat → Nat} {cA : ClassId} {ro lo co ks : Nat → Nat} {nb sl : Nat} {si we ki ap tg : Nat → Nat} {nu : Nat} {bn us : Nat → Nat} {nh ct : Nat} {mk ex : Bool} {ob : Nat → Option Nat} {oc : Nat → Nat} {lc : Nat → Option Nat} {fb fs : Nat → Nat} (hl : l.stackTraces = false) (v1 v2 v3 : Int32) (h1 : ¬ (1 ≤ v1 ∧ v1 ≤ 1000)) : zXi l yX4_unit (zws yX4_unit cX4_unit 4 (some .int)) { frames := 7, cells := 1, slots := 6, locals := 106 } D zcl ((cA, .int) :: tys) zG [.ref (ad 0), .int v1, .int v2, .int v3] (wX ad cA ro lo co ks nb sl si we ki ap tg nu bn us nh ct mk ex ob oc lc fb fs) (fun _ _ => False) (fun E w2 => E = "java/lang/IllegalArgumentException" ∧ w2 = (wX ad cA ro lo co ks nb sl si we ki ap tg nu bn us nh ct mk ex ob oc lc fb fs)) 1 6 := by
  refine zx_ofi (cc := cX4_unit) (maxL := 4) (ret := (some .int)) (by decide) rfl (Nat.le_of_ble_eq_true rfl) ?_
  intro p e s m below meth c A F hr hlk hnm hex
  refine z_iload_n F dX4_unit_0 rfl ?_
  refine z_iconst (v := 1) F dX4_unit_1 (by decide) ?_
  refine z_sipush (v := 1000) F dX4_unit_2 (by decide) ?_
  refine zx_callSv (w1 := []) (w3 := (wX ad cA ro lo co ks nb sl si we ki ap tg nu bn us nh ct mk ex ob oc lc fb fs)) F (c_X_range_x hl v1 1 1000 h1) (zcwS F.2.2.2.2.1 kcX4_needRange kmX4_37 ktX4_needRange knX4 hdX4_needRange rfl rfl ⟨(Nat.le_of_ble_eq_true rfl), (Nat.le_of_ble_eq_true rfl)⟩) dX4_unit_5 rfl rfl rfl (Nat.le_of_ble_eq_true rfl) ⟨(Nat.le_of_ble_eq_true rfl), (Nat.le_of_ble_eq_true rfl)⟩ ?_ ?_
  · rintro E w2 ⟨rfl, rfl⟩
    exact zx_outi hex hlk ⟨rfl, rfl⟩ (Nat.le_of_ble_eq_true rfl) (Nat.le_of_ble_eq_true rfl)
  intro w2 h9
  exact h9.elim

set_option maxHeartbeats 4000000 in
set_option maxRecDepth 100000 in
theorem c_unit_x2 {l : Launch} {D : va_G} {tys : List (ClassId × FieldType)} {ad : Nat → Nat} {cA : ClassId} {ro lo co ks : Nat → Nat} {nb sl : Nat} {si we ki ap tg : Nat → Nat} {nu : Nat} {bn us : Nat → Nat} {nh ct : Nat} {mk ex : Bool} {ob : Nat → Option Nat} {oc : Nat → Nat} {lc : Nat → Option Nat} {fb fs : Nat → Nat} (hl : l.stackTraces = false) (v1 v2 v3 : Int32) (h1 : (1 ≤ v1 ∧ v1 ≤ 1000)) (h2 : ¬ (0 ≤ v2 ∧ v2 ≤ 1000)) : zXi l yX4_unit (zws yX4_unit cX4_unit 4 (some .int)) { frames := 7, cells := 1, slots := 6, locals := 106 } D zcl ((cA, .int) :: tys) zG [.ref (ad 0), .int v1, .int v2, .int v3] (wX ad cA ro lo co ks nb sl si we ki ap tg nu bn us nh ct mk ex ob oc lc fb fs) (fun _ _ => False) (fun E w2 => E = "java/lang/IllegalArgumentException" ∧ w2 = (wX ad cA ro lo co ks nb sl si we ki ap tg nu bn us nh ct mk ex ob oc lc fb fs)) 1 6 := by
  refine zx_ofi (cc := cX4_unit) (maxL := 4) (ret := (some .int)) (by decide) rfl (Nat.le_of_ble_eq_true rfl) ?_
  intro p e s m below meth c A F hr hlk hnm hex
  refine z_iload_n F dX4_unit_0 rfl ?_
  refine z_iconst (v := 1) F dX4_unit_1 (by decide) ?_
  refine z_sipush (v := 1000) F dX4_unit_2 (by decide) ?_
  refine z_callSv (w1 := []) (w3 := (wX ad cA ro lo co ks nb sl si we ki ap tg nu bn us nh ct mk ex ob oc lc fb fs)) F (c_X_range v1 1 1000 h1) (zcwS F.2.2.2.2.1 kcX4_needRange kmX4_37 ktX4_needRange knX4 hdX4_needRange rfl rfl ⟨(Nat.le_of_ble_eq_true rfl), (Nat.le_of_ble_eq_true rfl)⟩) dX4_unit_5 rfl rfl rfl (Nat.le_of_ble_eq_true rfl) ⟨(Nat.le_of_ble_eq_true rfl), (Nat.le_of_ble_eq_true rfl)⟩ ?_
  rintro w2 rfl
  refine z_eq (ws2 := (wX ad cA ro lo co ks nb sl si we ki ap tg nu bn us nh ct mk ex ob oc lc fb fs)) rfl rfl rfl rfl ?_
  refine z_iload_n F dX4_unit_8 rfl ?_
  refine z_iconst (v := 0) F dX4_unit_9 (by decide) ?_
  refine z_sipush (v := 1000) F dX4_unit_10 (by decide) ?_
  refine zx_callSv (w1 := []) (w3 := (wX ad cA ro lo co ks nb sl si we ki ap tg nu bn us nh ct mk ex ob oc lc fb fs)) F (c_X_range_x hl v2 0 1000 h2) (zcwS F.2.2.2.2.1 kcX4_needRange kmX4_37 ktX4_needRange knX4 hdX4_needRange rfl rfl ⟨(Nat.le_of_ble_eq_true rfl), (Nat.le_of_ble_eq_true rfl)⟩) dX4_unit_13 rfl rfl rfl (Nat.le_of_ble_eq_true rfl) ⟨(Nat.le_of_ble_eq_true rfl), (Nat.le_of_ble_eq_true rfl)⟩ ?_ ?_
  · rintro E w2 ⟨rfl, rfl⟩
    exact zx_outi hex hlk ⟨rfl, rfl⟩ (Nat.le_of_ble_eq_true rfl) (Nat.le_of_ble_eq_true rfl)
  intro w2 h9
  exact h9.elim

set_option maxHeartbeats 4000000 in
set_option maxRecDepth 100000 in
theorem c_unit_x3 {l : Launch} {D : va_G} {tys : List (ClassId × FieldType)} {ad : Nat → Nat} {cA : ClassId} {ro lo co ks : Nat → Nat} {nb sl : Nat} {si we ki ap tg : Nat → Nat} {nu : Nat} {bn us : Nat → Nat} {nh ct : Nat} {mk ex : Bool} {ob : Nat → Option Nat} {oc : Nat → Nat} {lc : Nat → Option Nat} {fb fs : Nat → Nat} (hl : l.stackTraces = false) (v1 v2 v3 : Int32) (h1 : (1 ≤ v1 ∧ v1 ≤ 1000)) (h2 : (0 ≤ v2 ∧ v2 ≤ 1000)) (h3 : ¬ (0 ≤ v3 ∧ v3 ≤ 7)) : zXi l yX4_unit (zws yX4_unit cX4_unit 4 (some .int)) { frames := 7, cells := 1, slots := 6, locals := 106 } D zcl ((cA, .int) :: tys) zG [.ref (ad 0), .int v1, .int v2, .int v3] (wX ad cA ro lo co ks nb sl si we ki ap tg nu bn us nh ct mk ex ob oc lc fb fs) (fun _ _ => False) (fun E w2 => E = "java/lang/IllegalArgumentException" ∧ w2 = (wX ad cA ro lo co ks nb sl si we ki ap tg nu bn us nh ct mk ex ob oc lc fb fs)) 1 6 := by
  refine zx_ofi (cc := cX4_unit) (maxL := 4) (ret := (some .int)) (by decide) rfl (Nat.le_of_ble_eq_true rfl) ?_
  intro p e s m below meth c A F hr hlk hnm hex
  refine z_iload_n F dX4_unit_0 rfl ?_
  refine z_iconst (v := 1) F dX4_unit_1 (by decide) ?_
  refine z_sipush (v := 1000) F dX4_unit_2 (by decide) ?_
  refine z_callSv (w1 := []) (w3 := (wX ad cA ro lo co ks nb sl si we ki ap tg nu bn us nh ct mk ex ob oc lc fb fs)) F (c_X_range v1 1 1000 h1) (zcwS F.2.2.2.2.1 kcX4_needRange kmX4_37 ktX4_needRange knX4 hdX4_needRange rfl rfl ⟨(Nat.le_of_ble_eq_true rfl), (Nat.le_of_ble_eq_true rfl)⟩) dX4_unit_5 rfl rfl rfl (Nat.le_of_ble_eq_true rfl) ⟨(Nat.le_of_ble_eq_true rfl), (Nat.le_of_ble_eq_true rfl)⟩ ?_
  rintro w2 rfl
  refine z_eq (ws2 := (wX ad cA ro lo co ks nb sl si we ki ap tg nu bn us nh ct mk ex ob oc lc fb fs)) rfl rfl rfl rfl ?_
  refine z_iload_n F dX4_unit_8 rfl ?_
  refine z_iconst (v := 0) F dX4_unit_9 (by decide) ?_
  refine z_sipush (v := 1000) F dX4_unit_10 (by decide) ?_
  refine z_callSv (w1 := []) (w3 := (wX ad cA ro lo co ks nb sl si we ki ap tg nu bn us nh ct mk ex ob oc lc fb fs)) F (c_X_range v2 0 1000 h2) (zcwS F.2.2.2.2.1 kcX4_needRange kmX4_37 ktX4_needRange knX4 hdX4_needRange rfl rfl ⟨(Nat.le_of_ble_eq_true rfl), (Nat.le_of_ble_eq_true rfl)⟩) dX4_unit_13 rfl rfl rfl (Nat.le_of_ble_eq_true rfl) ⟨(Nat.le_of_ble_eq_true rfl), (Nat.le_of_ble_eq_true rfl)⟩ ?_
  rintro w2 rfl
  refine z_eq (ws2 := (wX ad cA ro lo co ks nb sl si we ki ap tg nu bn us nh ct mk ex ob oc lc fb fs)) rfl rfl rfl rfl ?_
  refine z_iload_n F dX4_unit_16 rfl ?_
  refine z_iconst (v := 0) F dX4_unit_17 (by decide) ?_
  refine z_bipush (v := 7) F dX4_unit_18 (by decide) ?_
  refine zx_callSv (w1 := []) (w3 := (wX ad cA ro lo co ks nb sl si we ki ap tg nu bn us nh ct mk ex ob oc lc fb fs)) F (c_X_range_x hl v3 0 7 h3) (zcwS F.2.2.2.2.1 kcX4_needRange kmX4_37 ktX4_needRange knX4 hdX4_needRange rfl rfl ⟨(Nat.le_of_ble_eq_true rfl), (Nat.le_of_ble_eq_true rfl)⟩) dX4_unit_20 rfl rfl rfl (Nat.le_of_ble_eq_true rfl) ⟨(Nat.le_of_ble_eq_true rfl), (Nat.le_of_ble_eq_true rfl)⟩ ?_ ?_
  · rintro E w2 ⟨rfl, rfl⟩
    exact zx_outi hex hlk ⟨rfl, rfl⟩ (Nat.le_of_ble_eq_true rfl) (Nat.le_of_ble_eq_true rfl)
  intro w2 h9
  exact h9.elim

set_option maxHeartbeats 4000000 in
set_option maxRecDepth 100000 in
theorem c_unit_x4 {l : Launch} {D : va_G} {tys : List (ClassId × FieldType)} {ad : Nat → Nat} {cA : ClassId} {ro lo co ks : Nat → Nat} {nb sl : Nat} {si we ki ap tg : Nat → Nat} {nu : Nat} {bn us : Nat → Nat} {nh ct : Nat} {mk ex : Bool} {ob : Nat → Option Nat} {oc : Nat → Nat} {lc : Nat → Option Nat} {fb fs : Nat → Nat} (hl : l.stackTraces = false) (v1 v2 v3 : Int32) (h1 : (1 ≤ v1 ∧ v1 ≤ 1000)) (h2 : (0 ≤ v2 ∧ v2 ≤ 1000)) (h3 : (0 ≤ v3 ∧ v3 ≤ 7)) (hn : nu ≤ 8) (hf : 8 ≤ nu) : zXi l yX4_unit (zws yX4_unit cX4_unit 4 (some .int)) { frames := 7, cells := 1, slots := 6, locals := 106 } D zcl ((cA, .int) :: tys) zG [.ref (ad 0), .int v1, .int v2, .int v3] (wX ad cA ro lo co ks nb sl si we ki ap tg nu bn us nh ct mk ex ob oc lc fb fs) (fun _ _ => False) (fun E w2 => E = "java/lang/UnsupportedOperationException" ∧ w2 = (wX ad cA ro lo co ks nb sl si we ki ap tg nu bn us nh ct mk ex ob oc lc fb fs)) 1 6 := by
  refine zx_ofi (cc := cX4_unit) (maxL := 4) (ret := (some .int)) (by decide) rfl (Nat.le_of_ble_eq_true rfl) ?_
  intro p e s m below meth c A F hr hlk hnm hex
  refine z_iload_n F dX4_unit_0 rfl ?_
  refine z_iconst (v := 1) F dX4_unit_1 (by decide) ?_
  refine z_sipush (v := 1000) F dX4_unit_2 (by decide) ?_
  refine z_callSv (w1 := []) (w3 := (wX ad cA ro lo co ks nb sl si we ki ap tg nu bn us nh ct mk ex ob oc lc fb fs)) F (c_X_range v1 1 1000 h1) (zcwS F.2.2.2.2.1 kcX4_needRange kmX4_37 ktX4_needRange knX4 hdX4_needRange rfl rfl ⟨(Nat.le_of_ble_eq_true rfl), (Nat.le_of_ble_eq_true rfl)⟩) dX4_unit_5 rfl rfl rfl (Nat.le_of_ble_eq_true rfl) ⟨(Nat.le_of_ble_eq_true rfl), (Nat.le_of_ble_eq_true rfl)⟩ ?_
  rintro w2 rfl
  refine z_eq (ws2 := (wX ad cA ro lo co ks nb sl si we ki ap tg nu bn us nh ct mk ex ob oc lc fb fs)) rfl rfl rfl rfl ?_
  refine z_iload_n F dX4_unit_8 rfl ?_
  refine z_iconst (v := 0) F dX4_unit_9 (by decide) ?_
  refine z_sipush (v := 1000) F dX4_unit_10 (by decide) ?_
  refine z_callSv (w1 := []) (w3 := (wX ad cA ro lo co ks nb sl si we ki ap tg nu bn us nh ct mk ex ob oc lc fb fs)) F (c_X_range v2 0 1000 h2) (zcwS F.2.2.2.2.1 kcX4_needRange kmX4_37 ktX4_needRange knX4 hdX4_needRange rfl rfl ⟨(Nat.le_of_ble_eq_true rfl), (Nat.le_of_ble_eq_true rfl)⟩) dX4_unit_13 rfl rfl rfl (Nat.le_of_ble_eq_true rfl) ⟨(Nat.le_of_ble_eq_true rfl), (Nat.le_of_ble_eq_true rfl)⟩ ?_
  rintro w2 rfl
  refine z_eq (ws2 := (wX ad cA ro lo co ks nb sl si we ki ap tg nu bn us nh ct mk ex ob oc lc fb fs)) rfl rfl rfl rfl ?_
  refine z_iload_n F dX4_unit_16 rfl ?_
  refine z_iconst (v := 0) F dX4_unit_17 (by decide) ?_
  refine z_bipush (v := 7) F dX4_unit_18 (by decide) ?_
  refine z_callSv (w1 := []) (w3 := (wX ad cA ro lo co ks nb sl si we ki ap tg nu bn us nh ct mk ex ob oc lc fb fs)) F (c_X_range v3 0 7 h3) (zcwS F.2.2.2.2.1 kcX4_needRange kmX4_37 ktX4_needRange knX4 hdX4_needRange rfl rfl ⟨(Nat.le_of_ble_eq_true rfl), (Nat.le_of_ble_eq_true rfl)⟩) dX4_unit_20 rfl rfl rfl (Nat.le_of_ble_eq_true rfl) ⟨(Nat.le_of_ble_eq_true rfl), (Nat.le_of_ble_eq_true rfl)⟩ ?_
  rintro w2 rfl
  refine z_eq (ws2 := (wX ad cA ro lo co ks nb sl si we ki ap tg nu bn us nh ct mk ex ob oc lc fb fs)) rfl rfl rfl rfl ?_
  refine z_aload_n F dX4_unit_23 rfl ?_
  refine z_get (ci := 4) (C := RX4) (T := TX4) (N := 4) F 0 1 dX4_unit_24 inX4 kfX4_19 rfl rfl rfl (by decide) rfl ?_
  refine z_callVi (w1 := ((ad 0, .inr (4, [.ref (ad 1), .ref (ad 6), .ref (ad 12), .ref (ad 15)])) :: wC (ad 1) (ad 2) (ad 3) (ad 4) (ad 5) cA ro lo co ks nb sl)) (w3 := (wH (ad 12) (ad 13) (ad 14) cA bn us nh ct mk ex ++ wE (ad 15) (ad 16) (ad 17) (ad 18) (ad 19) (ad 20) cA ob oc lc fb fs)) F (c_U_isFull hn) 0 rfl rfl (zcwV F.2.2.2.2.1 kcX3_isFull kmX4_56 kiX3_isFull ksX3_isFull knX3 hdX3_isFull rfl rfl ⟨(Nat.le_of_ble_eq_true rfl), (Nat.le_of_ble_eq_true rfl)⟩) dX4_unit_27 rfl rfl rfl (Nat.le_of_ble_eq_true rfl) ⟨(Nat.le_of_ble_eq_true rfl), (Nat.le_of_ble_eq_true rfl)⟩ ?_
  rintro r w2 ⟨rfl, rfl⟩
  refine z_eq (ws2 := (wX ad cA ro lo co ks nb sl si we ki ap tg nu bn us nh ct mk ex ob oc lc fb fs)) rfl rfl rfl rfl ?_
  refine z_if_eq (tgt := 43) F dX4_unit_30 (by decide) (fun c30 => ?_) (fun c30 => ?_)
  · exact absurd (zB_0.mp c30) (by rw [decide_eq_true hf]; decide)
  · exact zx_throwi F hl (cls := "java/lang/UnsupportedOperationException") (text := "there is no room for another unit") (names := ["java/lang/RuntimeException", "java/lang/Exception"]) (ik := 45) (is := 57) (ic := 49) (by decide) (by decide) (F.2.2.2.2.1 _ klX4_45) (F.2.2.2.2.1 _ knJ_UnsupportedOperationException) (F.2.2.2.2.2.2.2.1.2.2.2.1 (57, "there is no room for another unit") (List.mem_of_getElem? (i := 2) rfl)) (xat_UnsupportedOperationException F.2.2.2.2.1 F.2.2.2.2.2.2.2.1) xgd_UnsupportedOperationException_45 F.2.2.2.2.2.2.2.1.2.2.2.2.1 F.2.2.2.2.2.2.2.1.2.2.2.2.2 hex dX4_unit_33 dX4_unit_36 dX4_unit_37 dX4_unit_39 dX4_unit_42 (Nat.le_of_ble_eq_true rfl) (Nat.le_of_ble_eq_true rfl) (Nat.le_of_ble_eq_true rfl) (Nat.le_of_ble_eq_true rfl) hlk ⟨rfl, rfl⟩ (Nat.le_of_ble_eq_true rfl) (Nat.le_of_ble_eq_true rfl)

set_option maxHeartbeats 4000000 in
set_option maxRecDepth 100000 in
/-- unit -/
theorem c_unit {l : Launch} {D : va_G} {tys : List (ClassId × FieldType)} {ad : Nat → Nat} {cA : ClassId} {ro lo co ks : Nat → Nat} {nb sl : Nat} {si we ki ap tg : Nat → Nat} {nu : Nat} {bn us : Nat → Nat} {nh ct : Nat} {mk ex : Bool} {ob : Nat → Option Nat} {oc : Nat → Nat} {lc : Nat → Option Nat} {fb fs : Nat → Nat} (hn : nu < 8) (a1 a2 a3 : Nat) (h1 : 1 ≤ a1 ∧ a1 ≤ 1000) (h2 : 0 ≤ a2 ∧ a2 ≤ 1000) (h3 : 0 ≤ a3 ∧ a3 ≤ 7) : zMi l yX4_unit (zws yX4_unit cX4_unit 4 (some .int)) { frames := 7, cells := 0, slots := 0, locals := 106 } D zcl ((cA, .int) :: tys) zG [.ref (ad 0), .int (nI a1), .int (nI a2), .int (nI a3)] (wX ad cA ro lo co ks nb sl si we ki ap tg nu bn us nh ct mk ex ob oc lc fb fs) (fun r1 w2 => r1 = nI nu ∧ w2 = (wX ad cA ro lo co ks nb sl (zu si nu a1) (zu we nu a2) (zu ki nu a3) ap tg (nu + 1) bn us nh ct mk ex ob oc lc fb fs)) 0 0 := by
  refine z_ofi (cc := cX4_unit) (maxL := 4) (ret := (some .int)) (by decide) rfl (Nat.le_of_ble_eq_true rfl) ?_
  intro p e s m below meth c A F hr hlk hnm
  refine z_iload_n F dX4_unit_0 rfl ?_
  refine z_iconst (v := 1) F dX4_unit_1 (by decide) ?_
  refine z_sipush (v := 1000) F dX4_unit_2 (by decide) ?_
  refine z_callSv (w1 := []) (w3 := (wX ad cA ro lo co ks nb sl si we ki ap tg nu bn us nh ct mk ex ob oc lc fb fs)) F (c_X_range (nI a1) 1 1000 (zin h1.1 h1.2 (by decide))) (zcwS F.2.2.2.2.1 kcX4_needRange kmX4_37 ktX4_needRange knX4 hdX4_needRange rfl rfl ⟨(Nat.le_of_ble_eq_true rfl), (Nat.le_of_ble_eq_true rfl)⟩) dX4_unit_5 rfl rfl rfl (Nat.le_of_ble_eq_true rfl) ⟨(Nat.le_of_ble_eq_true rfl), (Nat.le_of_ble_eq_true rfl)⟩ ?_
  rintro w2 rfl
  refine z_eq (ws2 := (wX ad cA ro lo co ks nb sl si we ki ap tg nu bn us nh ct mk ex ob oc lc fb fs)) rfl rfl rfl rfl ?_
  refine z_iload_n F dX4_unit_8 rfl ?_
  refine z_iconst (v := 0) F dX4_unit_9 (by decide) ?_
  refine z_sipush (v := 1000) F dX4_unit_10 (by decide) ?_
  refine z_callSv (w1 := []) (w3 := (wX ad cA ro lo co ks nb sl si we ki ap tg nu bn us nh ct mk ex ob oc lc fb fs)) F (c_X_range (nI a2) 0 1000 (zin h2.1 h2.2 (by decide))) (zcwS F.2.2.2.2.1 kcX4_needRange kmX4_37 ktX4_needRange knX4 hdX4_needRange rfl rfl ⟨(Nat.le_of_ble_eq_true rfl), (Nat.le_of_ble_eq_true rfl)⟩) dX4_unit_13 rfl rfl rfl (Nat.le_of_ble_eq_true rfl) ⟨(Nat.le_of_ble_eq_true rfl), (Nat.le_of_ble_eq_true rfl)⟩ ?_
  rintro w2 rfl
  refine z_eq (ws2 := (wX ad cA ro lo co ks nb sl si we ki ap tg nu bn us nh ct mk ex ob oc lc fb fs)) rfl rfl rfl rfl ?_
  refine z_iload_n F dX4_unit_16 rfl ?_
  refine z_iconst (v := 0) F dX4_unit_17 (by decide) ?_
  refine z_bipush (v := 7) F dX4_unit_18 (by decide) ?_
  refine z_callSv (w1 := []) (w3 := (wX ad cA ro lo co ks nb sl si we ki ap tg nu bn us nh ct mk ex ob oc lc fb fs)) F (c_X_range (nI a3) 0 7 (zin h3.1 h3.2 (by decide))) (zcwS F.2.2.2.2.1 kcX4_needRange kmX4_37 ktX4_needRange knX4 hdX4_needRange rfl rfl ⟨(Nat.le_of_ble_eq_true rfl), (Nat.le_of_ble_eq_true rfl)⟩) dX4_unit_20 rfl rfl rfl (Nat.le_of_ble_eq_true rfl) ⟨(Nat.le_of_ble_eq_true rfl), (Nat.le_of_ble_eq_true rfl)⟩ ?_
  rintro w2 rfl
  refine z_eq (ws2 := (wX ad cA ro lo co ks nb sl si we ki ap tg nu bn us nh ct mk ex ob oc lc fb fs)) rfl rfl rfl rfl ?_
  refine z_aload_n F dX4_unit_23 rfl ?_
  refine z_get (ci := 4) (C := RX4) (T := TX4) (N := 4) F 0 1 dX4_unit_24 inX4 kfX4_19 rfl rfl rfl (by decide) rfl ?_
  refine z_callVi (w1 := ((ad 0, .inr (4, [.ref (ad 1), .ref (ad 6), .ref (ad 12), .ref (ad 15)])) :: wC (ad 1) (ad 2) (ad 3) (ad 4) (ad 5) cA ro lo co ks nb sl)) (w3 := (wH (ad 12) (ad 13) (ad 14) cA bn us nh ct mk ex ++ wE (ad 15) (ad 16) (ad 17) (ad 18) (ad 19) (ad 20) cA ob oc lc fb fs)) F (c_U_isFull (Nat.le_of_lt hn)) 0 rfl rfl (zcwV F.2.2.2.2.1 kcX3_isFull kmX4_56 kiX3_isFull ksX3_isFull knX3 hdX3_isFull rfl rfl ⟨(Nat.le_of_ble_eq_true rfl), (Nat.le_of_ble_eq_true rfl)⟩) dX4_unit_27 rfl rfl rfl (Nat.le_of_ble_eq_true rfl) ⟨(Nat.le_of_ble_eq_true rfl), (Nat.le_of_ble_eq_true rfl)⟩ ?_
  rintro r w2 ⟨rfl, rfl⟩
  refine z_eq (ws2 := (wX ad cA ro lo co ks nb sl si we ki ap tg nu bn us nh ct mk ex ob oc lc fb fs)) rfl rfl rfl rfl ?_
  refine z_if_eq (tgt := 43) F dX4_unit_30 (by decide) (fun c30 => ?_) (fun c30 => ?_)
  · refine z_aload_n F dX4_unit_43 rfl ?_
    refine z_get (ci := 4) (C := RX4) (T := TX4) (N := 4) F 0 1 dX4_unit_44 inX4 kfX4_19 rfl rfl rfl (by decide) rfl ?_
    refine z_iload_n F dX4_unit_47 rfl ?_
    refine z_iload_n F dX4_unit_48 rfl ?_
    refine z_iload_n F dX4_unit_49 rfl ?_
    refine z_callVi (w1 := ((ad 0, .inr (4, [.ref (ad 1), .ref (ad 6), .ref (ad 12), .ref (ad 15)])) :: wC (ad 1) (ad 2) (ad 3) (ad 4) (ad 5) cA ro lo co ks nb sl)) (w3 := (wH (ad 12) (ad 13) (ad 14) cA bn us nh ct mk ex ++ wE (ad 15) (ad 16) (ad 17) (ad 18) (ad 19) (ad 20) cA ob oc lc fb fs)) F (c_U_add hn a1 a2 a3) 0 rfl rfl (zcwV F.2.2.2.2.1 kcX3_add kmX4_59 kiX3_add ksX3_add knX3 hdX3_add rfl rfl ⟨(Nat.le_of_ble_eq_true rfl), (Nat.le_of_ble_eq_true rfl)⟩) dX4_unit_50 rfl rfl rfl (Nat.le_of_ble_eq_true rfl) ⟨(Nat.le_of_ble_eq_true rfl), (Nat.le_of_ble_eq_true rfl)⟩ ?_
    rintro r1 w2 ⟨rfl, rfl⟩
    exact z_iret F hr rfl hlk dX4_unit_53 ⟨rfl, rfl⟩ (Nat.le_of_ble_eq_true rfl) (Nat.le_of_ble_eq_true rfl)
  · exact absurd (zB_1.mp c30) (by rw [decide_eq_false (by omega)]; decide)

set_option maxHeartbeats 4000000 in
set_option maxRecDepth 100000 in
theorem c_group_x1 {l : Launch} {D : va_G} {tys : List (ClassId × FieldType)} {ad : Nat → Nat} {cA : ClassId} {ro lo co ks : Nat → Nat} {nb sl : Nat} {si we ki ap tg : Nat → Nat} {nu : Nat} {bn us : Nat → Nat} {nh ct : Nat} {mk ex : Bool} {ob : Nat → Option Nat} {oc : Nat → Nat} {lc : Nat → Option Nat} {fb fs : Nat → Nat} (hl : l.stackTraces = false) (v1 v2 v3 : Int32) (h1 : ¬ (0 ≤ v1 ∧ v1 < nI nu)) : zXi l yX4_group (zws yX4_group cX4_group 5 (some .int)) { frames := 7, cells := 1, slots := 6, locals := 106 } D zcl ((cA, .int) :: tys) zG [.ref (ad 0), .int v1, .int v2, .int v3] (wX ad cA ro lo co ks nb sl si we ki ap tg nu bn us nh ct mk ex ob oc lc fb fs) (fun _ _ => False) (fun E w2 => E = "java/util/NoSuchElementException" ∧ w2 = (wX ad cA ro lo co ks nb sl si we ki ap tg nu bn us nh ct mk ex ob oc lc fb fs)) 1 6 := by
  refine zx_ofi (cc := cX4_group) (maxL := 5) (ret := (some .int)) (by decide) rfl (Nat.le_of_ble_eq_true rfl) ?_
  intro p e s m below meth c A F hr hlk hnm hex
  refine z_aload_n F dX4_group_0 rfl ?_
  refine z_iload_n F dX4_group_1 rfl ?_
  refine zx_callVv (w1 := []) (w3 := []) F (c_X_unit_x hl v1 h1) 0 rfl rfl (zcwV F.2.2.2.2.1 kcX4_needUnit kmX4_62 kiX4_needUnit ksX4_needUnit knX4 hdX4_needUnit rfl rfl ⟨(Nat.le_of_ble_eq_true rfl), (Nat.le_of_ble_eq_true rfl)⟩) dX4_group_2 rfl rfl rfl (Nat.le_of_ble_eq_true rfl) ⟨(Nat.le_of_ble_eq_true rfl), (Nat.le_of_ble_eq_true rfl)⟩ ?_ ?_
  · rintro E w2 ⟨rfl, rfl⟩
    exact zx_outi hex hlk ⟨rfl, rfl⟩ (Nat.le_of_ble_eq_true rfl) (Nat.le_of_ble_eq_true rfl)
  intro w2 h9
  exact h9.elim

set_option maxHeartbeats 4000000 in
set_option maxRecDepth 100000 in
theorem c_group_x2 {l : Launch} {D : va_G} {tys : List (ClassId × FieldType)} {ad : Nat → Nat} {cA : ClassId} {ro lo co ks : Nat → Nat} {nb sl : Nat} {si we ki ap tg : Nat → Nat} {nu : Nat} {bn us : Nat → Nat} {nh ct : Nat} {mk ex : Bool} {ob : Nat → Option Nat} {oc : Nat → Nat} {lc : Nat → Option Nat} {fb fs : Nat → Nat} (hl : l.stackTraces = false) (v1 v2 v3 : Int32) (h1 : (0 ≤ v1 ∧ v1 < nI nu)) (h2 : ¬ (0 ≤ v2 ∧ v2 < nI nu)) : zXi l yX4_group (zws yX4_group cX4_group 5 (some .int)) { frames := 7, cells := 1, slots := 6, locals := 106 } D zcl ((cA, .int) :: tys) zG [.ref (ad 0), .int v1, .int v2, .int v3] (wX ad cA ro lo co ks nb sl si we ki ap tg nu bn us nh ct mk ex ob oc lc fb fs) (fun _ _ => False) (fun E w2 => E = "java/util/NoSuchElementException" ∧ w2 = (wX ad cA ro lo co ks nb sl si we ki ap tg nu bn us nh ct mk ex ob oc lc fb fs)) 1 6 := by
  refine zx_ofi (cc := cX4_group) (maxL := 5) (ret := (some .int)) (by decide) rfl (Nat.le_of_ble_eq_true rfl) ?_
  intro p e s m below meth c A F hr hlk hnm hex
  refine z_aload_n F dX4_group_0 rfl ?_
  refine z_iload_n F dX4_group_1 rfl ?_
  refine z_callVv0 F (c_X_unit v1 h1) 0 rfl rfl (zcwV F.2.2.2.2.1 kcX4_needUnit kmX4_62 kiX4_needUnit ksX4_needUnit knX4 hdX4_needUnit rfl rfl ⟨(Nat.le_of_ble_eq_true rfl), (Nat.le_of_ble_eq_true rfl)⟩) dX4_group_2 rfl rfl (Nat.le_of_ble_eq_true rfl) ⟨(Nat.le_of_ble_eq_true rfl), (Nat.le_of_ble_eq_true rfl)⟩ ?_
  rintro w2 rfl
  refine z_aload_n F dX4_group_5 rfl ?_
  refine z_iload_n F dX4_group_6 rfl ?_
  refine zx_callVv (w1 := []) (w3 := []) F (c_X_unit_x hl v2 h2) 0 rfl rfl (zcwV F.2.2.2.2.1 kcX4_needUnit kmX4_62 kiX4_needUnit ksX4_needUnit knX4 hdX4_needUnit rfl rfl ⟨(Nat.le_of_ble_eq_true rfl), (Nat.le_of_ble_eq_true rfl)⟩) dX4_group_7 rfl rfl rfl (Nat.le_of_ble_eq_true rfl) ⟨(Nat.le_of_ble_eq_true rfl), (Nat.le_of_ble_eq_true rfl)⟩ ?_ ?_
  · rintro E w2 ⟨rfl, rfl⟩
    exact zx_outi hex hlk ⟨rfl, rfl⟩ (Nat.le_of_ble_eq_true rfl) (Nat.le_of_ble_eq_true rfl)
  intro w2 h9
  exact h9.elim

set_option maxHeartbeats 4000000 in
set_option maxRecDepth 100000 in
theorem c_group_x3 {l : Launch} {D : va_G} {tys : List (ClassId × FieldType)} {ad : Nat → Nat} {cA : ClassId} {ro lo co ks : Nat → Nat} {nb sl : Nat} {si we ki ap tg : Nat → Nat} {nu : Nat} {bn us : Nat → Nat} {nh ct : Nat} {mk ex : Bool} {ob : Nat → Option Nat} {oc : Nat → Nat} {lc : Nat → Option Nat} {fb fs : Nat → Nat} (hl : l.stackTraces = false) (v1 v2 v3 : Int32) (h1 : (0 ≤ v1 ∧ v1 < nI nu)) (h2 : (0 ≤ v2 ∧ v2 < nI nu)) (h3 : ¬ (0 ≤ v3 ∧ v3 ≤ 2)) : zXi l yX4_group (zws yX4_group cX4_group 5 (some .int)) { frames := 7, cells := 1, slots := 6, locals := 106 } D zcl ((cA, .int) :: tys) zG [.ref (ad 0), .int v1, .int v2, .int v3] (wX ad cA ro lo co ks nb sl si we ki ap tg nu bn us nh ct mk ex ob oc lc fb fs) (fun _ _ => False) (fun E w2 => E = "java/lang/IllegalArgumentException" ∧ w2 = (wX ad cA ro lo co ks nb sl si we ki ap tg nu bn us nh ct mk ex ob oc lc fb fs)) 1 6 := by
  refine zx_ofi (cc := cX4_group) (maxL := 5) (ret := (some .int)) (by decide) rfl (Nat.le_of_ble_eq_true rfl) ?_
  intro p e s m below meth c A F hr hlk hnm hex
  refine z_aload_n F dX4_group_0 rfl ?_
  refine z_iload_n F dX4_group_1 rfl ?_
  refine z_callVv0 F (c_X_unit v1 h1) 0 rfl rfl (zcwV F.2.2.2.2.1 kcX4_needUnit kmX4_62 kiX4_needUnit ksX4_needUnit knX4 hdX4_needUnit rfl rfl ⟨(Nat.le_of_ble_eq_true rfl), (Nat.le_of_ble_eq_true rfl)⟩) dX4_group_2 rfl rfl (Nat.le_of_ble_eq_true rfl) ⟨(Nat.le_of_ble_eq_true rfl), (Nat.le_of_ble_eq_true rfl)⟩ ?_
  rintro w2 rfl
  refine z_aload_n F dX4_group_5 rfl ?_
  refine z_iload_n F dX4_group_6 rfl ?_
  refine z_callVv0 F (c_X_unit v2 h2) 0 rfl rfl (zcwV F.2.2.2.2.1 kcX4_needUnit kmX4_62 kiX4_needUnit ksX4_needUnit knX4 hdX4_needUnit rfl rfl ⟨(Nat.le_of_ble_eq_true rfl), (Nat.le_of_ble_eq_true rfl)⟩) dX4_group_7 rfl rfl (Nat.le_of_ble_eq_true rfl) ⟨(Nat.le_of_ble_eq_true rfl), (Nat.le_of_ble_eq_true rfl)⟩ ?_
  rintro w2 rfl
  refine z_iload_n F dX4_group_10 rfl ?_
  refine z_iconst (v := 0) F dX4_group_11 (by decide) ?_
  refine z_iconst (v := 2) F dX4_group_12 (by decide) ?_
  refine zx_callSv (w1 := []) (w3 := (wX ad cA ro lo co ks nb sl si we ki ap tg nu bn us nh ct mk ex ob oc lc fb fs)) F (c_X_range_x hl v3 0 2 h3) (zcwS F.2.2.2.2.1 kcX4_needRange kmX4_37 ktX4_needRange knX4 hdX4_needRange rfl rfl ⟨(Nat.le_of_ble_eq_true rfl), (Nat.le_of_ble_eq_true rfl)⟩) dX4_group_13 rfl rfl rfl (Nat.le_of_ble_eq_true rfl) ⟨(Nat.le_of_ble_eq_true rfl), (Nat.le_of_ble_eq_true rfl)⟩ ?_ ?_
  · rintro E w2 ⟨rfl, rfl⟩
    exact zx_outi hex hlk ⟨rfl, rfl⟩ (Nat.le_of_ble_eq_true rfl) (Nat.le_of_ble_eq_true rfl)
  intro w2 h9
  exact h9.elim

set_option maxHeartbeats 4000000 in
set_option maxRecDepth 100000 in
theorem c_group_x4 {l : Launch} {D : va_G} {tys : List (ClassId × FieldType)} {ad : Nat → Nat} {cA : ClassId} {ro lo co ks : Nat → Nat} {nb sl : Nat} {si we ki ap tg : Nat → Nat} {nu : Nat} {bn us : Nat → Nat} {nh ct : Nat} {mk ex : Bool} {ob : Nat → Option Nat} {oc : Nat → Nat} {lc : Nat → Option Nat} {fb fs : Nat → Nat} (hl : l.stackTraces = false) (v1 v2 v3 : Int32) (h1 : (0 ≤ v1 ∧ v1 < nI nu)) (h2 : (0 ≤ v2 ∧ v2 < nI nu)) (h3 : (0 ≤ v3 ∧ v3 ≤ 2)) (h4 : v1 = v2) : zXi l yX4_group (zws yX4_group cX4_group 5 (some .int)) { frames := 7, cells := 1, slots := 6, locals := 106 } D zcl ((cA, .int) :: tys) zG [.ref (ad 0), .int v1, .int v2, .int v3] (wX ad cA ro lo co ks nb sl si we ki ap tg nu bn us nh ct mk ex ob oc lc fb fs) (fun _ _ => False) (fun E w2 => E = "java/lang/IllegalArgumentException" ∧ w2 = (wX ad cA ro lo co ks nb sl si we ki ap tg nu bn us nh ct mk ex ob oc lc fb fs)) 1 6 := by
  refine zx_ofi (cc := cX4_group) (maxL := 5) (ret := (some .int)) (by decide) rfl (Nat.le_of_ble_eq_true rfl) ?_
  intro p e s m below meth c A F hr hlk hnm hex
  refine z_aload_n F dX4_group_0 rfl ?_
  refine z_iload_n F dX4_group_1 rfl ?_
  refine z_callVv0 F (c_X_unit v1 h1) 0 rfl rfl (zcwV F.2.2.2.2.1 kcX4_needUnit kmX4_62 kiX4_needUnit ksX4_needUnit knX4 hdX4_needUnit rfl rfl ⟨(Nat.le_of_ble_eq_true rfl), (Nat.le_of_ble_eq_true rfl)⟩) dX4_group_2 rfl rfl (Nat.le_of_ble_eq_true rfl) ⟨(Nat.le_of_ble_eq_true rfl), (Nat.le_of_ble_eq_true rfl)⟩ ?_
  rintro w2 rfl
  refine z_aload_n F dX4_group_5 rfl ?_
  refine z_iload_n F dX4_group_6 rfl ?_
  refine z_callVv0 F (c_X_unit v2 h2) 0 rfl rfl (zcwV F.2.2.2.2.1 kcX4_needUnit kmX4_62 kiX4_needUnit ksX4_needUnit knX4 hdX4_needUnit rfl rfl ⟨(Nat.le_of_ble_eq_true rfl), (Nat.le_of_ble_eq_true rfl)⟩) dX4_group_7 rfl rfl (Nat.le_of_ble_eq_true rfl) ⟨(Nat.le_of_ble_eq_true rfl), (Nat.le_of_ble_eq_true rfl)⟩ ?_
  rintro w2 rfl
  refine z_iload_n F dX4_group_10 rfl ?_
  refine z_iconst (v := 0) F dX4_group_11 (by decide) ?_
  refine z_iconst (v := 2) F dX4_group_12 (by decide) ?_
  refine z_callSv (w1 := []) (w3 := (wX ad cA ro lo co ks nb sl si we ki ap tg nu bn us nh ct mk ex ob oc lc fb fs)) F (c_X_range v3 0 2 h3) (zcwS F.2.2.2.2.1 kcX4_needRange kmX4_37 ktX4_needRange knX4 hdX4_needRange rfl rfl ⟨(Nat.le_of_ble_eq_true rfl), (Nat.le_of_ble_eq_true rfl)⟩) dX4_group_13 rfl rfl rfl (Nat.le_of_ble_eq_true rfl) ⟨(Nat.le_of_ble_eq_true rfl), (Nat.le_of_ble_eq_true rfl)⟩ ?_
  rintro w2 rfl
  refine z_eq (ws2 := (wX ad cA ro lo co ks nb sl si we ki ap tg nu bn us nh ct mk ex ob oc lc fb fs)) rfl rfl rfl rfl ?_
  refine z_iload_n F dX4_group_16 rfl ?_
  refine z_iload_n F dX4_group_17 rfl ?_
  refine z_icmp_ne (tgt := 31) F dX4_group_18 (by decide) (fun c18 => ?_) (fun c18 => ?_)
  · exact absurd h4 c18
  · exact zx_throwi F hl (cls := "java/lang/IllegalArgumentException") (text := "a unit is not grouped with itself") (names := ["java/lang/RuntimeException", "java/lang/Exception"]) (ik := 66) (is := 68) (ic := 70) (by decide) (by decide) (F.2.2.2.2.1 _ klX4_66) (F.2.2.2.2.1 _ knJ_IllegalArgumentException) (F.2.2.2.2.2.2.2.1.2.2.2.1 (68, "a unit is not grouped with itself") (List.mem_of_getElem? (i := 4) rfl)) (xat_IllegalArgumentException F.2.2.2.2.1 F.2.2.2.2.2.2.2.1) xgd_IllegalArgumentException_66 F.2.2.2.2.2.2.2.1.2.2.2.2.1 F.2.2.2.2.2.2.2.1.2.2.2.2.2 hex dX4_group_21 dX4_group_24 dX4_group_25 dX4_group_27 dX4_group_30 (Nat.le_of_ble_eq_true rfl) (Nat.le_of_ble_eq_true rfl) (Nat.le_of_ble_eq_true rfl) (Nat.le_of_ble_eq_true rfl) hlk ⟨rfl, rfl⟩ (Nat.le_of_ble_eq_true rfl) (Nat.le_of_ble_eq_true rfl)

set_option maxHeartbeats 4000000 in
set_option maxRecDepth 100000 in
/-- group -/
theorem c_group {l : Launch} {D : va_G} {tys : List (ClassId × FieldType)} {ad : Nat → Nat} {cA : ClassId} {ro lo co ks : Nat → Nat} {nb sl : Nat} {si we ki ap tg : Nat → Nat} {nu : Nat} {bn us : Nat → Nat} {nh ct : Nat} {mk ex : Bool} {ob : Nat → Option Nat} {oc : Nat → Nat} {lc : Nat → Option Nat} {fb fs : Nat → Nat} (ok : zok ro lo co ks nb sl si we ki ap tg nu) (u v h : Nat) (hu : u < nu) (hv : v < nu) (hh : h ≤ 2) (hne : u ≠ v) : zMi l yX4_group (zws yX4_group cX4_group 5 (some .int)) { frames := 7, cells := 0, slots := 0, locals := 106 } D zcl ((cA, .int) :: tys) zG [.ref (ad 0), .int (nI u), .int (nI v), .int (nI h)] (wX ad cA ro lo co ks nb sl si we ki ap tg nu bn us nh ct mk ex ob oc lc fb fs) (fun r w2 => r = nI (zrel ap tg u v) ∧ w2 = (wX ad cA ro lo co ks nb sl si we ki (zrl (zrl ap u v (decide (h = 1))) v u (decide (h = 1))) (zrl (zrl tg u v (decide (h = 2))) v u (decide (h = 2))) nu bn us nh ct mk ex ob oc lc fb fs)) 0 0 := by
  refine z_ofi (cc := cX4_group) (maxL := 5) (ret := (some .int)) (by decide) rfl (Nat.le_of_ble_eq_true rfl) ?_
  intro p e s m below meth c A F hr hlk hnm
  obtain ⟨o1, o2, o3, o4, o5, o6, o7, o8, o9, o10, o11, o12⟩ := id ok
  refine z_aload_n F dX4_group_0 rfl ?_
  refine z_iload_n F dX4_group_1 rfl ?_
  refine z_callVv0 F (c_X_unit (nI u) ((zhas (by omega)).mpr ⟨u, hu, rfl⟩)) 0 rfl rfl (zcwV F.2.2.2.2.1 kcX4_needUnit kmX4_62 kiX4_needUnit ksX4_needUnit knX4 hdX4_needUnit rfl rfl ⟨(Nat.le_of_ble_eq_true rfl), (Nat.le_of_ble_eq_true rfl)⟩) dX4_group_2 rfl rfl (Nat.le_of_ble_eq_true rfl) ⟨(Nat.le_of_ble_eq_true rfl), (Nat.le_of_ble_eq_true rfl)⟩ ?_
  rintro w2 rfl
  refine z_aload_n F dX4_group_5 rfl ?_
  refine z_iload_n F dX4_group_6 rfl ?_
  refine z_callVv0 F (c_X_unit (nI v) ((zhas (by omega)).mpr ⟨v, hv, rfl⟩)) 0 rfl rfl (zcwV F.2.2.2.2.1 kcX4_needUnit kmX4_62 kiX4_needUnit ksX4_needUnit knX4 hdX4_needUnit rfl rfl ⟨(Nat.le_of_ble_eq_true rfl), (Nat.le_of_ble_eq_true rfl)⟩) dX4_group_7 rfl rfl (Nat.le_of_ble_eq_true rfl) ⟨(Nat.le_of_ble_eq_true rfl), (Nat.le_of_ble_eq_true rfl)⟩ ?_
  rintro w2 rfl
  refine z_iload_n F dX4_group_10 rfl ?_
  refine z_iconst (v := 0) F dX4_group_11 (by decide) ?_
  refine z_iconst (v := 2) F dX4_group_12 (by decide) ?_
  refine z_callSv (w1 := []) (w3 := (wX ad cA ro lo co ks nb sl si we ki ap tg nu bn us nh ct mk ex ob oc lc fb fs)) F (c_X_range (nI h) 0 2 (zin (Nat.zero_le _) hh (by decide))) (zcwS F.2.2.2.2.1 kcX4_needRange kmX4_37 ktX4_needRange knX4 hdX4_needRange rfl rfl ⟨(Nat.le_of_ble_eq_true rfl), (Nat.le_of_ble_eq_true rfl)⟩) dX4_group_13 rfl rfl rfl (Nat.le_of_ble_eq_true rfl) ⟨(Nat.le_of_ble_eq_true rfl), (Nat.le_of_ble_eq_true rfl)⟩ ?_
  rintro w2 rfl
  refine z_eq (ws2 := (wX ad cA ro lo co ks nb sl si we ki ap tg nu bn us nh ct mk ex ob oc lc fb fs)) rfl rfl rfl rfl ?_
  refine z_iload_n F dX4_group_16 rfl ?_
  refine z_iload_n F dX4_group_17 rfl ?_
  refine z_icmp_ne (tgt := 31) F dX4_group_18 (by decide) (fun c18 => ?_) (fun c18 => ?_)
  · refine z_aload_n F dX4_group_31 rfl ?_
    refine z_get (ci := 4) (C := RX4) (T := TX4) (N := 4) F 0 1 dX4_group_32 inX4 kfX4_19 rfl rfl rfl (by decide) rfl ?_
    refine z_iload_n F dX4_group_35 rfl ?_
    refine z_iload_n F dX4_group_36 rfl ?_
    refine z_callVi (w1 := ((ad 0, .inr (4, [.ref (ad 1), .ref (ad 6), .ref (ad 12), .ref (ad 15)])) :: wC (ad 1) (ad 2) (ad 3) (ad 4) (ad 5) cA ro lo co ks nb sl)) (w3 := (wH (ad 12) (ad 13) (ad 14) cA bn us nh ct mk ex ++ wE (ad 15) (ad 16) (ad 17) (ad 18) (ad 19) (ad 20) cA ob oc lc fb fs)) F (c_U_relationOf o3 (zk8 o11 (by decide)) (zk8 o12 (by decide)) u v hu hv) 0 rfl rfl (zcwV F.2.2.2.2.1 kcX3_relationOf kmX4_71 kiX3_relationOf ksX3_relationOf knX3 hdX3_relationOf rfl rfl ⟨(Nat.le_of_ble_eq_true rfl), (Nat.le_of_ble_eq_true rfl)⟩) dX4_group_37 rfl rfl rfl (Nat.le_of_ble_eq_true rfl) ⟨(Nat.le_of_ble_eq_true rfl), (Nat.le_of_ble_eq_true rfl)⟩ ?_
    rintro r w2 ⟨rfl, rfl⟩
    refine z_eq (ws2 := (wX ad cA ro lo co ks nb sl si we ki ap tg nu bn us nh ct mk ex ob oc lc fb fs)) rfl rfl rfl rfl ?_
    refine z_istore F dX4_group_40 (by decide) ?_
    refine z_aload_n F dX4_group_42 rfl ?_
    refine z_get (ci := 4) (C := RX4) (T := TX4) (N := 4) F 0 1 dX4_group_43 inX4 kfX4_19 rfl rfl rfl (by decide) rfl ?_
    refine z_iload_n F dX4_group_46 rfl ?_
    refine z_iload_n F dX4_group_47 rfl ?_
    refine z_iload_n F dX4_group_48 rfl ?_
    refine z_callVv (w1 := ((ad 0, .inr (4, [.ref (ad 1), .ref (ad 6), .ref (ad 12), .ref (ad 15)])) :: wC (ad 1) (ad 2) (ad 3) (ad 4) (ad 5) cA ro lo co ks nb sl)) (w3 := (wH (ad 12) (ad 13) (ad 14) cA bn us nh ct mk ex ++ wE (ad 15) (ad 16) (ad 17) (ad 18) (ad 19) (ad 20) cA ob oc lc fb fs)) F (c_U_relate o3 u v h hu hv (by omega)) 0 rfl rfl (zcwV F.2.2.2.2.1 kcX3_relate kmX4_75 kiX3_relate ksX3_relate knX3 hdX3_relate rfl rfl ⟨(Nat.le_of_ble_eq_true rfl), (Nat.le_of_ble_eq_true rfl)⟩) dX4_group_49 rfl rfl rfl (Nat.le_of_ble_eq_true rfl) ⟨(Nat.le_of_ble_eq_true rfl), (Nat.le_of_ble_eq_true rfl)⟩ ?_
    rintro w2 rfl
    refine z_iload F dX4_group_52 rfl ?_
    exact z_iret F hr rfl hlk dX4_group_54 ⟨rfl, rfl⟩ (Nat.le_of_ble_eq_true rfl) (Nat.le_of_ble_eq_true rfl)
  · exact absurd ((nI_eq (by omega) (by omega)).mp c18) hne

set_option maxHeartbeats 4000000 in
set_option maxRecDepth 100000 in
theorem c_change_x1 {l : Launch} {D : va_G} {tys : List (ClassId × FieldType)} {ad : Nat → Nat} {cA : ClassId} {ro lo co ks : Nat → Nat} {nb sl : Nat} {si we ki ap tg : Nat → Nat} {nu : Nat} {bn us : Nat → Nat} {nh ct : Nat} {mk ex : Bool} {ob : Nat → Option Nat} {oc : Nat → Nat} {lc : Nat → Option Nat} {fb fs : Nat → Nat} (hl : l.stackTraces = false) (v1 v2 : Int32) (h1 : ¬ (0 ≤ v1 ∧ v1 < nI nu)) : zXi l yX4_change (zws yX4_change cX4_change 3 (some .int)) { frames := 7, cells := 1, slots := 6, locals := 106 } D zcl ((cA, .int) :: tys) zG [.ref (ad 0), .int v1, .int v2] (wX ad cA ro lo co ks nb sl si we ki ap tg nu bn us nh ct mk ex ob oc lc fb fs) (fun _ _ => False) (fun E w2 => E = "java/util/NoSuchElementException" ∧ w2 = (wX ad cA ro lo co ks nb sl si we ki ap tg nu bn us nh ct mk ex ob oc lc fb fs)) 1 6 := by
  refine zx_ofi (cc := cX4_change) (maxL := 3) (ret := (some .int)) (by decide) rfl (Nat.le_of_ble_eq_true rfl) ?_
  intro p e s m below meth c A F hr hlk hnm hex
  refine z_aload_n F dX4_change_0 rfl ?_
  refine z_iload_n F dX4_change_1 rfl ?_
  refine zx_callVv (w1 := []) (w3 := []) F (c_X_unit_x hl v1 h1) 0 rfl rfl (zcwV F.2.2.2.2.1 kcX4_needUnit kmX4_62 kiX4_needUnit ksX4_needUnit knX4 hdX4_needUnit rfl rfl ⟨(Nat.le_of_ble_eq_true rfl), (Nat.le_of_ble_eq_true rfl)⟩) dX4_change_2 rfl rfl rfl (Nat.le_of_ble_eq_true rfl) ⟨(Nat.le_of_ble_eq_true rfl), (Nat.le_of_ble_eq_true rfl)⟩ ?_ ?_
  · rintro E w2 ⟨rfl, rfl⟩
    exact zx_outi hex hlk ⟨rfl, rfl⟩ (Nat.le_of_ble_eq_true rfl) (Nat.le_of_ble_eq_true rfl)
  intro w2 h9
  exact h9.elim

set_option maxHeartbeats 4000000 in
set_option maxRecDepth 100000 in
theorem c_change_x2 {l : Launch} {D : va_G} {tys : List (ClassId × FieldType)} {ad : Nat → Nat} {cA : ClassId} {ro lo co ks : Nat → Nat} {nb sl : Nat} {si we ki ap tg : Nat → Nat} {nu : Nat} {bn us : Nat → Nat} {nh ct : Nat} {mk ex : Bool} {ob : Nat → Option Nat} {oc : Nat → Nat} {lc : Nat → Option Nat} {fb fs : Nat → Nat} (hl : l.stackTraces = false) (v1 v2 : Int32) (h1 : (0 ≤ v1 ∧ v1 < nI nu)) (h2 : ¬ (0 ≤ v2 ∧ v2 ≤ 1000)) : zXi l yX4_change (zws yX4_change cX4_change 3 (some .int)) { frames := 7, cells := 1, slots := 6, locals := 106 } D zcl ((cA, .int) :: tys) zG [.ref (ad 0), .int v1, .int v2] (wX ad cA ro lo co ks nb sl si we ki ap tg nu bn us nh ct mk ex ob oc lc fb fs) (fun _ _ => False) (fun E w2 => E = "java/lang/IllegalArgumentException" ∧ w2 = (wX ad cA ro lo co ks nb sl si we ki ap tg nu bn us nh ct mk ex ob oc lc fb fs)) 1 6 := by
  refine zx_ofi (cc := cX4_change) (maxL := 3) (ret := (some .int)) (by decide) rfl (Nat.le_of_ble_eq_true rfl) ?_
  intro p e s m below meth c A F hr hlk hnm hex
  refine z_aload_n F dX4_change_0 rfl ?_
  refine z_iload_n F dX4_change_1 rfl ?_
  refine z_callVv0 F (c_X_unit v1 h1) 0 rfl rfl (zcwV F.2.2.2.2.1 kcX4_needUnit kmX4_62 kiX4_needUnit ksX4_needUnit knX4 hdX4_needUnit rfl rfl ⟨(Nat.le_of_ble_eq_true rfl), (Nat.le_of_ble_eq_true rfl)⟩) dX4_change_2 rfl rfl (Nat.le_of_ble_eq_true rfl) ⟨(Nat.le_of_ble_eq_true rfl), (Nat.le_of_ble_eq_true rfl)⟩ ?_
  rintro w2 rfl
  refine z_iload_n F dX4_change_5 rfl ?_
  refine z_iconst (v := 0) F dX4_change_6 (by decide) ?_
  refine z_sipush (v := 1000) F dX4_change_7 (by decide) ?_
  refine zx_callSv (w1 := []) (w3 := (wX ad cA ro lo co ks nb sl si we ki ap tg nu bn us nh ct mk ex ob oc lc fb fs)) F (c_X_range_x hl v2 0 1000 h2) (zcwS F.2.2.2.2.1 kcX4_needRange kmX4_37 ktX4_needRange knX4 hdX4_needRange rfl rfl ⟨(Nat.le_of_ble_eq_true rfl), (Nat.le_of_ble_eq_true rfl)⟩) dX4_change_10 rfl rfl rfl (Nat.le_of_ble_eq_true rfl) ⟨(Nat.le_of_ble_eq_true rfl), (Nat.le_of_ble_eq_true rfl)⟩ ?_ ?_
  · rintro E w2 ⟨rfl, rfl⟩
    exact zx_outi hex hlk ⟨rfl, rfl⟩ (Nat.le_of_ble_eq_true rfl) (Nat.le_of_ble_eq_true rfl)
  intro w2 h9
  exact h9.elim

set_option maxHeartbeats 4000000 in
set_option maxRecDepth 100000 in
/-- change -/
theorem c_change {l : Launch} {D : va_G} {tys : List (ClassId × FieldType)} {ad : Nat → Nat} {cA : ClassId} {ro lo co ks : Nat → Nat} {nb sl : Nat} {si we ki ap tg : Nat → Nat} {nu : Nat} {bn us : Nat → Nat} {nh ct : Nat} {mk ex : Bool} {ob : Nat → Option Nat} {oc : Nat → Nat} {lc : Nat → Option Nat} {fb fs : Nat → Nat} (hn : nu ≤ 8) (u v : Nat) (hu : u < nu) (hv : v ≤ 1000) : zMi l yX4_change (zws yX4_change cX4_change 3 (some .int)) { frames := 7, cells := 0, slots := 0, locals := 106 } D zcl ((cA, .int) :: tys) zG [.ref (ad 0), .int (nI u), .int (nI v)] (wX ad cA ro lo co ks nb sl si we ki ap tg nu bn us nh ct mk ex ob oc lc fb fs) (fun r w2 => r = nI (we u) ∧ w2 = (wX ad cA ro lo co ks nb sl si (zu we u v) ki ap tg nu bn us nh ct mk ex ob oc lc fb fs)) 0 0 := by
  refine z_ofi (cc := cX4_change) (maxL := 3) (ret := (some .int)) (by decide) rfl (Nat.le_of_ble_eq_true rfl) ?_
  intro p e s m below meth c A F hr hlk hnm
  refine z_aload_n F dX4_change_0 rfl ?_
  refine z_iload_n F dX4_change_1 rfl ?_
  refine z_callVv0 F (c_X_unit (nI u) ((zhas (by omega)).mpr ⟨u, hu, rfl⟩)) 0 rfl rfl (zcwV F.2.2.2.2.1 kcX4_needUnit kmX4_62 kiX4_needUnit ksX4_needUnit knX4 hdX4_needUnit rfl rfl ⟨(Nat.le_of_ble_eq_true rfl), (Nat.le_of_ble_eq_true rfl)⟩) dX4_change_2 rfl rfl (Nat.le_of_ble_eq_true rfl) ⟨(Nat.le_of_ble_eq_true rfl), (Nat.le_of_ble_eq_true rfl)⟩ ?_
  rintro w2 rfl
  refine z_iload_n F dX4_change_5 rfl ?_
  refine z_iconst (v := 0) F dX4_change_6 (by decide) ?_
  refine z_sipush (v := 1000) F dX4_change_7 (by decide) ?_
  refine z_callSv (w1 := []) (w3 := (wX ad cA ro lo co ks nb sl si we ki ap tg nu bn us nh ct mk ex ob oc lc fb fs)) F (c_X_range (nI v) 0 1000 (zin (Nat.zero_le _) hv (by decide))) (zcwS F.2.2.2.2.1 kcX4_needRange kmX4_37 ktX4_needRange knX4 hdX4_needRange rfl rfl ⟨(Nat.le_of_ble_eq_true rfl), (Nat.le_of_ble_eq_true rfl)⟩) dX4_change_10 rfl rfl rfl (Nat.le_of_ble_eq_true rfl) ⟨(Nat.le_of_ble_eq_true rfl), (Nat.le_of_ble_eq_true rfl)⟩ ?_
  rintro w2 rfl
  refine z_eq (ws2 := (wX ad cA ro lo co ks nb sl si we ki ap tg nu bn us nh ct mk ex ob oc lc fb fs)) rfl rfl rfl rfl ?_
  refine z_aload_n F dX4_change_13 rfl ?_
  refine z_get (ci := 4) (C := RX4) (T := TX4) (N := 4) F 0 1 dX4_change_14 inX4 kfX4_19 rfl rfl rfl (by decide) rfl ?_
  refine z_iload_n F dX4_change_17 rfl ?_
  refine z_iload_n F dX4_change_18 rfl ?_
  refine z_callVi (w1 := ((ad 0, .inr (4, [.ref (ad 1), .ref (ad 6), .ref (ad 12), .ref (ad 15)])) :: wC (ad 1) (ad 2) (ad 3) (ad 4) (ad 5) cA ro lo co ks nb sl)) (w3 := (wH (ad 12) (ad 13) (ad 14) cA bn us nh ct mk ex ++ wE (ad 15) (ad 16) (ad 17) (ad 18) (ad 19) (ad 20) cA ob oc lc fb fs)) F (c_U_reweigh hn u v hu) 0 rfl rfl (zcwV F.2.2.2.2.1 kcX3_reweigh kmX4_78 kiX3_reweigh ksX3_reweigh knX3 hdX3_reweigh rfl rfl ⟨(Nat.le_of_ble_eq_true rfl), (Nat.le_of_ble_eq_true rfl)⟩) dX4_change_19 rfl rfl rfl (Nat.le_of_ble_eq_true rfl) ⟨(Nat.le_of_ble_eq_true rfl), (Nat.le_of_ble_eq_true rfl)⟩ ?_
  rintro r w2 ⟨rfl, rfl⟩
  exact z_iret F hr rfl hlk dX4_change_22 ⟨rfl, rfl⟩ (Nat.le_of_ble_eq_true rfl) (Nat.le_of_ble_eq_true rfl)

set_option maxHeartbeats 4000000 in
set_option maxRecDepth 100000 in
theorem c_slack_x1 {l : Launch} {D : va_G} {tys : List (ClassId × FieldType)} {ad : Nat → Nat} {cA : ClassId} {ro lo co ks : Nat → Nat} {nb sl : Nat} {si we ki ap tg : Nat → Nat} {nu : Nat} {bn us : Nat → Nat} {nh ct : Nat} {mk ex : Bool} {ob : Nat → Option Nat} {oc : Nat → Nat} {lc : Nat → Option Nat} {fb fs : Nat → Nat} (hl : l.stackTraces = false) (v1 : Int32) (h1 : ¬ (0 ≤ v1 ∧ v1 ≤ 1000)) : zXv l yX4_slack (zws yX4_slack cX4_slack 2 none) { frames := 7, cells := 1, slots := 6, locals := 106 } D zcl ((cA, .int) :: tys) zG [.ref (ad 0), .int v1] (wX ad cA ro lo co ks nb sl si we ki ap tg nu bn us nh ct mk ex ob oc lc fb fs) (fun _ => False) (fun E w2 => E = "java/lang/IllegalArgumentException" ∧ w2 = (wX ad cA ro lo co ks nb sl si we ki ap tg nu bn us nh ct mk ex ob oc lc fb fs)) 1 6 := by
  refine zx_ofv (cc := cX4_slack) (maxL := 2) (ret := none) (by decide) rfl (Nat.le_of_ble_eq_true rfl) ?_
  intro p e s m below meth c A F hr hlk hnm hex
  refine z_iload_n F dX4_slack_0 rfl ?_
  refine z_iconst (v := 0) F dX4_slack_1 (by decide) ?_
  refine z_sipush (v := 1000) F dX4_slack_2 (by decide) ?_
  refine zx_callSv (w1 := []) (w3 := (wX ad cA ro lo co ks nb sl si we ki ap tg nu bn us nh ct mk ex ob oc lc fb fs)) F (c_X_range_x hl v1 0 1000 h1) (zcwS F.2.2.2.2.1 kcX4_needRange kmX4_37 ktX4_needRange knX4 hdX4_needRange rfl rfl ⟨(Nat.le_of_ble_eq_true rfl), (Nat.le_of_ble_eq_true rfl)⟩) dX4_slack_5 rfl rfl rfl (Nat.le_of_ble_eq_true rfl) ⟨(Nat.le_of_ble_eq_true rfl), (Nat.le_of_ble_eq_true rfl)⟩ ?_ ?_
  · rintro E w2 ⟨rfl, rfl⟩
    exact zx_outv hex hlk ⟨rfl, rfl⟩ (Nat.le_of_ble_eq_true rfl) (Nat.le_of_ble_eq_true rfl)
  intro w2 h9
  exact h9.elim

set_option maxHeartbeats 4000000 in
set_option maxRecDepth 100000 in
/-- slack -/
theorem c_slack {l : Launch} {D : va_G} {tys : List (ClassId × FieldType)} {ad : Nat → Nat} {cA : ClassId} {ro lo co ks : Nat → Nat} {nb sl : Nat} {si we ki ap tg : Nat → Nat} {nu : Nat} {bn us : Nat → Nat} {nh ct : Nat} {mk ex : Bool} {ob : Nat → Option Nat} {oc : Nat → Nat} {lc : Nat → Option Nat} {fb fs : Nat → Nat} (v : Nat) (hv : v ≤ 1000) : zMv l yX4_slack (zws yX4_slack cX4_slack 2 none) { frames := 7, cells := 0, slots := 0, locals := 106 } D zcl ((cA, .int) :: tys) zG [.ref (ad 0), .int (nI v)] (wX ad cA ro lo co ks nb sl si we ki ap tg nu bn us nh ct mk ex ob oc lc fb fs) (fun w2 => w2 = (wX ad cA ro lo co ks nb v si we ki ap tg nu bn us nh ct mk ex ob oc lc fb fs)) 0 0 := by
  refine z_ofv (cc := cX4_slack) (maxL := 2) (ret := none) (by decide) rfl (Nat.le_of_ble_eq_true rfl) ?_
  intro p e s m below meth c A F hr hlk hnm
  refine z_iload_n F dX4_slack_0 rfl ?_
  refine z_iconst (v := 0) F dX4_slack_1 (by decide) ?_
  refine z_sipush (v := 1000) F dX4_slack_2 (by decide) ?_
  refine z_callSv (w1 := []) (w3 := (wX ad cA ro lo co ks nb sl si we ki ap tg nu bn us nh ct mk ex ob oc lc fb fs)) F (c_X_range (nI v) 0 1000 (zin (Nat.zero_le _) hv (by decide))) (zcwS F.2.2.2.2.1 kcX4_needRange kmX4_37 ktX4_needRange knX4 hdX4_needRange rfl rfl ⟨(Nat.le_of_ble_eq_true rfl), (Nat.le_of_ble_eq_true rfl)⟩) dX4_slack_5 rfl rfl rfl (Nat.le_of_ble_eq_true rfl) ⟨(Nat.le_of_ble_eq_true rfl), (Nat.le_of_ble_eq_true rfl)⟩ ?_
  rintro w2 rfl
  refine z_eq (ws2 := (wX ad cA ro lo co ks nb sl si we ki ap tg nu bn us nh ct mk ex ob oc lc fb fs)) rfl rfl rfl rfl ?_
  refine z_aload_n F dX4_slack_8 rfl ?_
  refine z_get (ci := 4) (C := RX4) (T := TX4) (N := 4) F 0 0 dX4_slack_9 inX4 kfX4_12 rfl rfl rfl (by decide) rfl ?_
  refine z_iload_n F dX4_slack_12 rfl ?_
  refine z_callVv (w1 := [(ad 0, .inr (4, [.ref (ad 1), .ref (ad 6), .ref (ad 12), .ref (ad 15)]))]) (w3 := (wU (ad 6) (ad 7) (ad 8) (ad 9) (ad 10) (ad 11) cA si we ki ap tg nu ++ (wH (ad 12) (ad 13) (ad 14) cA bn us nh ct mk ex ++ wE (ad 15) (ad 16) (ad 17) (ad 18) (ad 19) (ad 20) cA ob oc lc fb fs))) F (c_C_keepSlack v) 0 rfl rfl (zcwV F.2.2.2.2.1 kcX0_keepSlack kmX4_81 kiX0_keepSlack ksX0_keepSlack knX0 hdX0_keepSlack rfl rfl ⟨(Nat.le_of_ble_eq_true rfl), (Nat.le_of_ble_eq_true rfl)⟩) dX4_slack_13 rfl rfl rfl (Nat.le_of_ble_eq_true rfl) ⟨(Nat.le_of_ble_eq_true rfl), (Nat.le_of_ble_eq_true rfl)⟩ ?_
  rintro w2 rfl
  exact z_vret F hr hlk dX4_slack_16 rfl (Nat.le_of_ble_eq_true rfl) (Nat.le_of_ble_eq_true rfl)

set_option maxHeartbeats 4000000 in
set_option maxRecDepth 100000 in
/-- exact -/
theorem c_exact {l : Launch} {D : va_G} {tys : List (ClassId × FieldType)} {ad : Nat → Nat} {cA : ClassId} {ro lo co ks : Nat → Nat} {nb sl : Nat} {si we ki ap tg : Nat → Nat} {nu : Nat} {bn us : Nat → Nat} {nh ct : Nat} {mk ex : Bool} {ob : Nat → Option Nat} {oc : Nat → Nat} {lc : Nat → Option Nat} {fb fs : Nat → Nat} : zMi l yX4_exact (zws yX4_exact cX4_exact 1 (some .boolean)) { frames := 0, cells := 0, slots := 0, locals := 0 } D zcl ((cA, .int) :: tys) zG [.ref (ad 0)] (wX ad cA ro lo co ks nb sl si we ki ap tg nu bn us nh ct mk ex ob oc lc fb fs) (fun r w2 => r = zB (mk && ex) ∧ w2 = (wX ad cA ro lo co ks nb sl si we ki ap tg nu bn us nh ct mk ex ob oc lc fb fs)) 0 0 := by
  refine z_ofi (cc := cX4_exact) (maxL := 1) (ret := (some .boolean)) (by decide) rfl (Nat.le_of_ble_eq_true rfl) ?_
  intro p e s m below meth c A F hr hlk hnm
  refine z_aload_n F dX4_exact_0 rfl ?_
  refine z_get (ci := 4) (C := RX4) (T := TX4) (N := 4) F 0 2 dX4_exact_1 inX4 kfX4_26 rfl rfl rfl (by decide) rfl ?_
  refine z_getN (ci := 1) (C := RX1) (T := TX1) (N := 6) F 12 4 dX4_exact_4 inX1 (nfX4_104 F.2.2.2.2.2.2.2.1) rfl rfl rfl (by decide) rfl ?_
  refine z_if_eq (tgt := 24) F dX4_exact_7 (by decide) (fun c7 => ?_) (fun c7 => ?_)
  · refine z_iconst (v := 0) F dX4_exact_24 (by decide) ?_
    exact z_iret F hr rfl hlk dX4_exact_25 ⟨by rw [zB_0.mp c7]; rfl, rfl⟩ (Nat.le_of_ble_eq_true rfl) (Nat.le_of_ble_eq_true rfl)
  · refine z_aload_n F dX4_exact_10 rfl ?_
    refine z_get (ci := 4) (C := RX4) (T := TX4) (N := 4) F 0 2 dX4_exact_11 inX4 kfX4_26 rfl rfl rfl (by decide) rfl ?_
    refine z_getN (ci := 1) (C := RX1) (T := TX1) (N := 6) F 12 5 dX4_exact_14 inX1 (nfX4_108 F.2.2.2.2.2.2.2.1) rfl rfl rfl (by decide) rfl ?_
    refine z_if_eq (tgt := 24) F dX4_exact_17 (by decide) (fun c17 => ?_) (fun c17 => ?_)
    · refine z_iconst (v := 0) F dX4_exact_24 (by decide) ?_
      exact z_iret F hr rfl hlk dX4_exact_25 ⟨by rw [zB_0.mp c17, Bool.and_false]; rfl, rfl⟩ (Nat.le_of_ble_eq_true rfl) (Nat.le_of_ble_eq_true rfl)
    · refine z_iconst (v := 1) F dX4_exact_20 (by decide) ?_
      refine z_goto (tgt := 25) F dX4_exact_21 (by decide) ?_
      exact z_iret F hr rfl hlk dX4_exact_25 ⟨by rw [zB_1.mp c7, zB_1.mp c17]; rfl, rfl⟩ (Nat.le_of_ble_eq_true rfl) (Nat.le_of_ble_eq_true rfl)

set_option maxHeartbeats 4000000 in
set_option maxRecDepth 100000 in
/-- boxes -/
theorem c_boxes {l : Launch} {D : va_G} {tys : List (ClassId × FieldType)} {ad : Nat → Nat} {cA : ClassId} {ro lo co ks : Nat → Nat} {nb sl : Nat} {si we ki ap tg : Nat → Nat} {nu : Nat} {bn us : Nat → Nat} {nh ct : Nat} {mk ex : Bool} {ob : Nat → Option Nat} {oc : Nat → Nat} {lc : Nat → Option Nat} {fb fs : Nat → Nat} : zMi l yX4_boxes (zws yX4_boxes cX4_boxes 1 (some .int)) { frames := 0, cells := 0, slots := 0, locals := 0 } D zcl ((cA, .int) :: tys) zG [.ref (ad 0)] (wX ad cA ro lo co ks nb sl si we ki ap tg nu bn us nh ct mk ex ob oc lc fb fs) (fun r w2 => r = zo (bif mk then some nh else none) ∧ w2 = (wX ad cA ro lo co ks nb sl si we ki ap tg nu bn us nh ct mk ex ob oc lc fb fs)) 0 0 := by
  refine z_ofi (cc := cX4_boxes) (maxL := 1) (ret := (some .int)) (by decide) rfl (Nat.le_of_ble_eq_true rfl) ?_
  intro p e s m below meth c A F hr hlk hnm
  refine z_aload_n F dX4_boxes_0 rfl ?_
  refine z_get (ci := 4) (C := RX4) (T := TX4) (N := 4) F 0 2 dX4_boxes_1 inX4 kfX4_26 rfl rfl rfl (by decide) rfl ?_
  refine z_getN (ci := 1) (C := RX1) (T := TX1) (N := 6) F 12 4 dX4_boxes_4 inX1 (nfX4_104 F.2.2.2.2.2.2.2.1) rfl rfl rfl (by decide) rfl ?_
  refine z_if_eq (tgt := 20) F dX4_boxes_7 (by decide) (fun c7 => ?_) (fun c7 => ?_)
  · refine z_iconst (v := (-1)) F dX4_boxes_20 (by decide) ?_
    exact z_iret F hr rfl hlk dX4_boxes_21 ⟨by rw [zB_0.mp c7]; rfl, rfl⟩ (Nat.le_of_ble_eq_true rfl) (Nat.le_of_ble_eq_true rfl)
  · refine z_aload_n F dX4_boxes_10 rfl ?_
    refine z_get (ci := 4) (C := RX4) (T := TX4) (N := 4) F 0 2 dX4_boxes_11 inX4 kfX4_26 rfl rfl rfl (by decide) rfl ?_
    refine z_getN (ci := 1) (C := RX1) (T := TX1) (N := 6) F 12 2 dX4_boxes_14 inX1 (nfX4_111 F.2.2.2.2.2.2.2.1) rfl rfl rfl (by decide) rfl ?_
    refine z_goto (tgt := 21) F dX4_boxes_17 (by decide) ?_
    exact z_iret F hr rfl hlk dX4_boxes_21 ⟨by rw [zB_1.mp c7]; rfl, rfl⟩ (Nat.le_of_ble_eq_true rfl) (Nat.le_of_ble_eq_true rfl)

set_option maxHeartbeats 4000000 in
set_option maxRecDepth 100000 in
theorem c_where_x1 {l : Launch} {D : va_G} {tys : List (ClassId × FieldType)} {ad : Nat → Nat} {cA : ClassId} {ro lo co ks : Nat → Nat} {nb sl : Nat} {si we ki ap tg : Nat → Nat} {nu : Nat} {bn us : Nat → Nat} {nh ct : Nat} {mk ex : Bool} {ob : Nat → Option Nat} {oc : Nat → Nat} {lc : Nat → Option Nat} {fb fs : Nat → Nat} (hl : l.stackTraces = false) (v1 : Int32) (h1 : ¬ (0 ≤ v1 ∧ v1 < nI nu)) : zXi l yX4_where (zws yX4_where cX4_where 2 (some .int)) { frames := 7, cells := 1, slots := 6, locals := 105 } D zcl ((cA, .int) :: tys) zG [.ref (ad 0), .int v1] (wX ad cA ro lo co ks nb sl si we ki ap tg nu bn us nh ct mk ex ob oc lc fb fs) (fun _ _ => False) (fun E w2 => E = "java/util/NoSuchElementException" ∧ w2 = (wX ad cA ro lo co ks nb sl si we ki ap tg nu bn us nh ct mk ex ob oc lc fb fs)) 1 6 := by
  refine zx_ofi (cc := cX4_where) (maxL := 2) (ret := (some .int)) (by decide) rfl (Nat.le_of_ble_eq_true rfl) ?_
  intro p e s m below meth c A F hr hlk hnm hex
  refine z_aload_n F dX4_where_0 rfl ?_
  refine z_iload_n F dX4_where_1 rfl ?_
  refine zx_callVv (w1 := []) (w3 := []) F (c_X_unit_x hl v1 h1) 0 rfl rfl (zcwV F.2.2.2.2.1 kcX4_needUnit kmX4_62 kiX4_needUnit ksX4_needUnit knX4 hdX4_needUnit rfl rfl ⟨(Nat.le_of_ble_eq_true rfl), (Nat.le_of_ble_eq_true rfl)⟩) dX4_where_2 rfl rfl rfl (Nat.le_of_ble_eq_true rfl) ⟨(Nat.le_of_ble_eq_true rfl), (Nat.le_of_ble_eq_true rfl)⟩ ?_ ?_
  · rintro E w2 ⟨rfl, rfl⟩
    exact zx_outi hex hlk ⟨rfl, rfl⟩ (Nat.le_of_ble_eq_true rfl) (Nat.le_of_ble_eq_true rfl)
  intro w2 h9
  exact h9.elim

set_option maxHeartbeats 4000000 in
set_option maxRecDepth 100000 in
/-- where -/
theorem c_where {l : Launch} {D : va_G} {tys : List (ClassId × FieldType)} {ad : Nat → Nat} {cA : ClassId} {ro lo co ks : Nat → Nat} {nb sl : Nat} {si we ki ap tg : Nat → Nat} {nu : Nat} {bn us : Nat → Nat} {nh ct : Nat} {mk ex : Bool} {ob : Nat → Option Nat} {oc : Nat → Nat} {lc : Nat → Option Nat} {fb fs : Nat → Nat} (hn8 : nu ≤ 8) (hn : nh ≤ 8) (hb : ∀ x, us x < 2 ^ 31) (u : Nat) (hu : u < nu) : zMi l yX4_where (zws yX4_where cX4_where 2 (some .int)) { frames := 7, cells := 0, slots := 0, locals := 105 } D zcl ((cA, .int) :: tys) zG [.ref (ad 0), .int (nI u)] (wX ad cA ro lo co ks nb sl si we ki ap tg nu bn us nh ct mk ex ob oc lc fb fs) (fun r w2 => r = zo (zfst (fun x => (us x).testBit u) nh) ∧ w2 = (wX ad cA ro lo co ks nb sl si we ki ap tg nu bn us nh ct mk ex ob oc lc fb fs)) 0 0 := by
  refine z_ofi (cc := cX4_where) (maxL := 2) (ret := (some .int)) (by decide) rfl (Nat.le_of_ble_eq_true rfl) ?_
  intro p e s m below meth c A F hr hlk hnm
  refine z_aload_n F dX4_where_0 rfl ?_
  refine z_iload_n F dX4_where_1 rfl ?_
  refine z_callVv0 F (c_X_unit (nI u) ((zhas (by omega)).mpr ⟨u, hu, rfl⟩)) 0 rfl rfl (zcwV F.2.2.2.2.1 kcX4_needUnit kmX4_62 kiX4_needUnit ksX4_needUnit knX4 hdX4_needUnit rfl rfl ⟨(Nat.le_of_ble_eq_true rfl), (Nat.le_of_ble_eq_true rfl)⟩) dX4_where_2 rfl rfl (Nat.le_of_ble_eq_true rfl) ⟨(Nat.le_of_ble_eq_true rfl), (Nat.le_of_ble_eq_true rfl)⟩ ?_
  rintro w2 rfl
  refine z_aload_n F dX4_where_5 rfl ?_
  refine z_get (ci := 4) (C := RX4) (T := TX4) (N := 4) F 0 2 dX4_where_6 inX4 kfX4_26 rfl rfl rfl (by decide) rfl ?_
  refine z_iload_n F dX4_where_9 rfl ?_
  refine z_callVi (w1 := ((ad 0, .inr (4, [.ref (ad 1), .ref (ad 6), .ref (ad 12), .ref (ad 15)])) :: (wC (ad 1) (ad 2) (ad 3) (ad 4) (ad 5) cA ro lo co ks nb sl ++ wU (ad 6) (ad 7) (ad 8) (ad 9) (ad 10) (ad 11) cA si we ki ap tg nu))) (w3 := (wE (ad 15) (ad 16) (ad 17) (ad 18) (ad 19) (ad 20) cA ob oc lc fb fs)) F (c_H_holderOf hn hb u (by omega)) 0 rfl rfl (zcwV F.2.2.2.2.1 kcX1_holderOf kmX4_136 kiX1_holderOf ksX1_holderOf knX1 hdX1_holderOf rfl rfl ⟨(Nat.le_of_ble_eq_true rfl), (Nat.le_of_ble_eq_true rfl)⟩) dX4_where_10 rfl rfl rfl (Nat.le_of_ble_eq_true rfl) ⟨(Nat.le_of_ble_eq_true rfl), (Nat.le_of_ble_eq_true rfl)⟩ ?_
  rintro r w2 ⟨rfl, rfl⟩
  exact z_iret F hr rfl hlk dX4_where_13 ⟨rfl, rfl⟩ (Nat.le_of_ble_eq_true rfl) (Nat.le_of_ble_eq_true rfl)
