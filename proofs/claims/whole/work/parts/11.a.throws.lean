theorem zdecl {x : MethodName} {args : Array Value} {s : State} {bytes : ByteArray} {n : Nat} {r : Option FieldType} (h : (Cond.instanceMethod x).before args s = true) (hc : (Cond.code x bytes n r).before args s = true) : (Cond.declares x).before args s = true := by
  obtain ⟨m, meth, h1, h2, h3, h4⟩ := Cond.instanceMethod_spec h
  obtain ⟨meth2, c2, g1, -, -, -, -, -, -, hsig⟩ := Cond.code_spec h1 hc
  cases Option.some.inj (h2.symm.trans g1)
  simp [Cond.before, Cond.holds, Cond.value, h1, h2, h3, hsig]
theorem kiJ_1 : Cond.instanceMethod (Bundle.initS "java/lang/RuntimeException") ∈ gtbl := by decide +kernel
theorem kiJ_2 : Cond.instanceMethod (Bundle.initS "java/lang/Exception") ∈ gtbl := by decide +kernel
theorem kcJ_1 : Cond.code (Bundle.initS "java/lang/RuntimeException") Bundle.six 2 none ∈ gtbl := by decide +kernel
theorem kcJ_2 : Cond.code (Bundle.initS "java/lang/Exception") Bundle.six 2 none ∈ gtbl := by decide +kernel
theorem kcJ_3 : Cond.code (Bundle.initS Bundle.tN) LibCode.Throwable.InitS.code 2 none ∈ gtbl := by decide +kernel
theorem kiJ_3 : Cond.instanceMethod (Bundle.initS Bundle.tN) ∈ gtbl := by decide +kernel
theorem xat_IllegalArgumentException_g : ∀ w ∈ (vx_atS RX4 70 "java/lang/IllegalArgumentException" ["java/lang/RuntimeException", "java/lang/Exception"]).filter goodWord, w ∈ lw_tbl := by decide +kernel
theorem xat_IllegalArgumentException_b : ∀ w ∈ (vx_atS RX4 70 "java/lang/IllegalArgumentException" ["java/lang/RuntimeException", "java/lang/Exception"]).filter (fun w => !goodWord w), w ∈ [Cond.castable "java/lang/IllegalArgumentException" "java/lang/IllegalArgumentException", Cond.declares (Bundle.initS "java/lang/RuntimeException"), Cond.declares (Bundle.initS "java/lang/Exception"), Cond.declares (Bundle.initS Bundle.tN)] := by decide +kernel
theorem xat_IllegalArgumentException {args : Array Value} {s : State} {A : Nat → Prop} (ht : ∀ w ∈ gtbl, w.before args s = true) (g : zG s A) : ∀ w ∈ vx_atS RX4 70 "java/lang/IllegalArgumentException" ["java/lang/RuntimeException", "java/lang/Exception"], w.before args s = true :=
  vx_hat (fun w h => ht w (List.mem_filter.mpr ⟨xat_IllegalArgumentException_g w h, (List.mem_filter.mp h).2⟩)) xat_IllegalArgumentException_b (vx_c (va_Nw.use rfl (g.2.2.1 "java/lang/IllegalArgumentException" (List.mem_of_getElem? (i := 0) rfl))) (vx_c (zdecl (ht _ kiJ_1) (ht _ kcJ_1)) (vx_c (zdecl (ht _ kiJ_2) (ht _ kcJ_2)) (vx_c (zdecl (ht _ kiJ_3) (ht _ kcJ_3)) vx_n))))
theorem xgd_IllegalArgumentException_66 : ∀ w ∈ Cond.classLink RX4 66 "java/lang/IllegalArgumentException" :: Cond.initialized "java/lang/IllegalArgumentException" :: vx_atS RX4 70 "java/lang/IllegalArgumentException" ["java/lang/RuntimeException", "java/lang/Exception"], vx_ot w = true := by decide +kernel
theorem xat_UnsupportedOperationException_g : ∀ w ∈ (vx_atS RX4 49 "java/lang/UnsupportedOperationException" ["java/lang/RuntimeException", "java/lang/Exception"]).filter goodWord, w ∈ lw_tbl := by decide +kernel
theorem xat_UnsupportedOperationException_b : ∀ w ∈ (vx_atS RX4 49 "java/lang/UnsupportedOperationException" ["java/lang/RuntimeException", "java/lang/Exception"]).filter (fun w => !goodWord w), w ∈ [Cond.castable "java/lang/UnsupportedOperationException" "java/lang/UnsupportedOperationException", Cond.declares (Bundle.initS "java/lang/RuntimeException"), Cond.declares (Bundle.initS "java/lang/Exception"), Cond.declares (Bundle.initS Bundle.tN)] := by decide +kernel
theorem xat_UnsupportedOperationException {args : Array Value} {s : State} {A : Nat → Prop} (ht : ∀ w ∈ gtbl, w.before args s = true) (g : zG s A) : ∀ w ∈ vx_atS RX4 49 "java/lang/UnsupportedOperationException" ["java/lang/RuntimeException", "java/lang/Exception"], w.before args s = true :=
  vx_hat (fun w h => ht w (List.mem_filter.mpr ⟨xat_UnsupportedOperationException_g w h, (List.mem_filter.mp h).2⟩)) xat_UnsupportedOperationException_b (vx_c (va_Nw.use rfl (g.2.2.1 "java/lang/UnsupportedOperationException" (List.mem_of_getElem? (i := 1) rfl))) (vx_c (zdecl (ht _ kiJ_1) (ht _ kcJ_1)) (vx_c (zdecl (ht _ kiJ_2) (ht _ kcJ_2)) (vx_c (zdecl (ht _ kiJ_3) (ht _ kcJ_3)) vx_n))))
theorem xgd_UnsupportedOperationException_45 : ∀ w ∈ Cond.classLink RX4 45 "java/lang/UnsupportedOperationException" :: Cond.initialized "java/lang/UnsupportedOperationException" :: vx_atS RX4 49 "java/lang/UnsupportedOperationException" ["java/lang/RuntimeException", "java/lang/Exception"], vx_ot w = true := by decide +kernel
theorem xat_IllegalStateException_g : ∀ w ∈ (vx_atS RX4 171 "java/lang/IllegalStateException" ["java/lang/RuntimeException", "java/lang/Exception"]).filter goodWord, w ∈ lw_tbl := by decide +kernel
theorem xat_IllegalStateException_b : ∀ w ∈ (vx_atS RX4 171 "java/lang/IllegalStateException" ["java/lang/RuntimeException", "java/lang/Exception"]).filter (fun w => !goodWord w), w ∈ [Cond.castable "java/lang/IllegalStateException" "java/lang/IllegalStateException", Cond.declares (Bundle.initS "java/lang/RuntimeException"), Cond.declares (Bundle.initS "java/lang/Exception"), Cond.declares (Bundle.initS Bundle.tN)] := by decide +kernel
theorem xat_IllegalStateException {args : Array Value} {s : State} {A : Nat → Prop} (ht : ∀ w ∈ gtbl, w.before args s = true) (g : zG s A) : ∀ w ∈ vx_atS RX4 171 "java/lang/IllegalStateException" ["java/lang/RuntimeException", "java/lang/Exception"], w.before args s = true :=
  vx_hat (fun w h => ht w (List.mem_filter.mpr ⟨xat_IllegalStateException_g w h, (List.mem_filter.mp h).2⟩)) xat_IllegalStateException_b (vx_c (va_Nw.use rfl (g.2.2.1 "java/lang/IllegalStateException" (List.mem_of_getElem? (i := 3) rfl))) (vx_c (zdecl (ht _ kiJ_1) (ht _ kcJ_1)) (vx_c (zdecl (ht _ kiJ_2) (ht _ kcJ_2)) (vx_c (zdecl (ht _ kiJ_3) (ht _ kcJ_3)) vx_n))))
theorem xgd_IllegalStateException_167 : ∀ w ∈ Cond.classLink RX4 167 "java/lang/IllegalStateException" :: Cond.initialized "java/lang/IllegalStateException" :: vx_atS RX4 171 "java/lang/IllegalStateException" ["java/lang/RuntimeException", "java/lang/Exception"], vx_ot w = true := by decide +kernel
theorem xat_ArithmeticException_g : ∀ w ∈ (vx_atS RX4 182 "java/lang/ArithmeticException" ["java/lang/RuntimeException", "java/lang/Exception"]).filter goodWord, w ∈ lw_tbl := by decide +kernel
theorem xat_ArithmeticException_b : ∀ w ∈ (vx_atS RX4 182 "java/lang/ArithmeticException" ["java/lang/RuntimeException", "java/lang/Exception"]).filter (fun w => !goodWord w), w ∈ [Cond.castable "java/lang/ArithmeticException" "java/lang/ArithmeticException", Cond.declares (Bundle.initS "java/lang/RuntimeException"), Cond.declares (Bundle.initS "java/lang/Exception"), Cond.declares (Bundle.initS Bundle.tN)] := by decide +kernel
theorem xat_ArithmeticException {args : Array Value} {s : State} {A : Nat → Prop} (ht : ∀ w ∈ gtbl, w.before args s = true) (g : zG s A) : ∀ w ∈ vx_atS RX4 182 "java/lang/ArithmeticException" ["java/lang/RuntimeException", "java/lang/Exception"], w.before args s = true :=
  vx_hat (fun w h => ht w (List.mem_filter.mpr ⟨xat_ArithmeticException_g w h, (List.mem_filter.mp h).2⟩)) xat_ArithmeticException_b (vx_c (va_Nw.use rfl (g.2.2.1 "java/lang/ArithmeticException" (List.mem_of_getElem? (i := 4) rfl))) (vx_c (zdecl (ht _ kiJ_1) (ht _ kcJ_1)) (vx_c (zdecl (ht _ kiJ_2) (ht _ kcJ_2)) (vx_c (zdecl (ht _ kiJ_3) (ht _ kcJ_3)) vx_n))))
theorem xgd_ArithmeticException_178 : ∀ w ∈ Cond.classLink RX4 178 "java/lang/ArithmeticException" :: Cond.initialized "java/lang/ArithmeticException" :: vx_atS RX4 182 "java/lang/ArithmeticException" ["java/lang/RuntimeException", "java/lang/Exception"], vx_ot w = true := by decide +kernel
set_option maxHeartbeats 4000000 in
set_option maxRecDepth 100000 in
/-- needRange, in its range -/
theorem c_X_range {l : Launch} {D : va_G} {tys : List (ClassId × FieldType)} {cA : ClassId} (v a b : Int32) (h : a ≤ v ∧ v ≤ b) : zMv l yX4_needRange (zws yX4_needRange cX4_needRange 3 none) { frames := 6, cells := 0, slots := 0, locals := 84 } D zcl ((cA, .int) :: tys) zG [.int v, .int a, .int b] [] (fun w2 => w2 = []) 0 0 := by
  refine z_ofv (cc := cX4_needRange) (maxL := 3) (ret := none) (by decide) rfl (Nat.le_of_ble_eq_true rfl) ?_
  intro p e s m below meth c A F hr hlk hnm
  refine z_iload_n F dX4_needRange_0 rfl ?_
  refine z_iload_n F dX4_needRange_1 rfl ?_
  refine z_icmp_lt (tgt := 10) F dX4_needRange_2 (by decide) (fun c2 => ?_) (fun c2 => ?_)
  · exact absurd h.1 (fun q => zlt_nge c2 q)
  · refine z_iload_n F dX4_needRange_5 rfl ?_
    refine z_iload_n F dX4_needRange_6 rfl ?_
    refine z_icmp_le (tgt := 20) F dX4_needRange_7 (by decide) (fun c7 => ?_) (fun c7 => ?_)
    · exact z_vret F hr hlk dX4_needRange_20 rfl (Nat.le_of_ble_eq_true rfl) (Nat.le_of_ble_eq_true rfl)
    · exact absurd h.2 c7

set_option maxHeartbeats 4000000 in
set_option maxRecDepth 100000 in
/-- needRange, outside it -/
theorem c_X_range_x {l : Launch} {D : va_G} {tys : List (ClassId × FieldType)} {cA : ClassId} (hl : l.stackTraces = false) (v a b : Int32) (h : ¬ (a ≤ v ∧ v ≤ b)) : zXv l yX4_needRange (zws yX4_needRange cX4_needRange 3 none) { frames := 6, cells := 1, slots := 6, locals := 84 } D zcl ((cA, .int) :: tys) zG [.int v, .int a, .int b] [] (fun _ => False) (fun E w2 => E = "java/lang/IllegalArgumentException" ∧ w2 = []) 1 6 := by
  refine zx_ofv (cc := cX4_needRange) (maxL := 3) (ret := none) (by decide) rfl (Nat.le_of_ble_eq_true rfl) ?_
  intro p e s m below meth c A F hr hlk hnm hex
  refine z_iload_n F dX4_needRange_0 rfl ?_
  refine z_iload_n F dX4_needRange_1 rfl ?_
  refine z_icmp_lt (tgt := 10) F dX4_needRange_2 (by decide) (fun c2 => ?_) (fun c2 => ?_)
  · exact zx_throwv F hl (cls := "java/lang/IllegalArgumentException") (text := "a number is outside its range") (names := ["java/lang/RuntimeException", "java/lang/Exception"]) (ik := 66) (is := 195) (ic := 70) (by decide) (by decide) (F.2.2.2.2.1 _ klX4_66) (F.2.2.2.2.1 _ knJ_IllegalArgumentException) (F.2.2.2.2.2.2.2.1.2.2.2.1 (195, "a number is outside its range") (List.mem_of_getElem? (i := 0) rfl)) (xat_IllegalArgumentException F.2.2.2.2.1 F.2.2.2.2.2.2.2.1) xgd_IllegalArgumentException_66 F.2.2.2.2.2.2.2.1.2.2.2.2.1 F.2.2.2.2.2.2.2.1.2.2.2.2.2 hex dX4_needRange_10 dX4_needRange_13 dX4_needRange_14 dX4_needRange_16 dX4_needRange_19 (Nat.le_of_ble_eq_true rfl) (Nat.le_of_ble_eq_true rfl) (Nat.le_of_ble_eq_true rfl) (Nat.le_of_ble_eq_true rfl) hlk ⟨rfl, rfl⟩ (Nat.le_of_ble_eq_true rfl) (Nat.le_of_ble_eq_true rfl)
  · refine z_iload_n F dX4_needRange_5 rfl ?_
    refine z_iload_n F dX4_needRange_6 rfl ?_
    refine z_icmp_le (tgt := 20) F dX4_needRange_7 (by decide) (fun c7 => ?_) (fun c7 => ?_)
    · exact absurd ⟨znlt_ge c2, c7⟩ h
    · exact zx_throwv F hl (cls := "java/lang/IllegalArgumentException") (text := "a number is outside its range") (names := ["java/lang/RuntimeException", "java/lang/Exception"]) (ik := 66) (is := 195) (ic := 70) (by decide) (by decide) (F.2.2.2.2.1 _ klX4_66) (F.2.2.2.2.1 _ knJ_IllegalArgumentException) (F.2.2.2.2.2.2.2.1.2.2.2.1 (195, "a number is outside its range") (List.mem_of_getElem? (i := 0) rfl)) (xat_IllegalArgumentException F.2.2.2.2.1 F.2.2.2.2.2.2.2.1) xgd_IllegalArgumentException_66 F.2.2.2.2.2.2.2.1.2.2.2.2.1 F.2.2.2.2.2.2.2.1.2.2.2.2.2 hex dX4_needRange_10 dX4_needRange_13 dX4_needRange_14 dX4_needRange_16 dX4_needRange_19 (Nat.le_of_ble_eq_true rfl) (Nat.le_of_ble_eq_true rfl) (Nat.le_of_ble_eq_true rfl) (Nat.le_of_ble_eq_true rfl) hlk ⟨rfl, rfl⟩ (Nat.le_of_ble_eq_true rfl) (Nat.le_of_ble_eq_true rfl)

