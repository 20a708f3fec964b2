set_option maxHeartbeats 4000000 in
set_option maxRecDepth 100000 in
/-- Catalogue() -/
theorem c_X0_init_new {l : Launch} {D : va_G} {tys : List (ClassId × FieldType)} {cA : ClassId} (q : Nat) : zMv l yX0_init (zws yX0_init cX0_init 1 none) { frames := 1, cells := 4, slots := 24, locals := 14 } D zcl ((cA, .int) :: tys) zG [.ref q] [(q, .inr (0, [.null, .null, .null, .null, .int 0, .int 0]))] (fun w2 => ∃ c1 c2 c3 c4 : Nat, w2 = wC q c1 c2 c3 c4 cA (fun _ => 0) (fun _ => 0) (fun _ => 0) (fun _ => 0) 0 0) 4 24 := by
  refine z_ofv (cc := cX0_init) (maxL := 1) (ret := none) (by decide) rfl (Nat.le_of_ble_eq_true rfl) ?_
  intro p e s m below meth c A F hr hlk hnm
  refine z_aload_n F dX0_init_0 rfl ?_
  refine z_objInit F dX0_init_1 kmX0_3 kiO kcO (Nat.le_of_ble_eq_true rfl) (Nat.le_of_ble_eq_true rfl) ?_
  refine z_aload_n F dX0_init_4 rfl ?_
  refine z_bipush (v := 6) F dX0_init_5 (by decide) ?_
  refine z_newi (N := 6) F 0 dX0_init_7 kr_int rfl rfl (by decide) (Nat.le_of_ble_eq_true rfl) (Nat.le_of_ble_eq_true rfl) (fun c1 => ?_)
  refine z_putF (ci := 0) (C := RX0) (T := TX0) (N := 6) (ty := (.array .int)) F 0 0 dX0_init_9 inX0 tyX0 tyX0_ok nmX0 kfX0_9 rfl rfl rfl (by decide) rfl hnm rfl (by decide +kernel) rfl rfl (Nat.le_of_ble_eq_true rfl) ?_
  refine z_aload_n F dX0_init_12 rfl ?_
  refine z_bipush (v := 6) F dX0_init_13 (by decide) ?_
  refine z_newi (N := 6) F 0 dX0_init_15 kr_int rfl rfl (by decide) (Nat.le_of_ble_eq_true rfl) (Nat.le_of_ble_eq_true rfl) (fun c2 => ?_)
  refine z_putF (ci := 0) (C := RX0) (T := TX0) (N := 6) (ty := (.array .int)) F 0 1 dX0_init_17 inX0 tyX0 tyX0_ok nmX0 kfX0_15 rfl rfl rfl (by decide) rfl hnm rfl (by decide +kernel) rfl rfl (Nat.le_of_ble_eq_true rfl) ?_
  refine z_aload_n F dX0_init_20 rfl ?_
  refine z_bipush (v := 6) F dX0_init_21 (by decide) ?_
  refine z_newi (N := 6) F 0 dX0_init_23 kr_int rfl rfl (by decide) (Nat.le_of_ble_eq_true rfl) (Nat.le_of_ble_eq_true rfl) (fun c3 => ?_)
  refine z_putF (ci := 0) (C := RX0) (T := TX0) (N := 6) (ty := (.array .int)) F 0 2 dX0_init_25 inX0 tyX0 tyX0_ok nmX0 kfX0_18 rfl rfl rfl (by decide) rfl hnm rfl (by decide +kernel) rfl rfl (Nat.le_of_ble_eq_true rfl) ?_
  refine z_aload_n F dX0_init_28 rfl ?_
  refine z_bipush (v := 6) F dX0_init_29 (by decide) ?_
  refine z_newi (N := 6) F 0 dX0_init_31 kr_int rfl rfl (by decide) (Nat.le_of_ble_eq_true rfl) (Nat.le_of_ble_eq_true rfl) (fun c4 => ?_)
  refine z_putF (ci := 0) (C := RX0) (T := TX0) (N := 6) (ty := (.array .int)) F 0 3 dX0_init_33 inX0 tyX0 tyX0_ok nmX0 kfX0_21 rfl rfl rfl (by decide) rfl hnm rfl (by decide +kernel) rfl rfl (Nat.le_of_ble_eq_true rfl) ?_
  exact z_vret F hr hlk dX0_init_36 ⟨c1, c2, c3, c4, rfl⟩ (Nat.le_of_ble_eq_true rfl) (Nat.le_of_ble_eq_true rfl)

set_option maxHeartbeats 4000000 in
set_option maxRecDepth 100000 in
/-- Units() -/
theorem c_X3_init_new {l : Launch} {D : va_G} {tys : List (ClassId × FieldType)} {cA : ClassId} (q : Nat) : zMv l yX3_init (zws yX3_init cX3_init 1 none) { frames := 1, cells := 5, slots := 40, locals := 14 } D zcl ((cA, .int) :: tys) zG [.ref q] [(q, .inr (3, [.null, .null, .null, .null, .null, .int 0]))] (fun w2 => ∃ u1 u2 u3 u4 u5 : Nat, w2 = wU q u1 u2 u3 u4 u5 cA (fun _ => 0) (fun _ => 0) (fun _ => 0) (fun _ => 0) (fun _ => 0) 0) 5 40 := by
  refine z_ofv (cc := cX3_init) (maxL := 1) (ret := none) (by decide) rfl (Nat.le_of_ble_eq_true rfl) ?_
  intro p e s m below meth c A F hr hlk hnm
  refine z_aload_n F dX3_init_0 rfl ?_
  refine z_objInit F dX3_init_1 kmX3_3 kiO kcO (Nat.le_of_ble_eq_true rfl) (Nat.le_of_ble_eq_true rfl) ?_
  refine z_aload_n F dX3_init_4 rfl ?_
  refine z_bipush (v := 8) F dX3_init_5 (by decide) ?_
  refine z_newi (N := 8) F 0 dX3_init_7 kr_int rfl rfl (by decide) (Nat.le_of_ble_eq_true rfl) (Nat.le_of_ble_eq_true rfl) (fun u1 => ?_)
  refine z_putF (ci := 3) (C := RX3) (T := TX3) (N := 6) (ty := (.array .int)) F 0 0 dX3_init_9 inX3 tyX3 tyX3_ok nmX3 kfX3_9 rfl rfl rfl (by decide) rfl hnm rfl (by decide +kernel) rfl rfl (Nat.le_of_ble_eq_true rfl) ?_
  refine z_aload_n F dX3_init_12 rfl ?_
  refine z_bipush (v := 8) F dX3_init_13 (by decide) ?_
  refine z_newi (N := 8) F 0 dX3_init_15 kr_int rfl rfl (by decide) (Nat.le_of_ble_eq_true rfl) (Nat.le_of_ble_eq_true rfl) (fun u2 => ?_)
  refine z_putF (ci := 3) (C := RX3) (T := TX3) (N := 6) (ty := (.array .int)) F 0 1 dX3_init_17 inX3 tyX3 tyX3_ok nmX3 kfX3_15 rfl rfl rfl (by decide) rfl hnm rfl (by decide +kernel) rfl rfl (Nat.le_of_ble_eq_true rfl) ?_
  refine z_aload_n F dX3_init_20 rfl ?_
  refine z_bipush (v := 8) F dX3_init_21 (by decide) ?_
  refine z_newi (N := 8) F 0 dX3_init_23 kr_int rfl rfl (by decide) (Nat.le_of_ble_eq_true rfl) (Nat.le_of_ble_eq_true rfl) (fun u3 => ?_)
  refine z_putF (ci := 3) (C := RX3) (T := TX3) (N := 6) (ty := (.array .int)) F 0 2 dX3_init_25 inX3 tyX3 tyX3_ok nmX3 kfX3_18 rfl rfl rfl (by decide) rfl hnm rfl (by decide +kernel) rfl rfl (Nat.le_of_ble_eq_true rfl) ?_
  refine z_aload_n F dX3_init_28 rfl ?_
  refine z_bipush (v := 8) F dX3_init_29 (by decide) ?_
  refine z_newi (N := 8) F 0 dX3_init_31 kr_int rfl rfl (by decide) (Nat.le_of_ble_eq_true rfl) (Nat.le_of_ble_eq_true rfl) (fun u4 => ?_)
  refine z_putF (ci := 3) (C := RX3) (T := TX3) (N := 6) (ty := (.array .int)) F 0 3 dX3_init_33 inX3 tyX3 tyX3_ok nmX3 kfX3_21 rfl rfl rfl (by decide) rfl hnm rfl (by decide +kernel) rfl rfl (Nat.le_of_ble_eq_true rfl) ?_
  refine z_aload_n F dX3_init_36 rfl ?_
  refine z_bipush (v := 8) F dX3_init_37 (by decide) ?_
  refine z_newi (N := 8) F 0 dX3_init_39 kr_int rfl rfl (by decide) (Nat.le_of_ble_eq_true rfl) (Nat.le_of_ble_eq_true rfl) (fun u5 => ?_)
  refine z_putF (ci := 3) (C := RX3) (T := TX3) (N := 6) (ty := (.array .int)) F 0 4 dX3_init_41 inX3 tyX3 tyX3_ok nmX3 kfX3_24 rfl rfl rfl (by decide) rfl hnm rfl (by decide +kernel) rfl rfl (Nat.le_of_ble_eq_true rfl) ?_
  exact z_vret F hr hlk dX3_init_44 ⟨u1, u2, u3, u4, u5, rfl⟩ (Nat.le_of_ble_eq_true rfl) (Nat.le_of_ble_eq_true rfl)

set_option maxHeartbeats 4000000 in
set_option maxRecDepth 100000 in
/-- Choice() -/
theorem c_X1_init_new {l : Launch} {D : va_G} {tys : List (ClassId × FieldType)} {cA : ClassId} (q : Nat) : zMv l yX1_init (zws yX1_init cX1_init 1 none) { frames := 1, cells := 2, slots := 16, locals := 14 } D zcl ((cA, .int) :: tys) zG [.ref q] [(q, .inr (1, [.null, .null, .int 0, .int 0, .int 0, .int 0]))] (fun w2 => ∃ d1 d2 : Nat, w2 = wH q d1 d2 cA (fun _ => 0) (fun _ => 0) 0 0 false false) 2 16 := by
  refine z_ofv (cc := cX1_init) (maxL := 1) (ret := none) (by decide) rfl (Nat.le_of_ble_eq_true rfl) ?_
  intro p e s m below meth c A F hr hlk hnm
  refine z_aload_n F dX1_init_0 rfl ?_
  refine z_objInit F dX1_init_1 kmX1_3 kiO kcO (Nat.le_of_ble_eq_true rfl) (Nat.le_of_ble_eq_true rfl) ?_
  refine z_aload_n F dX1_init_4 rfl ?_
  refine z_bipush (v := 8) F dX1_init_5 (by decide) ?_
  refine z_newi (N := 8) F 0 dX1_init_7 kr_int rfl rfl (by decide) (Nat.le_of_ble_eq_true rfl) (Nat.le_of_ble_eq_true rfl) (fun d1 => ?_)
  refine z_putF (ci := 1) (C := RX1) (T := TX1) (N := 6) (ty := (.array .int)) F 0 0 dX1_init_9 inX1 tyX1 tyX1_ok nmX1 kfX1_9 rfl rfl rfl (by decide) rfl hnm rfl (by decide +kernel) rfl rfl (Nat.le_of_ble_eq_true rfl) ?_
  refine z_aload_n F dX1_init_12 rfl ?_
  refine z_bipush (v := 8) F dX1_init_13 (by decide) ?_
  refine z_newi (N := 8) F 0 dX1_init_15 kr_int rfl rfl (by decide) (Nat.le_of_ble_eq_true rfl) (Nat.le_of_ble_eq_true rfl) (fun d2 => ?_)
  refine z_putF (ci := 1) (C := RX1) (T := TX1) (N := 6) (ty := (.array .int)) F 0 1 dX1_init_17 inX1 tyX1 tyX1_ok nmX1 kfX1_15 rfl rfl rfl (by decide) rfl hnm rfl (by decide +kernel) rfl rfl (Nat.le_of_ble_eq_true rfl) ?_
  exact z_vret F hr hlk dX1_init_20 ⟨d1, d2, rfl⟩ (Nat.le_of_ble_eq_true rfl) (Nat.le_of_ble_eq_true rfl)

set_option maxHeartbeats 4000000 in
set_option maxRecDepth 100000 in
/-- ExactSearch() -/
theorem c_X2_init_new {l : Launch} {D : va_G} {tys : List (ClassId × FieldType)} {cA : ClassId} (q : Nat) : zMv l yX2_init (zws yX2_init cX2_init 1 none) { frames := 1, cells := 5, slots := 320, locals := 14 } D zcl ((cA, .int) :: tys) zG [.ref q] [(q, .inr (2, [.null, .null, .null, .null, .null]))] (fun w2 => ∃ e1 e2 e3 e4 e5 : Nat, w2 = wE q e1 e2 e3 e4 e5 cA (fun _ => some 0) (fun _ => 0) (fun _ => some 0) (fun _ => 0) (fun _ => 0)) 5 320 := by
  refine z_ofv (cc := cX2_init) (maxL := 1) (ret := none) (by decide) rfl (Nat.le_of_ble_eq_true rfl) ?_
  intro p e s m below meth c A F hr hlk hnm
  refine z_aload_n F dX2_init_0 rfl ?_
  refine z_objInit F dX2_init_1 kmX2_3 kiO kcO (Nat.le_of_ble_eq_true rfl) (Nat.le_of_ble_eq_true rfl) ?_
  refine z_aload_n F dX2_init_4 rfl ?_
  refine z_bipush (v := 64) F dX2_init_5 (by decide) ?_
  refine z_newi (N := 64) F 0 dX2_init_7 kr_int rfl rfl (by decide) (Nat.le_of_ble_eq_true rfl) (Nat.le_of_ble_eq_true rfl) (fun e1 => ?_)
  refine z_putF (ci := 2) (C := RX2) (T := TX2) (N := 5) (ty := (.array .int)) F 0 0 dX2_init_9 inX2 tyX2 tyX2_ok nmX2 kfX2_9 rfl rfl rfl (by decide) rfl hnm rfl (by decide +kernel) rfl rfl (Nat.le_of_ble_eq_true rfl) ?_
  refine z_aload_n F dX2_init_12 rfl ?_
  refine z_bipush (v := 64) F dX2_init_13 (by decide) ?_
  refine z_newi (N := 64) F 0 dX2_init_15 kr_int rfl rfl (by decide) (Nat.le_of_ble_eq_true rfl) (Nat.le_of_ble_eq_true rfl) (fun e2 => ?_)
  refine z_putF (ci := 2) (C := RX2) (T := TX2) (N := 5) (ty := (.array .int)) F 0 1 dX2_init_17 inX2 tyX2 tyX2_ok nmX2 kfX2_15 rfl rfl rfl (by decide) rfl hnm rfl (by decide +kernel) rfl rfl (Nat.le_of_ble_eq_true rfl) ?_
  refine z_aload_n F dX2_init_20 rfl ?_
  refine z_bipush (v := 64) F dX2_init_21 (by decide) ?_
  refine z_newi (N := 64) F 0 dX2_init_23 kr_int rfl rfl (by decide) (Nat.le_of_ble_eq_true rfl) (Nat.le_of_ble_eq_true rfl) (fun e3 => ?_)
  refine z_putF (ci := 2) (C := RX2) (T := TX2) (N := 5) (ty := (.array .int)) F 0 2 dX2_init_25 inX2 tyX2 tyX2_ok nmX2 kfX2_18 rfl rfl rfl (by decide) rfl hnm rfl (by decide +kernel) rfl rfl (Nat.le_of_ble_eq_true rfl) ?_
  refine z_aload_n F dX2_init_28 rfl ?_
  refine z_bipush (v := 64) F dX2_init_29 (by decide) ?_
  refine z_newi (N := 64) F 0 dX2_init_31 kr_int rfl rfl (by decide) (Nat.le_of_ble_eq_true rfl) (Nat.le_of_ble_eq_true rfl) (fun e4 => ?_)
  refine z_putF (ci := 2) (C := RX2) (T := TX2) (N := 5) (ty := (.array .int)) F 0 3 dX2_init_33 inX2 tyX2 tyX2_ok nmX2 kfX2_21 rfl rfl rfl (by decide) rfl hnm rfl (by decide +kernel) rfl rfl (Nat.le_of_ble_eq_true rfl) ?_
  refine z_aload_n F dX2_init_36 rfl ?_
  refine z_bipush (v := 64) F dX2_init_37 (by decide) ?_
  refine z_newi (N := 64) F 0 dX2_init_39 kr_int rfl rfl (by decide) (Nat.le_of_ble_eq_true rfl) (Nat.le_of_ble_eq_true rfl) (fun e5 => ?_)
  refine z_putF (ci := 2) (C := RX2) (T := TX2) (N := 5) (ty := (.array .int)) F 0 4 dX2_init_41 inX2 tyX2 tyX2_ok nmX2 kfX2_24 rfl rfl rfl (by decide) rfl hnm rfl (by decide +kernel) rfl rfl (Nat.le_of_ble_eq_true rfl) ?_
  exact z_vret F hr hlk dX2_init_44 ⟨e1, e2, e3, e4, e5, rfl⟩ (Nat.le_of_ble_eq_true rfl) (Nat.le_of_ble_eq_true rfl)

/-- the whole object: its cells by their addresses ad 0, ad 1 .. -/
def wX (ad : Nat → Nat) (cA : ClassId) (ro lo co ks : Nat → Nat) (nb sl : Nat) (si we ki ap tg : Nat → Nat) (nu : Nat) (bn us : Nat → Nat) (nh ct : Nat) (mk ex : Bool) (ob : Nat → Option Nat) (oc : Nat → Nat) (lc : Nat → Option Nat) (fb fs : Nat → Nat) : va_W :=
  (ad 0, .inr (4, [.ref (ad 1), .ref (ad 6), .ref (ad 12), .ref (ad 15)])) :: (wC (ad 1) (ad 2) (ad 3) (ad 4) (ad 5) cA ro lo co ks nb sl ++ (wU (ad 6) (ad 7) (ad 8) (ad 9) (ad 10) (ad 11) cA si we ki ap tg nu ++ (wH (ad 12) (ad 13) (ad 14) cA bn us nh ct mk ex ++ wE (ad 15) (ad 16) (ad 17) (ad 18) (ad 19) (ad 20) cA ob oc lc fb fs)))

set_option maxHeartbeats 4000000 in
set_option maxRecDepth 100000 in
/-- BoxChoice() -/
theorem c_X4_init_new {l : Launch} {D : va_G} {tys : List (ClassId × FieldType)} {cA : ClassId} (q : Nat) : zMv l yX4_init (zws yX4_init cX4_init 1 none) { frames := 2, cells := 20, slots := 423, locals := 34 } D zcl ((cA, .int) :: tys) zG [.ref q] [(q, .inr (4, [.null, .null, .null, .null]))] (fun w2 => ∃ ad : Nat → Nat, ad 0 = q ∧ w2 = wX ad cA (fun _ => 0) (fun _ => 0) (fun _ => 0) (fun _ => 0) 0 0 (fun _ => 0) (fun _ => 0) (fun _ => 0) (fun _ => 0) (fun _ => 0) 0 (fun _ => 0) (fun _ => 0) 0 0 false false (fun _ => some 0) (fun _ => 0) (fun _ => some 0) (fun _ => 0) (fun _ => 0)) 20 423 := by
  refine z_ofv (cc := cX4_init) (maxL := 1) (ret := none) (by decide) rfl (Nat.le_of_ble_eq_true rfl) ?_
  intro p e s m below meth c A F hr hlk hnm
  refine z_aload_n F dX4_init_0 rfl ?_
  refine z_objInit F dX4_init_1 kmX4_3 kiO kcO (Nat.le_of_ble_eq_true rfl) (Nat.le_of_ble_eq_true rfl) ?_
  refine z_aload_n F dX4_init_4 rfl ?_
  refine z_new (ci := 0) (C := RX0) (T := TX0) (N := 6) (fs := [.null, .null, .null, .null, .int 0, .int 0]) F tyX0 dX4_init_5 inX0 tyX0_ok klX4_9 kaX0 knX0 rfl (fun j hj => by rcases (show j = 0 ∨ j = 1 ∨ j = 2 ∨ j = 3 ∨ j = 4 ∨ j = 5 by omega) with rfl | rfl | rfl | rfl | rfl | rfl <;> rfl) (Nat.le_of_ble_eq_true rfl) (Nat.le_of_ble_eq_true rfl) (fun hc => ?_)
  refine z_dup F dX4_init_8 rfl ?_
  refine z_callINv (ret := none) (w1 := [(q, .inr (4, [.null, .null, .null, .null]))]) (w3 := []) F (c_X0_init_new hc) (zcnI F.2.2.2.2.1 kcX0_init (nlX4_11 F.2.2.2.2.2.2.2.1) kiX0_init knX0 rfl hdX0_init rfl rfl ⟨(Nat.le_of_ble_eq_true rfl), (Nat.le_of_ble_eq_true rfl)⟩) dX4_init_9 rfl rfl rfl (Nat.le_of_ble_eq_true rfl) ⟨(Nat.le_of_ble_eq_true rfl), (Nat.le_of_ble_eq_true rfl)⟩ ?_
  rintro w2 ⟨c1, c2, c3, c4, rfl⟩
  refine z_putF (ci := 4) (C := RX4) (T := TX4) (N := 4) (ty := (.object "BoxChoice$Catalogue")) F 0 0 dX4_init_12 inX4 tyX4 tyX4_ok nmX4 kfX4_12 rfl rfl rfl (by decide) rfl hnm rfl (by decide +kernel) rfl rfl (Nat.le_of_ble_eq_true rfl) ?_
  refine z_aload_n F dX4_init_15 rfl ?_
  refine z_new (ci := 3) (C := RX3) (T := TX3) (N := 6) (fs := [.null, .null, .null, .null, .null, .int 0]) F tyX3 dX4_init_16 inX3 tyX3_ok klX4_16 kaX3 knX3 rfl (fun j hj => by rcases (show j = 0 ∨ j = 1 ∨ j = 2 ∨ j = 3 ∨ j = 4 ∨ j = 5 by omega) with rfl | rfl | rfl | rfl | rfl | rfl <;> rfl) (Nat.le_of_ble_eq_true rfl) (Nat.le_of_ble_eq_true rfl) (fun hu => ?_)
  refine z_dup F dX4_init_19 rfl ?_
  refine z_callINv (ret := none) (w1 := ((q, .inr (4, [.ref hc, .null, .null, .null])) :: wC hc c1 c2 c3 c4 cA (fun _ => 0) (fun _ => 0) (fun _ => 0) (fun _ => 0) 0 0)) (w3 := []) F (c_X3_init_new hu) (zcnI F.2.2.2.2.1 kcX3_init (nlX4_18 F.2.2.2.2.2.2.2.1) kiX3_init knX3 rfl hdX3_init rfl rfl ⟨(Nat.le_of_ble_eq_true rfl), (Nat.le_of_ble_eq_true rfl)⟩) dX4_init_20 rfl rfl rfl (Nat.le_of_ble_eq_true rfl) ⟨(Nat.le_of_ble_eq_true rfl), (Nat.le_of_ble_eq_true rfl)⟩ ?_
  rintro w2 ⟨u1, u2, u3, u4, u5, rfl⟩
  refine z_putF (ci := 4) (C := RX4) (T := TX4) (N := 4) (ty := (.object "BoxChoice$Units")) F 0 1 dX4_init_23 inX4 tyX4 tyX4_ok nmX4 kfX4_19 rfl rfl rfl (by decide) rfl hnm rfl (by decide +kernel) rfl rfl (Nat.le_of_ble_eq_true rfl) ?_
  refine z_aload_n F dX4_init_26 rfl ?_
  refine z_new (ci := 1) (C := RX1) (T := TX1) (N := 6) (fs := [.null, .null, .int 0, .int 0, .int 0, .int 0]) F tyX1 dX4_init_27 inX1 tyX1_ok klX4_23 kaX1 knX1 rfl (fun j hj => by rcases (show j = 0 ∨ j = 1 ∨ j = 2 ∨ j = 3 ∨ j = 4 ∨ j = 5 by omega) with rfl | rfl | rfl | rfl | rfl | rfl <;> rfl) (Nat.le_of_ble_eq_true rfl) (Nat.le_of_ble_eq_true rfl) (fun hd => ?_)
  refine z_dup F dX4_init_30 rfl ?_
  refine z_callINv (ret := none) (w1 := ((q, .inr (4, [.ref hc, .ref hu, .null, .null])) :: (wC hc c1 c2 c3 c4 cA (fun _ => 0) (fun _ => 0) (fun _ => 0) (fun _ => 0) 0 0 ++ wU hu u1 u2 u3 u4 u5 cA (fun _ => 0) (fun _ => 0) (fun _ => 0) (fun _ => 0) (fun _ => 0) 0))) (w3 := []) F (c_X1_init_new hd) (zcnI F.2.2.2.2.1 kcX1_init (nlX4_25 F.2.2.2.2.2.2.2.1) kiX1_init knX1 rfl hdX1_init rfl rfl ⟨(Nat.le_of_ble_eq_true rfl), (Nat.le_of_ble_eq_true rfl)⟩) dX4_init_31 rfl rfl rfl (Nat.le_of_ble_eq_true rfl) ⟨(Nat.le_of_ble_eq_true rfl), (Nat.le_of_ble_eq_true rfl)⟩ ?_
  rintro w2 ⟨d1, d2, rfl⟩
  refine z_putF (ci := 4) (C := RX4) (T := TX4) (N := 4) (ty := (.object "BoxChoice$Choice")) F 0 2 dX4_init_34 inX4 tyX4 tyX4_ok nmX4 kfX4_26 rfl rfl rfl (by decide) rfl hnm rfl (by decide +kernel) rfl rfl (Nat.le_of_ble_eq_true rfl) ?_
  refine z_aload_n F dX4_init_37 rfl ?_
  refine z_new (ci := 2) (C := RX2) (T := TX2) (N := 5) (fs := [.null, .null, .null, .null, .null]) F tyX2 dX4_init_38 inX2 tyX2_ok klX4_30 kaX2 knX2 rfl (fun j hj => by rcases (show j = 0 ∨ j = 1 ∨ j = 2 ∨ j = 3 ∨ j = 4 by omega) with rfl | rfl | rfl | rfl | rfl <;> rfl) (Nat.le_of_ble_eq_true rfl) (Nat.le_of_ble_eq_true rfl) (fun he => ?_)
  refine z_dup F dX4_init_41 rfl ?_
  refine z_callINv (ret := none) (w1 := ((q, .inr (4, [.ref hc, .ref hu, .ref hd, .null])) :: (wC hc c1 c2 c3 c4 cA (fun _ => 0) (fun _ => 0) (fun _ => 0) (fun _ => 0) 0 0 ++ (wU hu u1 u2 u3 u4 u5 cA (fun _ => 0) (fun _ => 0) (fun _ => 0) (fun _ => 0) (fun _ => 0) 0 ++ wH hd d1 d2 cA (fun _ => 0) (fun _ => 0) 0 0 false false)))) (w3 := []) F (c_X2_init_new he) (zcnI F.2.2.2.2.1 kcX2_init (nlX4_32 F.2.2.2.2.2.2.2.1) kiX2_init knX2 rfl hdX2_init rfl rfl ⟨(Nat.le_of_ble_eq_true rfl), (Nat.le_of_ble_eq_true rfl)⟩) dX4_init_42 rfl rfl rfl (Nat.le_of_ble_eq_true rfl) ⟨(Nat.le_of_ble_eq_true rfl), (Nat.le_of_ble_eq_true rfl)⟩ ?_
  rintro w2 ⟨e1, e2, e3, e4, e5, rfl⟩
  refine z_putF (ci := 4) (C := RX4) (T := TX4) (N := 4) (ty := (.object "BoxChoice$ExactSearch")) F 0 3 dX4_init_45 inX4 tyX4 tyX4_ok nmX4 kfX4_33 rfl rfl rfl (by decide) rfl hnm rfl (by decide +kernel) rfl rfl (Nat.le_of_ble_eq_true rfl) ?_
  exact z_vret F hr hlk dX4_init_48 ⟨fun k => [q, hc, c1, c2, c3, c4, hu, u1, u2, u3, u4, u5, hd, d1, d2, he, e1, e2, e3, e4, e5].getD k 0, rfl, rfl⟩ (Nat.le_of_ble_eq_true rfl) (Nat.le_of_ble_eq_true rfl)
