set_option maxHeartbeats 4000000 in
set_option maxRecDepth 100000 in
/-- BoxChoiceModel() -/
theorem c_M_init_new {l : Launch} {D : va_G} {tys : List (ClassId × FieldType)} {cA : ClassId} (q : Nat) : zMv l yX5_init (zws yX5_init cX5_init 1 none) { frames := 1, cells := 13, slots := 152, locals := 14 } D zcl ((cA, .int) :: tys) zG [.ref q] [(q, .inr (5, [.int 0, .int 0, .null, .null, .null, .null, .int 0, .null, .null, .null, .null, .int 0, .int 0, .int 0, .null, .null, .int 0, .null, .null, .null]))] (fun w2 => ∃ am : Nat → Nat, am 0 = q ∧ w2 = wM am cA 0 0 (fun _ => 0) (fun _ => 0) (fun _ => 0) (fun _ => 0) 0 (fun _ => 0) (fun _ => 0) (fun _ => 0) (fun _ => 0) 0 none false (fun _ => some 0) (fun _ => 0) 0 (fun _ => some 0) (fun _ => 0) (fun _ => 0)) 13 152 := by
  refine z_ofv (cc := cX5_init) (maxL := 1) (ret := none) (by decide) rfl (Nat.le_of_ble_eq_true rfl) ?_
  intro p e s m below meth c A F hr hlk hnm
  refine z_aload_n F dX5_init_0 rfl ?_
  refine z_objInit F dX5_init_1 kmX5_1 kiO kcO (Nat.le_of_ble_eq_true rfl) (Nat.le_of_ble_eq_true rfl) ?_
  refine z_aload_n F dX5_init_4 rfl ?_
  refine z_bipush (v := 6) F dX5_init_5 (by decide) ?_
  refine z_newi (N := 6) F 0 dX5_init_7 kr_int rfl rfl (by decide) (Nat.le_of_ble_eq_true rfl) (Nat.le_of_ble_eq_true rfl) (fun a1 => ?_)
  refine z_putF (ci := 5) (C := RX5) (T := TX5) (N := 20) (ty := (.array .int)) F 0 2 dX5_init_9 inX5 tyX5 tyX5_ok nmX5 kfX5_7 rfl rfl rfl (by decide) rfl hnm rfl (by decide +kernel) rfl rfl (Nat.le_of_ble_eq_true rfl) ?_
  refine z_eq (ws2 := [(q, .inr (5, [.int 0, .int 0, .ref a1, .null, .null, .null, .int 0, .null, .null, .null, .null, .int 0, .int 0, .int 0, .null, .null, .int 0, .null, .null, .null])), (a1, .inl (cA, 6, .inl (fun _ => nI 0)))]) rfl rfl rfl rfl ?_
  refine z_aload_n F dX5_init_12 rfl ?_
  refine z_bipush (v := 6) F dX5_init_13 (by decide) ?_
  refine z_newi (N := 6) F 0 dX5_init_15 kr_int rfl rfl (by decide) (Nat.le_of_ble_eq_true rfl) (Nat.le_of_ble_eq_true rfl) (fun a2 => ?_)
  refine z_putF (ci := 5) (C := RX5) (T := TX5) (N := 20) (ty := (.array .int)) F 0 3 dX5_init_17 inX5 tyX5 tyX5_ok nmX5 kfX5_13 rfl rfl rfl (by decide) rfl hnm rfl (by decide +kernel) rfl rfl (Nat.le_of_ble_eq_true rfl) ?_
  refine z_eq (ws2 := [(q, .inr (5, [.int 0, .int 0, .ref a1, .ref a2, .null, .null, .int 0, .null, .null, .null, .null, .int 0, .int 0, .int 0, .null, .null, .int 0, .null, .null, .null])), (a1, .inl (cA, 6, .inl (fun _ => nI 0))), (a2, .inl (cA, 6, .inl (fun _ => nI 0)))]) rfl rfl rfl rfl ?_
  refine z_aload_n F dX5_init_20 rfl ?_
  refine z_bipush (v := 6) F dX5_init_21 (by decide) ?_
  refine z_newi (N := 6) F 0 dX5_init_23 kr_int rfl rfl (by decide) (Nat.le_of_ble_eq_true rfl) (Nat.le_of_ble_eq_true rfl) (fun a3 => ?_)
  refine z_putF (ci := 5) (C := RX5) (T := TX5) (N := 20) (ty := (.array .int)) F 0 4 dX5_init_25 inX5 tyX5 tyX5_ok nmX5 kfX5_16 rfl rfl rfl (by decide) rfl hnm rfl (by decide +kernel) rfl rfl (Nat.le_of_ble_eq_true rfl) ?_
  refine z_eq (ws2 := [(q, .inr (5, [.int 0, .int 0, .ref a1, .ref a2, .ref a3, .null, .int 0, .null, .null, .null, .null, .int 0, .int 0, .int 0, .null, .null, .int 0, .null, .null, .null])), (a1, .inl (cA, 6, .inl (fun _ => nI 0))), (a2, .inl (cA, 6, .inl (fun _ => nI 0))), (a3, .inl (cA, 6, .inl (fun _ => nI 0)))]) rfl rfl rfl rfl ?_
  refine z_aload_n F dX5_init_28 rfl ?_
  refine z_bipush (v := 6) F dX5_init_29 (by decide) ?_
  refine z_newi (N := 6) F 0 dX5_init_31 kr_int rfl rfl (by decide) (Nat.le_of_ble_eq_true rfl) (Nat.le_of_ble_eq_true rfl) (fun a4 => ?_)
  refine z_putF (ci := 5) (C := RX5) (T := TX5) (N := 20) (ty := (.array .int)) F 0 5 dX5_init_33 inX5 tyX5 tyX5_ok nmX5 kfX5_19 rfl rfl rfl (by decide) rfl hnm rfl (by decide +kernel) rfl rfl (Nat.le_of_ble_eq_true rfl) ?_
  refine z_eq (ws2 := [(q, .inr (5, [.int 0, .int 0, .ref a1, .ref a2, .ref a3, .ref a4, .int 0, .null, .null, .null, .null, .int 0, .int 0, .int 0, .null, .null, .int 0, .null, .null, .null])), (a1, .inl (cA, 6, .inl (fun _ => nI 0))), (a2, .inl (cA, 6, .inl (fun _ => nI 0))), (a3, .inl (cA, 6, .inl (fun _ => nI 0))), (a4, .inl (cA, 6, .inl (fun _ => nI 0)))]) rfl rfl rfl rfl ?_
  refine z_aload_n F dX5_init_36 rfl ?_
  refine z_bipush (v := 8) F dX5_init_37 (by decide) ?_
  refine z_newi (N := 8) F 0 dX5_init_39 kr_int rfl rfl (by decide) (Nat.le_of_ble_eq_true rfl) (Nat.le_of_ble_eq_true rfl) (fun a5 => ?_)
  refine z_putF (ci := 5) (C := RX5) (T := TX5) (N := 20) (ty := (.array .int)) F 0 7 dX5_init_41 inX5 tyX5 tyX5_ok nmX5 kfX5_22 rfl rfl rfl (by decide) rfl hnm rfl (by decide +kernel) rfl rfl (Nat.le_of_ble_eq_true rfl) ?_
  refine z_eq (ws2 := [(q, .inr (5, [.int 0, .int 0, .ref a1, .ref a2, .ref a3, .ref a4, .int 0, .ref a5, .null, .null, .null, .int 0, .int 0, .int 0, .null, .null, .int 0, .null, .null, .null])), (a1, .inl (cA, 6, .inl (fun _ => nI 0))), (a2, .inl (cA, 6, .inl (fun _ => nI 0))), (a3, .inl (cA, 6, .inl (fun _ => nI 0))), (a4, .inl (cA, 6, .inl (fun _ => nI 0))), (a5, .inl (cA, 8, .inl (fun _ => nI 0)))]) rfl rfl rfl rfl ?_
  refine z_aload_n F dX5_init_44 rfl ?_
  refine z_bipush (v := 8) F dX5_init_45 (by decide) ?_
  refine z_newi (N := 8) F 0 dX5_init_47 kr_int rfl rfl (by decide) (Nat.le_of_ble_eq_true rfl) (Nat.le_of_ble_eq_true rfl) (fun a6 => ?_)
  refine z_putF (ci := 5) (C := RX5) (T := TX5) (N := 20) (ty := (.array .int)) F 0 8 dX5_init_49 inX5 tyX5 tyX5_ok nmX5 kfX5_25 rfl rfl rfl (by decide) rfl hnm rfl (by decide +kernel) rfl rfl (Nat.le_of_ble_eq_true rfl) ?_
  refine z_eq (ws2 := [(q, .inr (5, [.int 0, .int 0, .ref a1, .ref a2, .ref a3, .ref a4, .int 0, .ref a5, .ref a6, .null, .null, .int 0, .int 0, .int 0, .null, .null, .int 0, .null, .null, .null])), (a1, .inl (cA, 6, .inl (fun _ => nI 0))), (a2, .inl (cA, 6, .inl (fun _ => nI 0))), (a3, .inl (cA, 6, .inl (fun _ => nI 0))), (a4, .inl (cA, 6, .inl (fun _ => nI 0))), (a5, .inl (cA, 8, .inl (fun _ => nI 0))), (a6, .inl (cA, 8, .inl (fun _ => nI 0)))]) rfl rfl rfl rfl ?_
  refine z_aload_n F dX5_init_52 rfl ?_
  refine z_bipush (v := 8) F dX5_init_53 (by decide) ?_
  refine z_newi (N := 8) F 0 dX5_init_55 kr_int rfl rfl (by decide) (Nat.le_of_ble_eq_true rfl) (Nat.le_of_ble_eq_true rfl) (fun a7 => ?_)
  refine z_putF (ci := 5) (C := RX5) (T := TX5) (N := 20) (ty := (.array .int)) F 0 9 dX5_init_57 inX5 tyX5 tyX5_ok nmX5 kfX5_28 rfl rfl rfl (by decide) rfl hnm rfl (by decide +kernel) rfl rfl (Nat.le_of_ble_eq_true rfl) ?_
  refine z_eq (ws2 := [(q, .inr (5, [.int 0, .int 0, .ref a1, .ref a2, .ref a3, .ref a4, .int 0, .ref a5, .ref a6, .ref a7, .null, .int 0, .int 0, .int 0, .null, .null, .int 0, .null, .null, .null])), (a1, .inl (cA, 6, .inl (fun _ => nI 0))), (a2, .inl (cA, 6, .inl (fun _ => nI 0))), (a3, .inl (cA, 6, .inl (fun _ => nI 0))), (a4, .inl (cA, 6, .inl (fun _ => nI 0))), (a5, .inl (cA, 8, .inl (fun _ => nI 0))), (a6, .inl (cA, 8, .inl (fun _ => nI 0))), (a7, .inl (cA, 8, .inl (fun _ => nI 0)))]) rfl rfl rfl rfl ?_
  refine z_aload_n F dX5_init_60 rfl ?_
  refine z_bipush (v := 64) F dX5_init_61 (by decide) ?_
  refine z_newi (N := 64) F 0 dX5_init_63 kr_int rfl rfl (by decide) (Nat.le_of_ble_eq_true rfl) (Nat.le_of_ble_eq_true rfl) (fun a8 => ?_)
  refine z_putF (ci := 5) (C := RX5) (T := TX5) (N := 20) (ty := (.array .int)) F 0 10 dX5_init_65 inX5 tyX5 tyX5_ok nmX5 kfX5_31 rfl rfl rfl (by decide) rfl hnm rfl (by decide +kernel) rfl rfl (Nat.le_of_ble_eq_true rfl) ?_
  refine z_eq (ws2 := [(q, .inr (5, [.int 0, .int 0, .ref a1, .ref a2, .ref a3, .ref a4, .int 0, .ref a5, .ref a6, .ref a7, .ref a8, .int 0, .int 0, .int 0, .null, .null, .int 0, .null, .null, .null])), (a1, .inl (cA, 6, .inl (fun _ => nI 0))), (a2, .inl (cA, 6, .inl (fun _ => nI 0))), (a3, .inl (cA, 6, .inl (fun _ => nI 0))), (a4, .inl (cA, 6, .inl (fun _ => nI 0))), (a5, .inl (cA, 8, .inl (fun _ => nI 0))), (a6, .inl (cA, 8, .inl (fun _ => nI 0))), (a7, .inl (cA, 8, .inl (fun _ => nI 0))), (a8, .inl (cA, 64, .inl (fun _ => nI 0)))]) rfl rfl rfl rfl ?_
  refine z_aload_n F dX5_init_68 rfl ?_
  refine z_iconst (v := (-1)) F dX5_init_69 (by decide) ?_
  refine z_put (ci := 5) (C := RX5) (T := TX5) (N := 20) (ty := .int) F 0 12 dX5_init_70 inX5 tyX5 tyX5_ok nmX5 kfX5_34 rfl rfl rfl (by decide) rfl (by decide +kernel) rfl rfl (Nat.le_of_ble_eq_true rfl) ?_
  refine z_eq (ws2 := [(q, .inr (5, [.int 0, .int 0, .ref a1, .ref a2, .ref a3, .ref a4, .int 0, .ref a5, .ref a6, .ref a7, .ref a8, .int 0, .int (-1), .int 0, .null, .null, .int 0, .null, .null, .null])), (a1, .inl (cA, 6, .inl (fun _ => nI 0))), (a2, .inl (cA, 6, .inl (fun _ => nI 0))), (a3, .inl (cA, 6, .inl (fun _ => nI 0))), (a4, .inl (cA, 6, .inl (fun _ => nI 0))), (a5, .inl (cA, 8, .inl (fun _ => nI 0))), (a6, .inl (cA, 8, .inl (fun _ => nI 0))), (a7, .inl (cA, 8, .inl (fun _ => nI 0))), (a8, .inl (cA, 64, .inl (fun _ => nI 0)))]) rfl rfl rfl rfl ?_
  refine z_aload_n F dX5_init_73 rfl ?_
  refine z_bipush (v := 8) F dX5_init_74 (by decide) ?_
  refine z_newi (N := 8) F 0 dX5_init_76 kr_int rfl rfl (by decide) (Nat.le_of_ble_eq_true rfl) (Nat.le_of_ble_eq_true rfl) (fun a9 => ?_)
  refine z_putF (ci := 5) (C := RX5) (T := TX5) (N := 20) (ty := (.array .int)) F 0 14 dX5_init_78 inX5 tyX5 tyX5_ok nmX5 kfX5_38 rfl rfl rfl (by decide) rfl hnm rfl (by decide +kernel) rfl rfl (Nat.le_of_ble_eq_true rfl) ?_
  refine z_eq (ws2 := [(q, .inr (5, [.int 0, .int 0, .ref a1, .ref a2, .ref a3, .ref a4, .int 0, .ref a5, .ref a6, .ref a7, .ref a8, .int 0, .int (-1), .int 0, .ref a9, .null, .int 0, .null, .null, .null])), (a1, .inl (cA, 6, .inl (fun _ => nI 0))), (a2, .inl (cA, 6, .inl (fun _ => nI 0))), (a3, .inl (cA, 6, .inl (fun _ => nI 0))), (a4, .inl (cA, 6, .inl (fun _ => nI 0))), (a5, .inl (cA, 8, .inl (fun _ => nI 0))), (a6, .inl (cA, 8, .inl (fun _ => nI 0))), (a7, .inl (cA, 8, .inl (fun _ => nI 0))), (a8, .inl (cA, 64, .inl (fun _ => nI 0))), (a9, .inl (cA, 8, .inl (fun _ => nI 0)))]) rfl rfl rfl rfl ?_
  refine z_aload_n F dX5_init_81 rfl ?_
  refine z_bipush (v := 8) F dX5_init_82 (by decide) ?_
  refine z_newi (N := 8) F 0 dX5_init_84 kr_int rfl rfl (by decide) (Nat.le_of_ble_eq_true rfl) (Nat.le_of_ble_eq_true rfl) (fun a10 => ?_)
  refine z_putF (ci := 5) (C := RX5) (T := TX5) (N := 20) (ty := (.array .int)) F 0 15 dX5_init_86 inX5 tyX5 tyX5_ok nmX5 kfX5_41 rfl rfl rfl (by decide) rfl hnm rfl (by decide +kernel) rfl rfl (Nat.le_of_ble_eq_true rfl) ?_
  refine z_eq (ws2 := [(q, .inr (5, [.int 0, .int 0, .ref a1, .ref a2, .ref a3, .ref a4, .int 0, .ref a5, .ref a6, .ref a7, .ref a8, .int 0, .int (-1), .int 0, .ref a9, .ref a10, .int 0, .null, .null, .null])), (a1, .inl (cA, 6, .inl (fun _ => nI 0))), (a2, .inl (cA, 6, .inl (fun _ => nI 0))), (a3, .inl (cA, 6, .inl (fun _ => nI 0))), (a4, .inl (cA, 6, .inl (fun _ => nI 0))), (a5, .inl (cA, 8, .inl (fun _ => nI 0))), (a6, .inl (cA, 8, .inl (fun _ => nI 0))), (a7, .inl (cA, 8, .inl (fun _ => nI 0))), (a8, .inl (cA, 64, .inl (fun _ => nI 0))), (a9, .inl (cA, 8, .inl (fun _ => nI 0))), (a10, .inl (cA, 8, .inl (fun _ => nI 0)))]) rfl rfl rfl rfl ?_
  refine z_aload_n F dX5_init_89 rfl ?_
  refine z_bipush (v := 8) F dX5_init_90 (by decide) ?_
  refine z_newi (N := 8) F 0 dX5_init_92 kr_int rfl rfl (by decide) (Nat.le_of_ble_eq_true rfl) (Nat.le_of_ble_eq_true rfl) (fun a11 => ?_)
  refine z_putF (ci := 5) (C := RX5) (T := TX5) (N := 20) (ty := (.array .int)) F 0 17 dX5_init_94 inX5 tyX5 tyX5_ok nmX5 kfX5_44 rfl rfl rfl (by decide) rfl hnm rfl (by decide +kernel) rfl rfl (Nat.le_of_ble_eq_true rfl) ?_
  refine z_eq (ws2 := [(q, .inr (5, [.int 0, .int 0, .ref a1, .ref a2, .ref a3, .ref a4, .int 0, .ref a5, .ref a6, .ref a7, .ref a8, .int 0, .int (-1), .int 0, .ref a9, .ref a10, .int 0, .ref a11, .null, .null])), (a1, .inl (cA, 6, .inl (fun _ => nI 0))), (a2, .inl (cA, 6, .inl (fun _ => nI 0))), (a3, .inl (cA, 6, .inl (fun _ => nI 0))), (a4, .inl (cA, 6, .inl (fun _ => nI 0))), (a5, .inl (cA, 8, .inl (fun _ => nI 0))), (a6, .inl (cA, 8, .inl (fun _ => nI 0))), (a7, .inl (cA, 8, .inl (fun _ => nI 0))), (a8, .inl (cA, 64, .inl (fun _ => nI 0))), (a9, .inl (cA, 8, .inl (fun _ => nI 0))), (a10, .inl (cA, 8, .inl (fun _ => nI 0))), (a11, .inl (cA, 8, .inl (fun _ => nI 0)))]) rfl rfl rfl rfl ?_
  refine z_aload_n F dX5_init_97 rfl ?_
  refine z_bipush (v := 8) F dX5_init_98 (by decide) ?_
  refine z_newi (N := 8) F 0 dX5_init_100 kr_int rfl rfl (by decide) (Nat.le_of_ble_eq_true rfl) (Nat.le_of_ble_eq_true rfl) (fun a12 => ?_)
  refine z_putF (ci := 5) (C := RX5) (T := TX5) (N := 20) (ty := (.array .int)) F 0 18 dX5_init_102 inX5 tyX5 tyX5_ok nmX5 kfX5_47 rfl rfl rfl (by decide) rfl hnm rfl (by decide +kernel) rfl rfl (Nat.le_of_ble_eq_true rfl) ?_
  refine z_eq (ws2 := [(q, .inr (5, [.int 0, .int 0, .ref a1, .ref a2, .ref a3, .ref a4, .int 0, .ref a5, .ref a6, .ref a7, .ref a8, .int 0, .int (-1), .int 0, .ref a9, .ref a10, .int 0, .ref a11, .ref a12, .null])), (a1, .inl (cA, 6, .inl (fun _ => nI 0))), (a2, .inl (cA, 6, .inl (fun _ => nI 0))), (a3, .inl (cA, 6, .inl (fun _ => nI 0))), (a4, .inl (cA, 6, .inl (fun _ => nI 0))), (a5, .inl (cA, 8, .inl (fun _ => nI 0))), (a6, .inl (cA, 8, .inl (fun _ => nI 0))), (a7, .inl (cA, 8, .inl (fun _ => nI 0))), (a8, .inl (cA, 64, .inl (fun _ => nI 0))), (a9, .inl (cA, 8, .inl (fun _ => nI 0))), (a10, .inl (cA, 8, .inl (fun _ => nI 0))), (a11, .inl (cA, 8, .inl (fun _ => nI 0))), (a12, .inl (cA, 8, .inl (fun _ => nI 0)))]) rfl rfl rfl rfl ?_
  refine z_aload_n F dX5_init_105 rfl ?_
  refine z_bipush (v := 8) F dX5_init_106 (by decide) ?_
  refine z_newi (N := 8) F 0 dX5_init_108 kr_int rfl rfl (by decide) (Nat.le_of_ble_eq_true rfl) (Nat.le_of_ble_eq_true rfl) (fun a13 => ?_)
  refine z_putF (ci := 5) (C := RX5) (T := TX5) (N := 20) (ty := (.array .int)) F 0 19 dX5_init_110 inX5 tyX5 tyX5_ok nmX5 kfX5_50 rfl rfl rfl (by decide) rfl hnm rfl (by decide +kernel) rfl rfl (Nat.le_of_ble_eq_true rfl) ?_
  refine z_eq (ws2 := [(q, .inr (5, [.int 0, .int 0, .ref a1, .ref a2, .ref a3, .ref a4, .int 0, .ref a5, .ref a6, .ref a7, .ref a8, .int 0, .int (-1), .int 0, .ref a9, .ref a10, .int 0, .ref a11, .ref a12, .ref a13])), (a1, .inl (cA, 6, .inl (fun _ => nI 0))), (a2, .inl (cA, 6, .inl (fun _ => nI 0))), (a3, .inl (cA, 6, .inl (fun _ => nI 0))), (a4, .inl (cA, 6, .inl (fun _ => nI 0))), (a5, .inl (cA, 8, .inl (fun _ => nI 0))), (a6, .inl (cA, 8, .inl (fun _ => nI 0))), (a7, .inl (cA, 8, .inl (fun _ => nI 0))), (a8, .inl (cA, 64, .inl (fun _ => nI 0))), (a9, .inl (cA, 8, .inl (fun _ => nI 0))), (a10, .inl (cA, 8, .inl (fun _ => nI 0))), (a11, .inl (cA, 8, .inl (fun _ => nI 0))), (a12, .inl (cA, 8, .inl (fun _ => nI 0))), (a13, .inl (cA, 8, .inl (fun _ => nI 0)))]) rfl rfl rfl rfl ?_
  exact z_vret F hr hlk dX5_init_113 ⟨fun k => [q, a1, a2, a3, a4, a5, a6, a7, a8, a9, a10, a11, a12, a13].getD k 0, rfl, rfl⟩ (Nat.le_of_ble_eq_true rfl) (Nat.le_of_ble_eq_true rfl)
