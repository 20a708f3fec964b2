set_option maxHeartbeats 4000000 in
set_option maxRecDepth 100000 in
/-- Units.has -/
theorem c_U_has {l : Launch} {D : va_G} {tys : List (ClassId × FieldType)} {hu u1 u2 u3 u4 u5 : Nat} {cA : ClassId} {si we ki ap tg : Nat → Nat} {nu : Nat} (b : Int32) : zMi l yX3_has (zws yX3_has cX3_has 2 (some .boolean)) { frames := 0, cells := 0, slots := 0, locals := 0 } D zcl ((cA, .int) :: tys) zG [.ref hu, .int b] (wU hu u1 u2 u3 u4 u5 cA si we ki ap tg nu) (fun r w2 => r = zB (decide (0 ≤ b ∧ b < nI nu)) ∧ w2 = (wU hu u1 u2 u3 u4 u5 cA si we ki ap tg nu)) 0 0 := by
  refine z_ofi (cc := cX3_has) (maxL := 2) (ret := (some .boolean)) (by decide) rfl (Nat.le_of_ble_eq_true rfl) ?_
  intro p e s m below meth c A F hr hlk hnm
  refine z_iload_n F dX3_has_0 rfl ?_
  refine z_if_lt (tgt := 16) F dX3_has_1 (by decide) (fun c1 => ?_) (fun c1 => ?_)
  · refine z_iconst (v := 0) F dX3_has_16 (by decide) ?_
    exact z_iret F hr rfl hlk dX3_has_17 ⟨zhas_f (fun q => zlt_nge c1 q.1), rfl⟩ (Nat.le_of_ble_eq_true rfl) (Nat.le_of_ble_eq_true rfl)
  · refine z_iload_n F dX3_has_4 rfl ?_
    refine z_aload_n F dX3_has_5 rfl ?_
    refine z_get (ci := 3) (C := RX3) (T := TX3) (N := 6) F 0 5 dX3_has_6 inX3 kfX3_27 rfl rfl rfl (by decide) rfl ?_
    refine z_icmp_ge (tgt := 16) F dX3_has_9 (by decide) (fun c9 => ?_) (fun c9 => ?_)
    · refine z_iconst (v := 0) F dX3_has_16 (by decide) ?_
      exact z_iret F hr rfl hlk dX3_has_17 ⟨zhas_f (fun q => zlt_nge q.2 c9), rfl⟩ (Nat.le_of_ble_eq_true rfl) (Nat.le_of_ble_eq_true rfl)
    · refine z_iconst (v := 1) F dX3_has_12 (by decide) ?_
      refine z_goto (tgt := 17) F dX3_has_13 (by decide) ?_
      exact z_iret F hr rfl hlk dX3_has_17 ⟨zhas_t ⟨znlt_ge c1, znle_lt c9⟩, rfl⟩ (Nat.le_of_ble_eq_true rfl) (Nat.le_of_ble_eq_true rfl)

set_option maxHeartbeats 4000000 in
set_option maxRecDepth 100000 in
/-- Units.isFull -/
theorem c_U_isFull {l : Launch} {D : va_G} {tys : List (ClassId × FieldType)} {hu u1 u2 u3 u4 u5 : Nat} {cA : ClassId} {si we ki ap tg : Nat → Nat} {nu : Nat} (hn : nu ≤ 8) : zMi l yX3_isFull (zws yX3_isFull cX3_isFull 1 (some .boolean)) { frames := 0, cells := 0, slots := 0, locals := 0 } D zcl ((cA, .int) :: tys) zG [.ref hu] (wU hu u1 u2 u3 u4 u5 cA si we ki ap tg nu) (fun r w2 => r = zB (decide (8 ≤ nu)) ∧ w2 = (wU hu u1 u2 u3 u4 u5 cA si we ki ap tg nu)) 0 0 := by
  refine z_ofi (cc := cX3_isFull) (maxL := 1) (ret := (some .boolean)) (by decide) rfl (Nat.le_of_ble_eq_true rfl) ?_
  intro p e s m below meth c A F hr hlk hnm
  refine z_aload_n F dX3_isFull_0 rfl ?_
  refine z_get (ci := 3) (C := RX3) (T := TX3) (N := 6) F 0 5 dX3_isFull_1 inX3 kfX3_27 rfl rfl rfl (by decide) rfl ?_
  refine z_bipush (v := 8) F dX3_isFull_4 (by decide) ?_
  refine z_icmp_lt (tgt := 13) F dX3_isFull_6 (by decide) (fun c6 => ?_) (fun c6 => ?_)
  · refine z_iconst (v := 0) F dX3_isFull_13 (by decide) ?_
    exact z_iret F hr rfl hlk dX3_isFull_14 ⟨zhas_f (fun q => by rw [show (8 : Int32) = nI 8 from rfl, nI_ltI (by omega) (by omega)] at c6; omega), rfl⟩ (Nat.le_of_ble_eq_true rfl) (Nat.le_of_ble_eq_true rfl)
  · refine z_iconst (v := 1) F dX3_isFull_9 (by decide) ?_
    refine z_goto (tgt := 14) F dX3_isFull_10 (by decide) ?_
    exact z_iret F hr rfl hlk dX3_isFull_14 ⟨zhas_t (by rw [show (8 : Int32) = nI 8 from rfl, nI_ltI (by omega) (by omega)] at c6; omega), rfl⟩ (Nat.le_of_ble_eq_true rfl) (Nat.le_of_ble_eq_true rfl)

set_option maxHeartbeats 4000000 in
set_option maxRecDepth 100000 in
/-- Units.all -/
theorem c_U_all {l : Launch} {D : va_G} {tys : List (ClassId × FieldType)} {hu u1 u2 u3 u4 u5 : Nat} {cA : ClassId} {si we ki ap tg : Nat → Nat} {nu : Nat} (hn : nu ≤ 8) : zMi l yX3_all (zws yX3_all cX3_all 1 (some .int)) { frames := 0, cells := 0, slots := 0, locals := 0 } D zcl ((cA, .int) :: tys) zG [.ref hu] (wU hu u1 u2 u3 u4 u5 cA si we ki ap tg nu) (fun r w2 => r = nI (2 ^ nu - 1) ∧ w2 = (wU hu u1 u2 u3 u4 u5 cA si we ki ap tg nu)) 0 0 := by
  refine z_ofi (cc := cX3_all) (maxL := 1) (ret := (some .int)) (by decide) rfl (Nat.le_of_ble_eq_true rfl) ?_
  intro p e s m below meth c A F hr hlk hnm
  refine z_iconst (v := 1) F dX3_all_0 (by decide) ?_
  refine z_aload_n F dX3_all_1 rfl ?_
  refine z_get (ci := 3) (C := RX3) (T := TX3) (N := 6) F 0 5 dX3_all_2 inX3 kfX3_27 rfl rfl rfl (by decide) rfl ?_
  refine z_ishl F dX3_all_5 ?_
  refine z_topi (y := nI (2 ^ nu)) (zb_shl1 nu (by omega)) ?_
  refine z_iconst (v := 1) F dX3_all_6 (by decide) ?_
  refine z_isub F dX3_all_7 ?_
  refine z_topi (y := nI (2 ^ nu - 1)) (pk_sub (Nat.two_pow_pos nu)) ?_
  exact z_iret F hr rfl hlk dX3_all_8 ⟨rfl, rfl⟩ (Nat.le_of_ble_eq_true rfl) (Nat.le_of_ble_eq_true rfl)

set_option maxHeartbeats 4000000 in
set_option maxRecDepth 100000 in
/-- Units.add -/
theorem c_U_add {l : Launch} {D : va_G} {tys : List (ClassId × FieldType)} {hu u1 u2 u3 u4 u5 : Nat} {cA : ClassId} {si we ki ap tg : Nat → Nat} {nu : Nat} (hn : nu < 8) (a b k : Nat) : zMi l yX3_add (zws yX3_add cX3_add 5 (some .int)) { frames := 1, cells := 0, slots := 0, locals := 20 } D zcl ((cA, .int) :: tys) zG [.ref hu, .int (nI a), .int (nI b), .int (nI k)] (wU hu u1 u2 u3 u4 u5 cA si we ki ap tg nu) (fun r1 w2 => r1 = nI nu ∧ w2 = wU hu u1 u2 u3 u4 u5 cA (zu si nu a) (zu we nu b) (zu ki nu k) ap tg (nu + 1)) 0 0 := by
  refine z_ofi (cc := cX3_add) (maxL := 5) (ret := (some .int)) (by decide) rfl (Nat.le_of_ble_eq_true rfl) ?_
  intro p e s m below meth c A F hr hlk hnm
  refine z_aload_n F dX3_add_0 rfl ?_
  refine z_callVi0 F (c_U_isFull (Nat.le_of_lt hn)) 0 rfl rfl (zcwV F.2.2.2.2.1 kcX3_isFull kmX3_31 kiX3_isFull ksX3_isFull knX3 hdX3_isFull rfl rfl ⟨(Nat.le_of_ble_eq_true rfl), (Nat.le_of_ble_eq_true rfl)⟩) dX3_add_1 rfl rfl (Nat.le_of_ble_eq_true rfl) ⟨(Nat.le_of_ble_eq_true rfl), (Nat.le_of_ble_eq_true rfl)⟩ ?_
  rintro r w2 ⟨rfl, rfl⟩
  refine z_if_eq (tgt := 9) F dX3_add_4 (by decide) (fun c4 => ?_) (fun c4 => ?_)
  · refine z_aload_n F dX3_add_9 rfl ?_
    refine z_get (ci := 3) (C := RX3) (T := TX3) (N := 6) F 0 5 dX3_add_10 inX3 kfX3_27 rfl rfl rfl (by decide) rfl ?_
    refine z_istore F dX3_add_13 (by decide) ?_
    refine z_aload_n F dX3_add_15 rfl ?_
    refine z_get (ci := 3) (C := RX3) (T := TX3) (N := 6) F 0 0 dX3_add_16 inX3 kfX3_9 rfl rfl rfl (by decide) rfl ?_
    refine z_iload F dX3_add_19 rfl ?_
    refine z_iload_n F dX3_add_21 rfl ?_
    refine z_iastN F 1 0 _ dX3_add_22 rfl rfl rfl hn (by decide) rfl ?_
    refine z_aload_n F dX3_add_23 rfl ?_
    refine z_get (ci := 3) (C := RX3) (T := TX3) (N := 6) F 0 1 dX3_add_24 inX3 kfX3_15 rfl rfl rfl (by decide) rfl ?_
    refine z_iload F dX3_add_27 rfl ?_
    refine z_iload_n F dX3_add_29 rfl ?_
    refine z_iastN F 2 0 _ dX3_add_30 rfl rfl rfl hn (by decide) rfl ?_
    refine z_aload_n F dX3_add_31 rfl ?_
    refine z_get (ci := 3) (C := RX3) (T := TX3) (N := 6) F 0 2 dX3_add_32 inX3 kfX3_18 rfl rfl rfl (by decide) rfl ?_
    refine z_iload F dX3_add_35 rfl ?_
    refine z_iload_n F dX3_add_37 rfl ?_
    refine z_iastN F 3 0 _ dX3_add_38 rfl rfl rfl hn (by decide) rfl ?_
    refine z_aload_n F dX3_add_39 rfl ?_
    refine z_dup F dX3_add_40 rfl ?_
    refine z_get (ci := 3) (C := RX3) (T := TX3) (N := 6) F 0 5 dX3_add_41 inX3 kfX3_27 rfl rfl rfl (by decide) rfl ?_
    refine z_iconst (v := 1) F dX3_add_44 (by decide) ?_
    refine z_iadd F dX3_add_45 ?_
    refine z_topi (y := nI (nu + 1)) (nI_1 nu) ?_
    refine z_put (ci := 3) (C := RX3) (T := TX3) (N := 6) (ty := .int) F 0 5 dX3_add_46 inX3 tyX3 tyX3_ok nmX3 kfX3_27 rfl rfl rfl (by decide) rfl (by decide +kernel) rfl rfl (Nat.le_of_ble_eq_true rfl) ?_
    refine z_iload F dX3_add_49 rfl ?_
    exact z_iret F hr rfl hlk dX3_add_51 ⟨rfl, rfl⟩ (Nat.le_of_ble_eq_true rfl) (Nat.le_of_ble_eq_true rfl)
  · exact absurd (zB_1.mp c4) (by rw [decide_eq_false (by omega)]; decide)

set_option maxHeartbeats 4000000 in
set_option maxRecDepth 100000 in
/-- Units.reweigh -/
theorem c_U_reweigh {l : Launch} {D : va_G} {tys : List (ClassId × FieldType)} {hu u1 u2 u3 u4 u5 : Nat} {cA : ClassId} {si we ki ap tg : Nat → Nat} {nu : Nat} (hn : nu ≤ 8) (u v : Nat) (hu2 : u < nu) : zMi l yX3_reweigh (zws yX3_reweigh cX3_reweigh 4 (some .int)) { frames := 1, cells := 0, slots := 0, locals := 21 } D zcl ((cA, .int) :: tys) zG [.ref hu, .int (nI u), .int (nI v)] (wU hu u1 u2 u3 u4 u5 cA si we ki ap tg nu) (fun r1 w2 => r1 = nI (we u) ∧ w2 = wU hu u1 u2 u3 u4 u5 cA si (zu we u v) ki ap tg nu) 0 0 := by
  refine z_ofi (cc := cX3_reweigh) (maxL := 4) (ret := (some .int)) (by decide) rfl (Nat.le_of_ble_eq_true rfl) ?_
  intro p e s m below meth c A F hr hlk hnm
  refine z_aload_n F dX3_reweigh_0 rfl ?_
  refine z_iload_n F dX3_reweigh_1 rfl ?_
  refine z_callVi0 F (c_U_has (nI u)) 0 rfl rfl (zcwV F.2.2.2.2.1 kcX3_has kmX3_35 kiX3_has ksX3_has knX3 hdX3_has rfl rfl ⟨(Nat.le_of_ble_eq_true rfl), (Nat.le_of_ble_eq_true rfl)⟩) dX3_reweigh_2 rfl rfl (Nat.le_of_ble_eq_true rfl) ⟨(Nat.le_of_ble_eq_true rfl), (Nat.le_of_ble_eq_true rfl)⟩ ?_
  rintro r w2 ⟨rfl, rfl⟩
  refine z_if_ne (tgt := 10) F dX3_reweigh_5 (by decide) (fun c5 => ?_) (fun c5 => ?_)
  · refine z_aload_n F dX3_reweigh_10 rfl ?_
    refine z_get (ci := 3) (C := RX3) (T := TX3) (N := 6) F 0 1 dX3_reweigh_11 inX3 kfX3_15 rfl rfl rfl (by decide) rfl ?_
    refine z_iload_n F dX3_reweigh_14 rfl ?_
    refine z_ialdN F 2 0 dX3_reweigh_15 rfl rfl rfl (Nat.lt_of_lt_of_le hu2 hn) (by decide) ?_
    refine z_istore_n F dX3_reweigh_16 (by decide) ?_
    refine z_aload_n F dX3_reweigh_17 rfl ?_
    refine z_get (ci := 3) (C := RX3) (T := TX3) (N := 6) F 0 1 dX3_reweigh_18 inX3 kfX3_15 rfl rfl rfl (by decide) rfl ?_
    refine z_iload_n F dX3_reweigh_21 rfl ?_
    refine z_iload_n F dX3_reweigh_22 rfl ?_
    refine z_iastN F 2 0 _ dX3_reweigh_23 rfl rfl rfl (Nat.lt_of_lt_of_le hu2 hn) (by decide) rfl ?_
    refine z_iload_n F dX3_reweigh_24 rfl ?_
    exact z_iret F hr rfl hlk dX3_reweigh_25 ⟨rfl, rfl⟩ (Nat.le_of_ble_eq_true rfl) (Nat.le_of_ble_eq_true rfl)
  · exact absurd (zB_0.mp c5) (by rw [decide_eq_true ((zhas (by omega)).mpr ⟨u, hu2, rfl⟩)]; decide)

set_option maxHeartbeats 4000000 in
set_option maxRecDepth 100000 in
/-- Units.relationOf -/
theorem c_U_relationOf {l : Launch} {D : va_G} {tys : List (ClassId × FieldType)} {hu u1 u2 u3 u4 u5 : Nat} {cA : ClassId} {si we ki ap tg : Nat → Nat} {nu : Nat} (hn : nu ≤ 8) (hb1 : ∀ x, ap x < 2 ^ 31) (hb2 : ∀ x, tg x < 2 ^ 31) (u v : Nat) (hu2 : u < nu) (hv2 : v < nu) : zMi l yX3_relationOf (zws yX3_relationOf cX3_relationOf 3 (some .int)) { frames := 1, cells := 0, slots := 0, locals := 21 } D zcl ((cA, .int) :: tys) zG [.ref hu, .int (nI u), .int (nI v)] (wU hu u1 u2 u3 u4 u5 cA si we ki ap tg nu) (fun r w2 => r = nI (zrel ap tg u v) ∧ w2 = (wU hu u1 u2 u3 u4 u5 cA si we ki ap tg nu)) 0 0 := by
  refine z_ofi (cc := cX3_relationOf) (maxL := 3) (ret := (some .int)) (by decide) rfl (Nat.le_of_ble_eq_true rfl) ?_
  intro p e s m below meth c A F hr hlk hnm
  refine z_aload_n F dX3_relationOf_0 rfl ?_
  refine z_iload_n F dX3_relationOf_1 rfl ?_
  refine z_callVi0 F (c_U_has (nI u)) 0 rfl rfl (zcwV F.2.2.2.2.1 kcX3_has kmX3_35 kiX3_has ksX3_has knX3 hdX3_has rfl rfl ⟨(Nat.le_of_ble_eq_true rfl), (Nat.le_of_ble_eq_true rfl)⟩) dX3_relationOf_2 rfl rfl (Nat.le_of_ble_eq_true rfl) ⟨(Nat.le_of_ble_eq_true rfl), (Nat.le_of_ble_eq_true rfl)⟩ ?_
  rintro r w2 ⟨rfl, rfl⟩
  refine z_if_eq (tgt := 16) F dX3_relationOf_5 (by decide) (fun c5 => ?_) (fun c5 => ?_)
  · exact absurd (zB_0.mp c5) (by rw [decide_eq_true ((zhas (by omega)).mpr ⟨u, hu2, rfl⟩)]; decide)
  · refine z_aload_n F dX3_relationOf_8 rfl ?_
    refine z_iload_n F dX3_relationOf_9 rfl ?_
    refine z_callVi0 F (c_U_has (nI v)) 0 rfl rfl (zcwV F.2.2.2.2.1 kcX3_has kmX3_35 kiX3_has ksX3_has knX3 hdX3_has rfl rfl ⟨(Nat.le_of_ble_eq_true rfl), (Nat.le_of_ble_eq_true rfl)⟩) dX3_relationOf_10 rfl rfl (Nat.le_of_ble_eq_true rfl) ⟨(Nat.le_of_ble_eq_true rfl), (Nat.le_of_ble_eq_true rfl)⟩ ?_
    rintro r w2 ⟨rfl, rfl⟩
    refine z_if_ne (tgt := 18) F dX3_relationOf_13 (by decide) (fun c13 => ?_) (fun c13 => ?_)
    · refine z_aload_n F dX3_relationOf_18 rfl ?_
      refine z_get (ci := 3) (C := RX3) (T := TX3) (N := 6) F 0 3 dX3_relationOf_19 inX3 kfX3_21 rfl rfl rfl (by decide) rfl ?_
      refine z_iload_n F dX3_relationOf_22 rfl ?_
      refine z_ialdN F 4 0 dX3_relationOf_23 rfl rfl rfl (Nat.lt_of_lt_of_le hu2 hn) (by decide) ?_
      refine z_iload_n F dX3_relationOf_24 rfl ?_
      refine z_callSNi0 F (c_holds (ap u) v (hb1 u) (by omega)) (zcnS F.2.2.2.2.1 kcX4_holds (nlX3_39 F.2.2.2.2.2.2.2.1) ktX4_holds knX4 hdX4_holds rfl rfl ⟨(Nat.le_of_ble_eq_true rfl), (Nat.le_of_ble_eq_true rfl)⟩) dX3_relationOf_25 rfl rfl (Nat.le_of_ble_eq_true rfl) ⟨(Nat.le_of_ble_eq_true rfl), (Nat.le_of_ble_eq_true rfl)⟩ ?_
      rintro r w2 ⟨rfl, rfl⟩
      refine z_if_eq (tgt := 33) F dX3_relationOf_28 (by decide) (fun c28 => ?_) (fun c28 => ?_)
      · refine z_aload_n F dX3_relationOf_33 rfl ?_
        refine z_get (ci := 3) (C := RX3) (T := TX3) (N := 6) F 0 4 dX3_relationOf_34 inX3 kfX3_24 rfl rfl rfl (by decide) rfl ?_
        refine z_iload_n F dX3_relationOf_37 rfl ?_
        refine z_ialdN F 5 0 dX3_relationOf_38 rfl rfl rfl (Nat.lt_of_lt_of_le hu2 hn) (by decide) ?_
        refine z_iload_n F dX3_relationOf_39 rfl ?_
        refine z_callSNi0 F (c_holds (tg u) v (hb2 u) (by omega)) (zcnS F.2.2.2.2.1 kcX4_holds (nlX3_39 F.2.2.2.2.2.2.2.1) ktX4_holds knX4 hdX4_holds rfl rfl ⟨(Nat.le_of_ble_eq_true rfl), (Nat.le_of_ble_eq_true rfl)⟩) dX3_relationOf_40 rfl rfl (Nat.le_of_ble_eq_true rfl) ⟨(Nat.le_of_ble_eq_true rfl), (Nat.le_of_ble_eq_true rfl)⟩ ?_
        rintro r w2 ⟨rfl, rfl⟩
        refine z_if_eq (tgt := 50) F dX3_relationOf_43 (by decide) (fun c43 => ?_) (fun c43 => ?_)
        · refine z_iconst (v := 0) F dX3_relationOf_50 (by decide) ?_
          exact z_iret F hr rfl hlk dX3_relationOf_51 ⟨by unfold zrel; rw [zB_0.mp c28, zB_0.mp c43]; rfl, rfl⟩ (Nat.le_of_ble_eq_true rfl) (Nat.le_of_ble_eq_true rfl)
        · refine z_iconst (v := 2) F dX3_relationOf_46 (by decide) ?_
          refine z_goto (tgt := 51) F dX3_relationOf_47 (by decide) ?_
          exact z_iret F hr rfl hlk dX3_relationOf_51 ⟨by unfold zrel; rw [zB_0.mp c28, zB_1.mp c43]; rfl, rfl⟩ (Nat.le_of_ble_eq_true rfl) (Nat.le_of_ble_eq_true rfl)
      · refine z_iconst (v := 1) F dX3_relationOf_31 (by decide) ?_
        exact z_iret F hr rfl hlk dX3_relationOf_32 ⟨by unfold zrel; rw [zB_1.mp c28]; rfl, rfl⟩ (Nat.le_of_ble_eq_true rfl) (Nat.le_of_ble_eq_true rfl)
    · exact absurd (zB_0.mp c13) (by rw [decide_eq_true ((zhas (by omega)).mpr ⟨v, hv2, rfl⟩)]; decide)

set_option maxHeartbeats 4000000 in
set_option maxRecDepth 100000 in
/-- Units.relateOneWay -/
theorem c_U_relateOneWay {l : Launch} {D : va_G} {tys : List (ClassId × FieldType)} {hu u1 u2 u3 u4 u5 : Nat} {cA : ClassId} {si we ki ap tg : Nat → Nat} {nu : Nat} (hn : nu ≤ 8) (f t h : Nat) (hf2 : f < nu) (ht2 : t < nu) (hh : h < 2 ^ 31) : zMv l yX3_relateOneWay (zws yX3_relateOneWay cX3_relateOneWay 5 none) { frames := 1, cells := 0, slots := 0, locals := 21 } D zcl ((cA, .int) :: tys) zG [.ref hu, .int (nI f), .int (nI t), .int (nI h)] (wU hu u1 u2 u3 u4 u5 cA si we ki ap tg nu) (fun w2 => w2 = wU hu u1 u2 u3 u4 u5 cA si we ki (zrl ap f t (decide (h = 1))) (zrl tg f t (decide (h = 2))) nu) 0 0 := by
  refine z_ofv (cc := cX3_relateOneWay) (maxL := 5) (ret := none) (by decide) rfl (Nat.le_of_ble_eq_true rfl) ?_
  intro p e s m below meth c A F hr hlk hnm
  refine z_aload_n F dX3_relateOneWay_0 rfl ?_
  refine z_iload_n F dX3_relateOneWay_1 rfl ?_
  refine z_callVi0 F (c_U_has (nI f)) 0 rfl rfl (zcwV F.2.2.2.2.1 kcX3_has kmX3_35 kiX3_has ksX3_has knX3 hdX3_has rfl rfl ⟨(Nat.le_of_ble_eq_true rfl), (Nat.le_of_ble_eq_true rfl)⟩) dX3_relateOneWay_2 rfl rfl (Nat.le_of_ble_eq_true rfl) ⟨(Nat.le_of_ble_eq_true rfl), (Nat.le_of_ble_eq_true rfl)⟩ ?_
  rintro r w2 ⟨rfl, rfl⟩
  refine z_if_eq (tgt := 16) F dX3_relateOneWay_5 (by decide) (fun c5 => ?_) (fun c5 => ?_)
  · exact absurd (zB_0.mp c5) (by rw [decide_eq_true ((zhas (by omega)).mpr ⟨f, hf2, rfl⟩)]; decide)
  · refine z_aload_n F dX3_relateOneWay_8 rfl ?_
    refine z_iload_n F dX3_relateOneWay_9 rfl ?_
    refine z_callVi0 F (c_U_has (nI t)) 0 rfl rfl (zcwV F.2.2.2.2.1 kcX3_has kmX3_35 kiX3_has ksX3_has knX3 hdX3_has rfl rfl ⟨(Nat.le_of_ble_eq_true rfl), (Nat.le_of_ble_eq_true rfl)⟩) dX3_relateOneWay_10 rfl rfl (Nat.le_of_ble_eq_true rfl) ⟨(Nat.le_of_ble_eq_true rfl), (Nat.le_of_ble_eq_true rfl)⟩ ?_
    rintro r w2 ⟨rfl, rfl⟩
    refine z_if_ne (tgt := 17) F dX3_relateOneWay_13 (by decide) (fun c13 => ?_) (fun c13 => ?_)
    · refine z_iconst (v := 1) F dX3_relateOneWay_17 (by decide) ?_
      refine z_iload_n F dX3_relateOneWay_18 rfl ?_
      refine z_ishl F dX3_relateOneWay_19 ?_
      refine z_topi (y := nI (2 ^ t)) (zb_shl1 t (by omega)) ?_
      refine z_istore F dX3_relateOneWay_20 (by decide) ?_
      refine z_aload_n F dX3_relateOneWay_22 rfl ?_
      refine z_get (ci := 3) (C := RX3) (T := TX3) (N := 6) F 0 3 dX3_relateOneWay_23 inX3 kfX3_21 rfl rfl rfl (by decide) rfl ?_
      refine z_iload_n F dX3_relateOneWay_26 rfl ?_
      refine z_dup2 F dX3_relateOneWay_27 rfl rfl ?_
      refine z_ialdN F 4 0 dX3_relateOneWay_28 rfl rfl rfl (Nat.lt_of_lt_of_le hf2 hn) (by decide) ?_
      refine z_iload F dX3_relateOneWay_29 rfl ?_
      refine z_iconst (v := (-1)) F dX3_relateOneWay_31 (by decide) ?_
      refine z_ixor F dX3_relateOneWay_32 ?_
      refine z_iand F dX3_relateOneWay_33 ?_
      refine z_topi (y := nI (zd (ap f) (2 ^ t))) (zb_nand _ _) ?_
      refine z_iastN F 4 0 _ dX3_relateOneWay_34 rfl rfl rfl (Nat.lt_of_lt_of_le hf2 hn) (by decide) rfl ?_
      refine z_aload_n F dX3_relateOneWay_35 rfl ?_
      refine z_get (ci := 3) (C := RX3) (T := TX3) (N := 6) F 0 4 dX3_relateOneWay_36 inX3 kfX3_24 rfl rfl rfl (by decide) rfl ?_
      refine z_iload_n F dX3_relateOneWay_39 rfl ?_
      refine z_dup2 F dX3_relateOneWay_40 rfl rfl ?_
      refine z_ialdN F 5 0 dX3_relateOneWay_41 rfl rfl rfl (Nat.lt_of_lt_of_le hf2 hn) (by decide) ?_
      refine z_iload F dX3_relateOneWay_42 rfl ?_
      refine z_iconst (v := (-1)) F dX3_relateOneWay_44 (by decide) ?_
      refine z_ixor F dX3_relateOneWay_45 ?_
      refine z_iand F dX3_relateOneWay_46 ?_
      refine z_topi (y := nI (zd (tg f) (2 ^ t))) (zb_nand _ _) ?_
      refine z_iastN F 5 0 _ dX3_relateOneWay_47 rfl rfl rfl (Nat.lt_of_lt_of_le hf2 hn) (by decide) rfl ?_
      refine z_iload_n F dX3_relateOneWay_48 rfl ?_
      refine z_iconst (v := 1) F dX3_relateOneWay_49 (by decide) ?_
      refine z_icmp_ne (tgt := 67) F dX3_relateOneWay_50 (by decide) (fun c50 => ?_) (fun c50 => ?_)
      · refine z_iload_n F dX3_relateOneWay_67 rfl ?_
        refine z_iconst (v := 2) F dX3_relateOneWay_68 (by decide) ?_
        refine z_icmp_ne (tgt := 83) F dX3_relateOneWay_69 (by decide) (fun c69 => ?_) (fun c69 => ?_)
        · exact z_vret F hr hlk dX3_relateOneWay_83 (by have e1 : ¬ h = 1 := fun q => c50 (by rw [q]; rfl); have e2 : ¬ h = 2 := fun q => c69 (by rw [q]; rfl); rw [decide_eq_false e1, decide_eq_false e2]; rfl) (Nat.le_of_ble_eq_true rfl) (Nat.le_of_ble_eq_true rfl)
        · refine z_aload_n F dX3_relateOneWay_72 rfl ?_
          refine z_get (ci := 3) (C := RX3) (T := TX3) (N := 6) F 0 4 dX3_relateOneWay_73 inX3 kfX3_24 rfl rfl rfl (by decide) rfl ?_
          refine z_iload_n F dX3_relateOneWay_76 rfl ?_
          refine z_dup2 F dX3_relateOneWay_77 rfl rfl ?_
          refine z_ialdN F 5 0 dX3_relateOneWay_78 rfl rfl rfl (Nat.lt_of_lt_of_le hf2 hn) (by decide) ?_
          refine z_iload F dX3_relateOneWay_79 rfl ?_
          refine z_ior F dX3_relateOneWay_81 ?_
          refine z_topi (y := nI (zu tg f (zd (tg f) (2 ^ t)) f ||| 2 ^ t)) (zb_or _ _) ?_
          refine z_iastN F 5 0 _ dX3_relateOneWay_82 rfl rfl rfl (Nat.lt_of_lt_of_le hf2 hn) (by decide) rfl ?_
          exact z_vret F hr hlk dX3_relateOneWay_83 (by have e : h = 2 := (nI_eq hh (by omega)).mp c69; subst e; rw [show decide (2 = 2) = true from rfl, zrl_t]; rfl) (Nat.le_of_ble_eq_true rfl) (Nat.le_of_ble_eq_true rfl)
      · refine z_aload_n F dX3_relateOneWay_53 rfl ?_
        refine z_get (ci := 3) (C := RX3) (T := TX3) (N := 6) F 0 3 dX3_relateOneWay_54 inX3 kfX3_21 rfl rfl rfl (by decide) rfl ?_
        refine z_iload_n F dX3_relateOneWay_57 rfl ?_
        refine z_dup2 F dX3_relateOneWay_58 rfl rfl ?_
        refine z_ialdN F 4 0 dX3_relateOneWay_59 rfl rfl rfl (Nat.lt_of_lt_of_le hf2 hn) (by decide) ?_
        refine z_iload F dX3_relateOneWay_60 rfl ?_
        refine z_ior F dX3_relateOneWay_62 ?_
        refine z_topi (y := nI (zu ap f (zd (ap f) (2 ^ t)) f ||| 2 ^ t)) (zb_or _ _) ?_
        refine z_iastN F 4 0 _ dX3_relateOneWay_63 rfl rfl rfl (Nat.lt_of_lt_of_le hf2 hn) (by decide) rfl ?_
        refine z_goto (tgt := 83) F dX3_relateOneWay_64 (by decide) ?_
        exact z_vret F hr hlk dX3_relateOneWay_83 (by have e : h = 1 := (nI_eq hh (by omega)).mp c50; subst e; rw [show decide (1 = 1) = true from rfl, zrl_t]; rfl) (Nat.le_of_ble_eq_true rfl) (Nat.le_of_ble_eq_true rfl)
    · exact absurd (zB_0.mp c13) (by rw [decide_eq_true ((zhas (by omega)).mpr ⟨t, ht2, rfl⟩)]; decide)

set_option maxHeartbeats 4000000 in
set_option maxRecDepth 100000 in
/-- Units.relate -/
theorem c_U_relate {l : Launch} {D : va_G} {tys : List (ClassId × FieldType)} {hu u1 u2 u3 u4 u5 : Nat} {cA : ClassId} {si we ki ap tg : Nat → Nat} {nu : Nat} (hn : nu ≤ 8) (u v h : Nat) (hu2 : u < nu) (hv2 : v < nu) (hh : h < 2 ^ 31) : zMv l yX3_relate (zws yX3_relate cX3_relate 4 none) { frames := 2, cells := 0, slots := 0, locals := 45 } D zcl ((cA, .int) :: tys) zG [.ref hu, .int (nI u), .int (nI v), .int (nI h)] (wU hu u1 u2 u3 u4 u5 cA si we ki ap tg nu) (fun w2 => w2 = wU hu u1 u2 u3 u4 u5 cA si we ki (zrl (zrl ap u v (decide (h = 1))) v u (decide (h = 1))) (zrl (zrl tg u v (decide (h = 2))) v u (decide (h = 2))) nu) 0 0 := by
  refine z_ofv (cc := cX3_relate) (maxL := 4) (ret := none) (by decide) rfl (Nat.le_of_ble_eq_true rfl) ?_
  intro p e s m below meth c A F hr hlk hnm
  refine z_aload_n F dX3_relate_0 rfl ?_
  refine z_iload_n F dX3_relate_1 rfl ?_
  refine z_iload_n F dX3_relate_2 rfl ?_
  refine z_iload_n F dX3_relate_3 rfl ?_
  refine z_callVv0 F (c_U_relateOneWay hn u v h hu2 hv2 hh) 0 rfl rfl (zcwV F.2.2.2.2.1 kcX3_relateOneWay kmX3_43 kiX3_relateOneWay ksX3_relateOneWay knX3 hdX3_relateOneWay rfl rfl ⟨(Nat.le_of_ble_eq_true rfl), (Nat.le_of_ble_eq_true rfl)⟩) dX3_relate_4 rfl rfl (Nat.le_of_ble_eq_true rfl) ⟨(Nat.le_of_ble_eq_true rfl), (Nat.le_of_ble_eq_true rfl)⟩ ?_
  rintro w2 rfl
  refine z_aload_n F dX3_relate_7 rfl ?_
  refine z_iload_n F dX3_relate_8 rfl ?_
  refine z_iload_n F dX3_relate_9 rfl ?_
  refine z_iload_n F dX3_relate_10 rfl ?_
  refine z_callVv0 F (c_U_relateOneWay hn v u h hv2 hu2 hh) 0 rfl rfl (zcwV F.2.2.2.2.1 kcX3_relateOneWay kmX3_43 kiX3_relateOneWay ksX3_relateOneWay knX3 hdX3_relateOneWay rfl rfl ⟨(Nat.le_of_ble_eq_true rfl), (Nat.le_of_ble_eq_true rfl)⟩) dX3_relate_11 rfl rfl (Nat.le_of_ble_eq_true rfl) ⟨(Nat.le_of_ble_eq_true rfl), (Nat.le_of_ble_eq_true rfl)⟩ ?_
  rintro w2 rfl
  exact z_vret F hr hlk dX3_relate_14 rfl (Nat.le_of_ble_eq_true rfl) (Nat.le_of_ble_eq_true rfl)

set_option maxHeartbeats 4000000 in
set_option maxRecDepth 100000 in
/-- Units.sumOf -/
theorem c_U_sum_s {l : Launch} {D : va_G} {tys : List (ClassId × FieldType)} {hu u1 u2 u3 u4 u5 : Nat} {cA : ClassId} {si we ki ap tg : Nat → Nat} {nu : Nat} (hn : nu ≤ 8) (a : Nat) (ha : a < 2 ^ 31) : zMi l yX3_sumOf (zws yX3_sumOf cX3_sumOf 5 (some .int)) { frames := 1, cells := 0, slots := 0, locals := 21 } D zcl ((cA, .int) :: tys) zG [.ref hu, .ref u1, .int (nI a)] (wU hu u1 u2 u3 u4 u5 cA si we ki ap tg nu) (fun r w2 => r = nI (zsum si a nu) ∧ w2 = (wU hu u1 u2 u3 u4 u5 cA si we ki ap tg nu)) 0 0 := by
  refine z_ofi (cc := cX3_sumOf) (maxL := 5) (ret := (some .int)) (by decide) rfl (Nat.le_of_ble_eq_true rfl) ?_
  intro p e s m below meth c A F hr hlk hnm
  have loop : ∀ (n j : Nat), j ≤ nu → nu + 1 ≤ j + n → zW p l e (headSpec (zws yX3_sumOf cX3_sumOf 5 (some .int)) { frames := 1, cells := 0, slots := 0, locals := 21 }).room s m [.ref hu, .ref u1, .int (nI a)].toArray below meth c 5 D zcl A 0 0 (MQ below (va_Qi (fun r w2 => r = nI (zsum si a nu) ∧ w2 = (wU hu u1 u2 u3 u4 u5 cA si we ki ap tg nu)) (zEnd D zcl A) A) [.ref hu, .ref u1, .int (nI a)].toArray s 0 0 A) (wU hu u1 u2 u3 u4 u5 cA si we ki ap tg nu) [(0, .ref hu), (1, .ref u1), (2, .int (nI a)), (3, .int (nI (zsum si a j))), (4, .int (nI j))] 5 [] := by
    intro n
    induction n with
    | zero => intro j h1 h2; omega
    | succ n ih =>
      intro j hj1 hj2
      refine z_iload F dX3_sumOf_5 rfl ?_
      refine z_aload_n F dX3_sumOf_7 rfl ?_
      refine z_get (ci := 3) (C := RX3) (T := TX3) (N := 6) F 0 5 dX3_sumOf_8 inX3 kfX3_27 rfl rfl rfl (by decide) rfl ?_
      refine z_icmp_ge (tgt := 36) F dX3_sumOf_11 (by decide) (fun c11 => ?_) (fun c11 => ?_)
      · have ej := zge_end hj1 (by omega) c11
        refine z_iload_n F dX3_sumOf_36 rfl ?_
        exact z_iret F hr rfl hlk dX3_sumOf_37 ⟨by rw [ej], rfl⟩ (Nat.le_of_ble_eq_true rfl) (Nat.le_of_ble_eq_true rfl)
      · have hlt := zge_on (by omega) hj1 c11
        refine z_iload_n F dX3_sumOf_14 rfl ?_
        refine z_iload F dX3_sumOf_15 rfl ?_
        refine z_callSNi0 F (c_holds a j ha (by omega)) (zcnS F.2.2.2.2.1 kcX4_holds (nlX3_39 F.2.2.2.2.2.2.2.1) ktX4_holds knX4 hdX4_holds rfl rfl ⟨(Nat.le_of_ble_eq_true rfl), (Nat.le_of_ble_eq_true rfl)⟩) dX3_sumOf_17 rfl rfl (Nat.le_of_ble_eq_true rfl) ⟨(Nat.le_of_ble_eq_true rfl), (Nat.le_of_ble_eq_true rfl)⟩ ?_
        rintro r w2 ⟨rfl, rfl⟩
        refine z_if_eq (tgt := 30) F dX3_sumOf_20 (by decide) (fun c20 => ?_) (fun c20 => ?_)
        · refine z_iinc (v := nI (j + 1)) F dX3_sumOf_30 rfl (nI_1 j) (by decide) ?_
          refine z_goto (tgt := 5) F dX3_sumOf_33 (by decide) ?_
          have h9 := ih (j + 1) (by omega) (by omega)
          rw [zsum_f (zB_0.mp c20)] at h9
          exact z_lv rfl h9
        · refine z_iload_n F dX3_sumOf_23 rfl ?_
          refine z_aload_n F dX3_sumOf_24 rfl ?_
          refine z_iload F dX3_sumOf_25 rfl ?_
          refine z_ialdN F 1 0 dX3_sumOf_27 rfl rfl rfl (Nat.lt_of_lt_of_le hlt hn) (by decide) ?_
          refine z_iadd F dX3_sumOf_28 ?_
          refine z_topi (y := nI (zsum si a j + si j)) (nI_add _ _) ?_
          refine z_istore_n F dX3_sumOf_29 (by decide) ?_
          refine z_iinc (v := nI (j + 1)) F dX3_sumOf_30 rfl (nI_1 j) (by decide) ?_
          refine z_goto (tgt := 5) F dX3_sumOf_33 (by decide) ?_
          have h9 := ih (j + 1) (by omega) (by omega)
          rw [zsum_t (zB_1.mp c20)] at h9
          exact z_lv rfl h9
  refine z_iconst (v := 0) F dX3_sumOf_0 (by decide) ?_
  refine z_istore_n F dX3_sumOf_1 (by decide) ?_
  refine z_iconst (v := 0) F dX3_sumOf_2 (by decide) ?_
  refine z_istore F dX3_sumOf_3 (by decide) ?_
  exact z_lv rfl (loop (nu + 1) 0 (by omega) (by omega))

set_option maxHeartbeats 4000000 in
set_option maxRecDepth 100000 in
/-- Units.sumOf -/
theorem c_U_sum_w {l : Launch} {D : va_G} {tys : List (ClassId × FieldType)} {hu u1 u2 u3 u4 u5 : Nat} {cA : ClassId} {si we ki ap tg : Nat → Nat} {nu : Nat} (hn : nu ≤ 8) (a : Nat) (ha : a < 2 ^ 31) : zMi l yX3_sumOf (zws yX3_sumOf cX3_sumOf 5 (some .int)) { frames := 1, cells := 0, slots := 0, locals := 21 } D zcl ((cA, .int) :: tys) zG [.ref hu, .ref u2, .int (nI a)] (wU hu u1 u2 u3 u4 u5 cA si we ki ap tg nu) (fun r w2 => r = nI (zsum we a nu) ∧ w2 = (wU hu u1 u2 u3 u4 u5 cA si we ki ap tg nu)) 0 0 := by
  refine z_ofi (cc := cX3_sumOf) (maxL := 5) (ret := (some .int)) (by decide) rfl (Nat.le_of_ble_eq_true rfl) ?_
  intro p e s m below meth c A F hr hlk hnm
  have loop : ∀ (n j : Nat), j ≤ nu → nu + 1 ≤ j + n → zW p l e (headSpec (zws yX3_sumOf cX3_sumOf 5 (some .int)) { frames := 1, cells := 0, slots := 0, locals := 21 }).room s m [.ref hu, .ref u2, .int (nI a)].toArray below meth c 5 D zcl A 0 0 (MQ below (va_Qi (fun r w2 => r = nI (zsum we a nu) ∧ w2 = (wU hu u1 u2 u3 u4 u5 cA si we ki ap tg nu)) (zEnd D zcl A) A) [.ref hu, .ref u2, .int (nI a)].toArray s 0 0 A) (wU hu u1 u2 u3 u4 u5 cA si we ki ap tg nu) [(0, .ref hu), (1, .ref u2), (2, .int (nI a)), (3, .int (nI (zsum we a j))), (4, .int (nI j))] 5 [] := by
    intro n
    induction n with
    | zero => intro j h1 h2; omega
    | succ n ih =>
      intro j hj1 hj2
      refine z_iload F dX3_sumOf_5 rfl ?_
      refine z_aload_n F dX3_sumOf_7 rfl ?_
      refine z_get (ci := 3) (C := RX3) (T := TX3) (N := 6) F 0 5 dX3_sumOf_8 inX3 kfX3_27 rfl rfl rfl (by decide) rfl ?_
      refine z_icmp_ge (tgt := 36) F dX3_sumOf_11 (by decide) (fun c11 => ?_) (fun c11 => ?_)
      · have ej := zge_end hj1 (by omega) c11
        refine z_iload_n F dX3_sumOf_36 rfl ?_
        exact z_iret F hr rfl hlk dX3_sumOf_37 ⟨by rw [ej], rfl⟩ (Nat.le_of_ble_eq_true rfl) (Nat.le_of_ble_eq_true rfl)
      · have hlt := zge_on (by omega) hj1 c11
        refine z_iload_n F dX3_sumOf_14 rfl ?_
        refine z_iload F dX3_sumOf_15 rfl ?_
        refine z_callSNi0 F (c_holds a j ha (by omega)) (zcnS F.2.2.2.2.1 kcX4_holds (nlX3_39 F.2.2.2.2.2.2.2.1) ktX4_holds knX4 hdX4_holds rfl rfl ⟨(Nat.le_of_ble_eq_true rfl), (Nat.le_of_ble_eq_true rfl)⟩) dX3_sumOf_17 rfl rfl (Nat.le_of_ble_eq_true rfl) ⟨(Nat.le_of_ble_eq_true rfl), (Nat.le_of_ble_eq_true rfl)⟩ ?_
        rintro r w2 ⟨rfl, rfl⟩
        refine z_if_eq (tgt := 30) F dX3_sumOf_20 (by decide) (fun c20 => ?_) (fun c20 => ?_)
        · refine z_iinc (v := nI (j + 1)) F dX3_sumOf_30 rfl (nI_1 j) (by decide) ?_
          refine z_goto (tgt := 5) F dX3_sumOf_33 (by decide) ?_
          have h9 := ih (j + 1) (by omega) (by omega)
          rw [zsum_f (zB_0.mp c20)] at h9
          exact z_lv rfl h9
        · refine z_iload_n F dX3_sumOf_23 rfl ?_
          refine z_aload_n F dX3_sumOf_24 rfl ?_
          refine z_iload F dX3_sumOf_25 rfl ?_
          refine z_ialdN F 2 0 dX3_sumOf_27 rfl rfl rfl (Nat.lt_of_lt_of_le hlt hn) (by decide) ?_
          refine z_iadd F dX3_sumOf_28 ?_
          refine z_topi (y := nI (zsum we a j + we j)) (nI_add _ _) ?_
          refine z_istore_n F dX3_sumOf_29 (by decide) ?_
          refine z_iinc (v := nI (j + 1)) F dX3_sumOf_30 rfl (nI_1 j) (by decide) ?_
          refine z_goto (tgt := 5) F dX3_sumOf_33 (by decide) ?_
          have h9 := ih (j + 1) (by omega) (by omega)
          rw [zsum_t (zB_1.mp c20)] at h9
          exact z_lv rfl h9
  refine z_iconst (v := 0) F dX3_sumOf_0 (by decide) ?_
  refine z_istore_n F dX3_sumOf_1 (by decide) ?_
  refine z_iconst (v := 0) F dX3_sumOf_2 (by decide) ?_
  refine z_istore F dX3_sumOf_3 (by decide) ?_
  exact z_lv rfl (loop (nu + 1) 0 (by omega) (by omega))

set_option maxHeartbeats 4000000 in
set_option maxRecDepth 100000 in
/-- Units.sizeOf -/
theorem c_U_sizeOf {l : Launch} {D : va_G} {tys : List (ClassId × FieldType)} {hu u1 u2 u3 u4 u5 : Nat} {cA : ClassId} {si we ki ap tg : Nat → Nat} {nu : Nat} (hn : nu ≤ 8) (a : Nat) (ha : a < 2 ^ 31) : zMi l yX3_sizeOf (zws yX3_sizeOf cX3_sizeOf 2 (some .int)) { frames := 2, cells := 0, slots := 0, locals := 45 } D zcl ((cA, .int) :: tys) zG [.ref hu, .int (nI a)] (wU hu u1 u2 u3 u4 u5 cA si we ki ap tg nu) (fun r w2 => r = nI (zsum si a nu) ∧ w2 = (wU hu u1 u2 u3 u4 u5 cA si we ki ap tg nu)) 0 0 := by
  refine z_ofi (cc := cX3_sizeOf) (maxL := 2) (ret := (some .int)) (by decide) rfl (Nat.le_of_ble_eq_true rfl) ?_
  intro p e s m below meth c A F hr hlk hnm
  refine z_aload_n F dX3_sizeOf_0 rfl ?_
  refine z_aload_n F dX3_sizeOf_1 rfl ?_
  refine z_get (ci := 3) (C := RX3) (T := TX3) (N := 6) F 0 0 dX3_sizeOf_2 inX3 kfX3_9 rfl rfl rfl (by decide) rfl ?_
  refine z_iload_n F dX3_sizeOf_5 rfl ?_
  refine z_callVi0 F (c_U_sum_s hn a ha) 0 rfl rfl (zcwV F.2.2.2.2.1 kcX3_sumOf kmX3_51 kiX3_sumOf ksX3_sumOf knX3 hdX3_sumOf rfl rfl ⟨(Nat.le_of_ble_eq_true rfl), (Nat.le_of_ble_eq_true rfl)⟩) dX3_sizeOf_6 rfl rfl (Nat.le_of_ble_eq_true rfl) ⟨(Nat.le_of_ble_eq_true rfl), (Nat.le_of_ble_eq_true rfl)⟩ ?_
  rintro r w2 ⟨rfl, rfl⟩
  exact z_iret F hr rfl hlk dX3_sizeOf_9 ⟨rfl, rfl⟩ (Nat.le_of_ble_eq_true rfl) (Nat.le_of_ble_eq_true rfl)

set_option maxHeartbeats 4000000 in
set_option maxRecDepth 100000 in
/-- Units.weightOf -/
theorem c_U_weightOf {l : Launch} {D : va_G} {tys : List (ClassId × FieldType)} {hu u1 u2 u3 u4 u5 : Nat} {cA : ClassId} {si we ki ap tg : Nat → Nat} {nu : Nat} (hn : nu ≤ 8) (a : Nat) (ha : a < 2 ^ 31) : zMi l yX3_weightOf (zws yX3_weightOf cX3_weightOf 2 (some .int)) { frames := 2, cells := 0, slots := 0, locals := 45 } D zcl ((cA, .int) :: tys) zG [.ref hu, .int (nI a)] (wU hu u1 u2 u3 u4 u5 cA si we ki ap tg nu) (fun r w2 => r = nI (zsum we a nu) ∧ w2 = (wU hu u1 u2 u3 u4 u5 cA si we ki ap tg nu)) 0 0 := by
  refine z_ofi (cc := cX3_weightOf) (maxL := 2) (ret := (some .int)) (by decide) rfl (Nat.le_of_ble_eq_true rfl) ?_
  intro p e s m below meth c A F hr hlk hnm
  refine z_aload_n F dX3_weightOf_0 rfl ?_
  refine z_aload_n F dX3_weightOf_1 rfl ?_
  refine z_get (ci := 3) (C := RX3) (T := TX3) (N := 6) F 0 1 dX3_weightOf_2 inX3 kfX3_15 rfl rfl rfl (by decide) rfl ?_
  refine z_iload_n F dX3_weightOf_5 rfl ?_
  refine z_callVi0 F (c_U_sum_w hn a ha) 0 rfl rfl (zcwV F.2.2.2.2.1 kcX3_sumOf kmX3_51 kiX3_sumOf ksX3_sumOf knX3 hdX3_sumOf rfl rfl ⟨(Nat.le_of_ble_eq_true rfl), (Nat.le_of_ble_eq_true rfl)⟩) dX3_weightOf_6 rfl rfl (Nat.le_of_ble_eq_true rfl) ⟨(Nat.le_of_ble_eq_true rfl), (Nat.le_of_ble_eq_true rfl)⟩ ?_
  rintro r w2 ⟨rfl, rfl⟩
  exact z_iret F hr rfl hlk dX3_weightOf_9 ⟨rfl, rfl⟩ (Nat.le_of_ble_eq_true rfl) (Nat.le_of_ble_eq_true rfl)

set_option maxHeartbeats 4000000 in
set_option maxRecDepth 100000 in
/-- Units.kindsOf -/
theorem c_U_kindsOf {l : Launch} {D : va_G} {tys : List (ClassId × FieldType)} {hu u1 u2 u3 u4 u5 : Nat} {cA : ClassId} {si we ki ap tg : Nat → Nat} {nu : Nat} (hn : nu ≤ 8) (hk : ∀ x, ki x < 31) (a : Nat) (ha : a < 2 ^ 31) : zMi l yX3_kindsOf (zws yX3_kindsOf cX3_kindsOf 4 (some .int)) { frames := 1, cells := 0, slots := 0, locals := 21 } D zcl ((cA, .int) :: tys) zG [.ref hu, .int (nI a)] (wU hu u1 u2 u3 u4 u5 cA si we ki ap tg nu) (fun r w2 => r = nI (zuni (fun x => 2 ^ ki x) a nu) ∧ w2 = (wU hu u1 u2 u3 u4 u5 cA si we ki ap tg nu)) 0 0 := by
  refine z_ofi (cc := cX3_kindsOf) (maxL := 4) (ret := (some .int)) (by decide) rfl (Nat.le_of_ble_eq_true rfl) ?_
  intro p e s m below meth c A F hr hlk hnm
  have loop : ∀ (n j : Nat), j ≤ nu → nu + 1 ≤ j + n → zW p l e (headSpec (zws yX3_kindsOf cX3_kindsOf 4 (some .int)) { frames := 1, cells := 0, slots := 0, locals := 21 }).room s m [.ref hu, .int (nI a)].toArray below meth c 4 D zcl A 0 0 (MQ below (va_Qi (fun r w2 => r = nI (zuni (fun x => 2 ^ ki x) a nu) ∧ w2 = (wU hu u1 u2 u3 u4 u5 cA si we ki ap tg nu)) (zEnd D zcl A) A) [.ref hu, .int (nI a)].toArray s 0 0 A) (wU hu u1 u2 u3 u4 u5 cA si we ki ap tg nu) [(0, .ref hu), (1, .int (nI a)), (2, .int (nI (zuni (fun x => 2 ^ ki x) a j))), (3, .int (nI j))] 4 [] := by
    intro n
    induction n with
    | zero => intro j h1 h2; omega
    | succ n ih =>
      intro j hj1 hj2
      refine z_iload_n F dX3_kindsOf_4 rfl ?_
      refine z_aload_n F dX3_kindsOf_5 rfl ?_
      refine z_get (ci := 3) (C := RX3) (T := TX3) (N := 6) F 0 5 dX3_kindsOf_6 inX3 kfX3_27 rfl rfl rfl (by decide) rfl ?_
      refine z_icmp_ge (tgt := 37) F dX3_kindsOf_9 (by decide) (fun c9 => ?_) (fun c9 => ?_)
      · have ej := zge_end hj1 (by omega) c9
        refine z_iload_n F dX3_kindsOf_37 rfl ?_
        exact z_iret F hr rfl hlk dX3_kindsOf_38 ⟨by rw [ej], rfl⟩ (Nat.le_of_ble_eq_true rfl) (Nat.le_of_ble_eq_true rfl)
      · have hlt := zge_on (by omega) hj1 c9
        refine z_iload_n F dX3_kindsOf_12 rfl ?_
        refine z_iload_n F dX3_kindsOf_13 rfl ?_
        refine z_callSNi0 F (c_holds a j ha (by omega)) (zcnS F.2.2.2.2.1 kcX4_holds (nlX3_39 F.2.2.2.2.2.2.2.1) ktX4_holds knX4 hdX4_holds rfl rfl ⟨(Nat.le_of_ble_eq_true rfl), (Nat.le_of_ble_eq_true rfl)⟩) dX3_kindsOf_14 rfl rfl (Nat.le_of_ble_eq_true rfl) ⟨(Nat.le_of_ble_eq_true rfl), (Nat.le_of_ble_eq_true rfl)⟩ ?_
        rintro r w2 ⟨rfl, rfl⟩
        refine z_if_eq (tgt := 31) F dX3_kindsOf_17 (by decide) (fun c17 => ?_) (fun c17 => ?_)
        · refine z_iinc (v := nI (j + 1)) F dX3_kindsOf_31 rfl (nI_1 j) (by decide) ?_
          refine z_goto (tgt := 4) F dX3_kindsOf_34 (by decide) ?_
          have h9 := ih (j + 1) (by omega) (by omega)
          rw [zuni_f (zB_0.mp c17)] at h9
          exact z_lv rfl h9
        · refine z_iload_n F dX3_kindsOf_20 rfl ?_
          refine z_iconst (v := 1) F dX3_kindsOf_21 (by decide) ?_
          refine z_aload_n F dX3_kindsOf_22 rfl ?_
          refine z_get (ci := 3) (C := RX3) (T := TX3) (N := 6) F 0 2 dX3_kindsOf_23 inX3 kfX3_18 rfl rfl rfl (by decide) rfl ?_
          refine z_iload_n F dX3_kindsOf_26 rfl ?_
          refine z_ialdN F 3 0 dX3_kindsOf_27 rfl rfl rfl (Nat.lt_of_lt_of_le hlt hn) (by decide) ?_
          refine z_ishl F dX3_kindsOf_28 ?_
          refine z_topi (y := nI (2 ^ ki j)) (zb_shl1 (ki j) (hk j)) ?_
          refine z_ior F dX3_kindsOf_29 ?_
          refine z_topi (y := nI (zuni (fun x => 2 ^ ki x) a j ||| 2 ^ ki j)) (zb_or _ _) ?_
          refine z_istore_n F dX3_kindsOf_30 (by decide) ?_
          refine z_iinc (v := nI (j + 1)) F dX3_kindsOf_31 rfl (nI_1 j) (by decide) ?_
          refine z_goto (tgt := 4) F dX3_kindsOf_34 (by decide) ?_
          have h9 := ih (j + 1) (by omega) (by omega)
          rw [zuni_t (zB_1.mp c17)] at h9
          exact z_lv rfl h9
  refine z_iconst (v := 0) F dX3_kindsOf_0 (by decide) ?_
  refine z_istore_n F dX3_kindsOf_1 (by decide) ?_
  refine z_iconst (v := 0) F dX3_kindsOf_2 (by decide) ?_
  refine z_istore_n F dX3_kindsOf_3 (by decide) ?_
  exact z_lv rfl (loop (nu + 1) 0 (by omega) (by omega))

set_option maxHeartbeats 4000000 in
set_option maxRecDepth 100000 in
/-- Units.anyApart -/
theorem c_U_anyApart {l : Launch} {D : va_G} {tys : List (ClassId × FieldType)} {hu u1 u2 u3 u4 u5 : Nat} {cA : ClassId} {si we ki ap tg : Nat → Nat} {nu : Nat} (hn : nu ≤ 8) (hb : ∀ x, ap x < 2 ^ 31) (a : Nat) (ha : a < 2 ^ 31) : zMi l yX3_anyApart (zws yX3_anyApart cX3_anyApart 3 (some .boolean)) { frames := 1, cells := 0, slots := 0, locals := 21 } D zcl ((cA, .int) :: tys) zG [.ref hu, .int (nI a)] (wU hu u1 u2 u3 u4 u5 cA si we ki ap tg nu) (fun r w2 => r = zB (zany (fun x => a.testBit x && decide (¬ ap x &&& a = 0)) nu) ∧ w2 = (wU hu u1 u2 u3 u4 u5 cA si we ki ap tg nu)) 0 0 := by
  refine z_ofi (cc := cX3_anyApart) (maxL := 3) (ret := (some .boolean)) (by decide) rfl (Nat.le_of_ble_eq_true rfl) ?_
  intro p e s m below meth c A F hr hlk hnm
  have loop : ∀ (n j : Nat), j ≤ nu → nu + 1 ≤ j + n → zany (fun x => a.testBit x && decide (¬ ap x &&& a = 0)) j = false → zW p l e (headSpec (zws yX3_anyApart cX3_anyApart 3 (some .boolean)) { frames := 1, cells := 0, slots := 0, locals := 21 }).room s m [.ref hu, .int (nI a)].toArray below meth c 3 D zcl A 0 0 (MQ below (va_Qi (fun r w2 => r = zB (zany (fun x => a.testBit x && decide (¬ ap x &&& a = 0)) nu) ∧ w2 = (wU hu u1 u2 u3 u4 u5 cA si we ki ap tg nu)) (zEnd D zcl A) A) [.ref hu, .int (nI a)].toArray s 0 0 A) (wU hu u1 u2 u3 u4 u5 cA si we ki ap tg nu) [(0, .ref hu), (1, .int (nI a)), (2, .int (nI j))] 2 [] := by
    intro n
    induction n with
    | zero => intro j h1 h2; omega
    | succ n ih =>
      intro j hj1 hj2 hz
      refine z_iload_n F dX3_anyApart_2 rfl ?_
      refine z_aload_n F dX3_anyApart_3 rfl ?_
      refine z_get (ci := 3) (C := RX3) (T := TX3) (N := 6) F 0 5 dX3_anyApart_4 inX3 kfX3_27 rfl rfl rfl (by decide) rfl ?_
      refine z_icmp_ge (tgt := 37) F dX3_anyApart_7 (by decide) (fun c7 => ?_) (fun c7 => ?_)
      · have ej := zge_end hj1 (by omega) c7
        refine z_iconst (v := 0) F dX3_anyApart_37 (by decide) ?_
        exact z_iret F hr rfl hlk dX3_anyApart_38 ⟨by rw [← ej, hz]; rfl, rfl⟩ (Nat.le_of_ble_eq_true rfl) (Nat.le_of_ble_eq_true rfl)
      · have hlt := zge_on (by omega) hj1 c7
        refine z_iload_n F dX3_anyApart_10 rfl ?_
        refine z_iload_n F dX3_anyApart_11 rfl ?_
        refine z_callSNi0 F (c_holds a j ha (by omega)) (zcnS F.2.2.2.2.1 kcX4_holds (nlX3_39 F.2.2.2.2.2.2.2.1) ktX4_holds knX4 hdX4_holds rfl rfl ⟨(Nat.le_of_ble_eq_true rfl), (Nat.le_of_ble_eq_true rfl)⟩) dX3_anyApart_12 rfl rfl (Nat.le_of_ble_eq_true rfl) ⟨(Nat.le_of_ble_eq_true rfl), (Nat.le_of_ble_eq_true rfl)⟩ ?_
        rintro r w2 ⟨rfl, rfl⟩
        refine z_if_eq (tgt := 31) F dX3_anyApart_15 (by decide) (fun c15 => ?_) (fun c15 => ?_)
        · refine z_iinc (v := nI (j + 1)) F dX3_anyApart_31 rfl (nI_1 j) (by decide) ?_
          refine z_goto (tgt := 2) F dX3_anyApart_34 (by decide) ?_
          exact z_lv rfl (ih (j + 1) (by omega) (by omega) (zany_s hz (by rw [zB_0.mp c15]; rfl)))
        · refine z_aload_n F dX3_anyApart_18 rfl ?_
          refine z_get (ci := 3) (C := RX3) (T := TX3) (N := 6) F 0 3 dX3_anyApart_19 inX3 kfX3_21 rfl rfl rfl (by decide) rfl ?_
          refine z_iload_n F dX3_anyApart_22 rfl ?_
          refine z_ialdN F 4 0 dX3_anyApart_23 rfl rfl rfl (Nat.lt_of_lt_of_le hlt hn) (by decide) ?_
          refine z_iload_n F dX3_anyApart_24 rfl ?_
          refine z_iand F dX3_anyApart_25 ?_
          refine z_topi (y := nI (ap j &&& a)) (zb_and _ _) ?_
          refine z_if_eq (tgt := 31) F dX3_anyApart_26 (by decide) (fun c26 => ?_) (fun c26 => ?_)
          · refine z_iinc (v := nI (j + 1)) F dX3_anyApart_31 rfl (nI_1 j) (by decide) ?_
            refine z_goto (tgt := 2) F dX3_anyApart_34 (by decide) ?_
            exact z_lv rfl (ih (j + 1) (by omega) (by omega) (zany_s hz (by rw [decide_eq_false (fun q => q ((zb_eq0 (Nat.lt_of_le_of_lt Nat.and_le_left (hb j))).mp c26)), Bool.and_false])))
          · refine z_iconst (v := 1) F dX3_anyApart_29 (by decide) ?_
            exact z_iret F hr rfl hlk dX3_anyApart_30 ⟨by rw [zany_t hlt (by rw [zB_1.mp c15, decide_eq_true (p := ¬ ap j &&& a = 0) (fun q => c26 ((zb_eq0 (Nat.lt_of_le_of_lt Nat.and_le_left (hb j))).mpr q))]; rfl)]; rfl, rfl⟩ (Nat.le_of_ble_eq_true rfl) (Nat.le_of_ble_eq_true rfl)
  refine z_iconst (v := 0) F dX3_anyApart_0 (by decide) ?_
  refine z_istore_n F dX3_anyApart_1 (by decide) ?_
  exact z_lv rfl (loop (nu + 1) 0 (by omega) (by omega) rfl)

set_option maxHeartbeats 4000000 in
set_option maxRecDepth 100000 in
/-- Units.isWhole -/
theorem c_U_isWhole {l : Launch} {D : va_G} {tys : List (ClassId × FieldType)} {hu u1 u2 u3 u4 u5 : Nat} {cA : ClassId} {si we ki ap tg : Nat → Nat} {nu : Nat} (hn : nu ≤ 8) (hb : ∀ x, tg x < 2 ^ 31) (a : Nat) (ha : a < 2 ^ 31) : zMi l yX3_isWhole (zws yX3_isWhole cX3_isWhole 3 (some .boolean)) { frames := 1, cells := 0, slots := 0, locals := 21 } D zcl ((cA, .int) :: tys) zG [.ref hu, .int (nI a)] (wU hu u1 u2 u3 u4 u5 cA si we ki ap tg nu) (fun r w2 => r = zB (!zany (fun x => a.testBit x && decide (¬ zd (tg x) a = 0)) nu) ∧ w2 = (wU hu u1 u2 u3 u4 u5 cA si we ki ap tg nu)) 0 0 := by
  refine z_ofi (cc := cX3_isWhole) (maxL := 3) (ret := (some .boolean)) (by decide) rfl (Nat.le_of_ble_eq_true rfl) ?_
  intro p e s m below meth c A F hr hlk hnm
  have loop : ∀ (n j : Nat), j ≤ nu → nu + 1 ≤ j + n → zany (fun x => a.testBit x && decide (¬ zd (tg x) a = 0)) j = false → zW p l e (headSpec (zws yX3_isWhole cX3_isWhole 3 (some .boolean)) { frames := 1, cells := 0, slots := 0, locals := 21 }).room s m [.ref hu, .int (nI a)].toArray below meth c 3 D zcl A 0 0 (MQ below (va_Qi (fun r w2 => r = zB (!zany (fun x => a.testBit x && decide (¬ zd (tg x) a = 0)) nu) ∧ w2 = (wU hu u1 u2 u3 u4 u5 cA si we ki ap tg nu)) (zEnd D zcl A) A) [.ref hu, .int (nI a)].toArray s 0 0 A) (wU hu u1 u2 u3 u4 u5 cA si we ki ap tg nu) [(0, .ref hu), (1, .int (nI a)), (2, .int (nI j))] 2 [] := by
    intro n
    induction n with
    | zero => intro j h1 h2; omega
    | succ n ih =>
      intro j hj1 hj2 hz
      refine z_iload_n F dX3_isWhole_2 rfl ?_
      refine z_aload_n F dX3_isWhole_3 rfl ?_
      refine z_get (ci := 3) (C := RX3) (T := TX3) (N := 6) F 0 5 dX3_isWhole_4 inX3 kfX3_27 rfl rfl rfl (by decide) rfl ?_
      refine z_icmp_ge (tgt := 39) F dX3_isWhole_7 (by decide) (fun c7 => ?_) (fun c7 => ?_)
      · have ej := zge_end hj1 (by omega) c7
        refine z_iconst (v := 1) F dX3_isWhole_39 (by decide) ?_
        exact z_iret F hr rfl hlk dX3_isWhole_40 ⟨by rw [← ej, hz]; rfl, rfl⟩ (Nat.le_of_ble_eq_true rfl) (Nat.le_of_ble_eq_true rfl)
      · have hlt := zge_on (by omega) hj1 c7
        refine z_iload_n F dX3_isWhole_10 rfl ?_
        refine z_iload_n F dX3_isWhole_11 rfl ?_
        refine z_callSNi0 F (c_holds a j ha (by omega)) (zcnS F.2.2.2.2.1 kcX4_holds (nlX3_39 F.2.2.2.2.2.2.2.1) ktX4_holds knX4 hdX4_holds rfl rfl ⟨(Nat.le_of_ble_eq_true rfl), (Nat.le_of_ble_eq_true rfl)⟩) dX3_isWhole_12 rfl rfl (Nat.le_of_ble_eq_true rfl) ⟨(Nat.le_of_ble_eq_true rfl), (Nat.le_of_ble_eq_true rfl)⟩ ?_
        rintro r w2 ⟨rfl, rfl⟩
        refine z_if_eq (tgt := 33) F dX3_isWhole_15 (by decide) (fun c15 => ?_) (fun c15 => ?_)
        · refine z_iinc (v := nI (j + 1)) F dX3_isWhole_33 rfl (nI_1 j) (by decide) ?_
          refine z_goto (tgt := 2) F dX3_isWhole_36 (by decide) ?_
          exact z_lv rfl (ih (j + 1) (by omega) (by omega) (zany_s hz (by rw [zB_0.mp c15]; rfl)))
        · refine z_aload_n F dX3_isWhole_18 rfl ?_
          refine z_get (ci := 3) (C := RX3) (T := TX3) (N := 6) F 0 4 dX3_isWhole_19 inX3 kfX3_24 rfl rfl rfl (by decide) rfl ?_
          refine z_iload_n F dX3_isWhole_22 rfl ?_
          refine z_ialdN F 5 0 dX3_isWhole_23 rfl rfl rfl (Nat.lt_of_lt_of_le hlt hn) (by decide) ?_
          refine z_iload_n F dX3_isWhole_24 rfl ?_
          refine z_iconst (v := (-1)) F dX3_isWhole_25 (by decide) ?_
          refine z_ixor F dX3_isWhole_26 ?_
          refine z_iand F dX3_isWhole_27 ?_
          refine z_topi (y := nI (zd (tg j) a)) (zb_nand _ _) ?_
          refine z_if_eq (tgt := 33) F dX3_isWhole_28 (by decide) (fun c28 => ?_) (fun c28 => ?_)
          · refine z_iinc (v := nI (j + 1)) F dX3_isWhole_33 rfl (nI_1 j) (by decide) ?_
            refine z_goto (tgt := 2) F dX3_isWhole_36 (by decide) ?_
            exact z_lv rfl (ih (j + 1) (by omega) (by omega) (zany_s hz (by rw [decide_eq_false (fun q => q ((zb_eq0 (Nat.lt_of_le_of_lt (zd_le _ _) (hb j))).mp c28)), Bool.and_false])))
          · refine z_iconst (v := 0) F dX3_isWhole_31 (by decide) ?_
            exact z_iret F hr rfl hlk dX3_isWhole_32 ⟨by rw [zany_t hlt (by rw [zB_1.mp c15, decide_eq_true (p := ¬ zd (tg j) a = 0) (fun q => c28 ((zb_eq0 (Nat.lt_of_le_of_lt (zd_le _ _) (hb j))).mpr q))]; rfl)]; rfl, rfl⟩ (Nat.le_of_ble_eq_true rfl) (Nat.le_of_ble_eq_true rfl)
  refine z_iconst (v := 0) F dX3_isWhole_0 (by decide) ?_
  refine z_istore_n F dX3_isWhole_1 (by decide) ?_
  exact z_lv rfl (loop (nu + 1) 0 (by omega) (by omega) rfl)

theorem zrel_lt (ap tg : Nat → Nat) (u v : Nat) : zrel ap tg u v < 2 ^ 31 := by
  unfold zrel
  cases (ap u).testBit v <;> cases (tg u).testBit v <;> decide

set_option maxHeartbeats 4000000 in
set_option maxRecDepth 100000 in
/-- Units.pairsOf -/
theorem c_U_pairsOf {l : Launch} {D : va_G} {tys : List (ClassId × FieldType)} {hu u1 u2 u3 u4 u5 : Nat} {cA : ClassId} {si we ki ap tg : Nat → Nat} {nu : Nat} (hn : nu ≤ 8) (hb1 : ∀ x, ap x < 2 ^ 31) (hb2 : ∀ x, tg x < 2 ^ 31) (h : Nat) (hh : h < 2 ^ 31) : zMi l yX3_pairsOf (zws yX3_pairsOf cX3_pairsOf 5 (some .int)) { frames := 2, cells := 0, slots := 0, locals := 43 } D zcl ((cA, .int) :: tys) zG [.ref hu, .int (nI h)] (wU hu u1 u2 u3 u4 u5 cA si we ki ap tg nu) (fun r w2 => r = nI (zadd (fun y => zcin (fun x => decide (zrel ap tg y x = h)) (y + 1) nu) nu) ∧ w2 = (wU hu u1 u2 u3 u4 u5 cA si we ki ap tg nu)) 0 0 := by
  refine z_ofi (cc := cX3_pairsOf) (maxL := 5) (ret := (some .int)) (by decide) rfl (Nat.le_of_ble_eq_true rfl) ?_
  intro p e s m below meth c A F hr hlk hnm
  have loop : ∀ (n u : Nat), u ≤ nu → nu + 1 ≤ u + n → zW p l e (headSpec (zws yX3_pairsOf cX3_pairsOf 5 (some .int)) { frames := 2, cells := 0, slots := 0, locals := 43 }).room s m [.ref hu, .int (nI h)].toArray below meth c 5 D zcl A 0 0 (MQ below (va_Qi (fun r w2 => r = nI (zadd (fun y => zcin (fun x => decide (zrel ap tg y x = h)) (y + 1) nu) nu) ∧ w2 = (wU hu u1 u2 u3 u4 u5 cA si we ki ap tg nu)) (zEnd D zcl A) A) [.ref hu, .int (nI h)].toArray s 0 0 A) (wU hu u1 u2 u3 u4 u5 cA si we ki ap tg nu) [(0, .ref hu), (1, .int (nI h)), (2, .int (nI (zadd (fun y => zcin (fun x => decide (zrel ap tg y x = h)) (y + 1) nu) u))), (3, .int (nI u))] 4 [] := by
    intro n
    induction n with
    | zero => intro u h1 h2; omega
    | succ n ih =>
      intro u hu1 hu3
      refine z_iload_n F dX3_pairsOf_4 rfl ?_
      refine z_aload_n F dX3_pairsOf_5 rfl ?_
      refine z_get (ci := 3) (C := RX3) (T := TX3) (N := 6) F 0 5 dX3_pairsOf_6 inX3 kfX3_27 rfl rfl rfl (by decide) rfl ?_
      refine z_icmp_ge (tgt := 52) F dX3_pairsOf_9 (by decide) (fun c9 => ?_) (fun c9 => ?_)
      · have ej := zge_end hu1 (by omega) c9
        refine z_iload_n F dX3_pairsOf_52 rfl ?_
        exact z_iret F hr rfl hlk dX3_pairsOf_53 ⟨by rw [ej], rfl⟩ (Nat.le_of_ble_eq_true rfl) (Nat.le_of_ble_eq_true rfl)
      · have hlt := zge_on (by omega) hu1 c9
        refine z_iload_n F dX3_pairsOf_12 rfl ?_
        refine z_iconst (v := 1) F dX3_pairsOf_13 (by decide) ?_
        refine z_iadd F dX3_pairsOf_14 ?_
        refine z_topi (y := nI (u + 1)) (nI_1 u) ?_
        refine z_istore F dX3_pairsOf_15 (by decide) ?_
        have inner : ∀ (n2 v : Nat), u + 1 ≤ v → v ≤ nu → nu + 1 ≤ v + n2 → zW p l e (headSpec (zws yX3_pairsOf cX3_pairsOf 5 (some .int)) { frames := 2, cells := 0, slots := 0, locals := 43 }).room s m [.ref hu, .int (nI h)].toArray below meth c 5 D zcl A 0 0 (MQ below (va_Qi (fun r w2 => r = nI (zadd (fun y => zcin (fun x => decide (zrel ap tg y x = h)) (y + 1) nu) nu) ∧ w2 = (wU hu u1 u2 u3 u4 u5 cA si we ki ap tg nu)) (zEnd D zcl A) A) [.ref hu, .int (nI h)].toArray s 0 0 A) (wU hu u1 u2 u3 u4 u5 cA si we ki ap tg nu) [(0, .ref hu), (1, .int (nI h)), (2, .int (nI (zadd (fun y => zcin (fun x => decide (zrel ap tg y x = h)) (y + 1) nu) u + zcin (fun x => decide (zrel ap tg u x = h)) (u + 1) v))), (3, .int (nI u)), (4, .int (nI v))] 17 [] := by
          intro n2
          induction n2 with
          | zero => intro v h1 h2 h3; omega
          | succ n2 ih2 =>
            intro v hv1 hv2 hv3
            refine z_iload F dX3_pairsOf_17 rfl ?_
            refine z_aload_n F dX3_pairsOf_19 rfl ?_
            refine z_get (ci := 3) (C := RX3) (T := TX3) (N := 6) F 0 5 dX3_pairsOf_20 inX3 kfX3_27 rfl rfl rfl (by decide) rfl ?_
            refine z_icmp_ge (tgt := 46) F dX3_pairsOf_23 (by decide) (fun c23 => ?_) (fun c23 => ?_)
            · have ev := zge_end hv2 (by omega) c23
              refine z_iinc (v := nI (u + 1)) F dX3_pairsOf_46 rfl (nI_1 u) (by decide) ?_
              refine z_goto (tgt := 4) F dX3_pairsOf_49 (by decide) ?_
              subst ev
              exact z_lv rfl (ih (u + 1) (by omega) (by omega))
            · have hlv := zge_on (by omega) hv2 c23
              refine z_aload_n F dX3_pairsOf_26 rfl ?_
              refine z_iload_n F dX3_pairsOf_27 rfl ?_
              refine z_iload F dX3_pairsOf_28 rfl ?_
              refine z_callVi0 F (c_U_relationOf hn hb1 hb2 u v hlt hlv) 0 rfl rfl (zcwV F.2.2.2.2.1 kcX3_relationOf kmX3_47 kiX3_relationOf ksX3_relationOf knX3 hdX3_relationOf rfl rfl ⟨(Nat.le_of_ble_eq_true rfl), (Nat.le_of_ble_eq_true rfl)⟩) dX3_pairsOf_30 rfl rfl (Nat.le_of_ble_eq_true rfl) ⟨(Nat.le_of_ble_eq_true rfl), (Nat.le_of_ble_eq_true rfl)⟩ ?_
              rintro r w2 ⟨rfl, rfl⟩
              refine z_iload_n F dX3_pairsOf_33 rfl ?_
              refine z_icmp_ne (tgt := 40) F dX3_pairsOf_34 (by decide) (fun c34 => ?_) (fun c34 => ?_)
              · refine z_iinc (v := nI (v + 1)) F dX3_pairsOf_40 rfl (nI_1 v) (by decide) ?_
                refine z_goto (tgt := 17) F dX3_pairsOf_43 (by decide) ?_
                have h9 := ih2 (v + 1) (by omega) (by omega) (by omega)
                rw [zcin_f (decide_eq_false (fun q => c34 (by rw [q])))] at h9
                exact z_lv rfl h9
              · refine z_iinc (v := nI (zadd (fun y => zcin (fun x => decide (zrel ap tg y x = h)) (y + 1) nu) u + (zcin (fun x => decide (zrel ap tg u x = h)) (u + 1) v + 1))) F dX3_pairsOf_37 rfl (by rw [← Nat.add_assoc]; exact nI_1 _) (by decide) ?_
                refine z_iinc (v := nI (v + 1)) F dX3_pairsOf_40 rfl (nI_1 v) (by decide) ?_
                refine z_goto (tgt := 17) F dX3_pairsOf_43 (by decide) ?_
                have h9 := ih2 (v + 1) (by omega) (by omega) (by omega)
                rw [zcin_t hv1 (decide_eq_true ((nI_eq (zrel_lt ap tg u v) hh).mp c34))] at h9
                exact z_lv rfl h9
        have h9 := inner (nu + 1) (u + 1) (by omega) (by omega) (by omega)
        rw [zcin_0 _ (u + 1) (u + 1) (Nat.le_refl _)] at h9
        exact z_lv rfl h9
  refine z_iconst (v := 0) F dX3_pairsOf_0 (by decide) ?_
  refine z_istore_n F dX3_pairsOf_1 (by decide) ?_
  refine z_iconst (v := 0) F dX3_pairsOf_2 (by decide) ?_
  refine z_istore_n F dX3_pairsOf_3 (by decide) ?_
  exact z_lv rfl (loop (nu + 1) 0 (by omega) (by omega))

set_option maxHeartbeats 4000000 in
set_option maxRecDepth 100000 in
/-- Units.companyOf -/
theorem c_U_companyOf {l : Launch} {D : va_G} {tys : List (ClassId × FieldType)} {hu u1 u2 u3 u4 u5 : Nat} {cA : ClassId} {si we ki ap tg : Nat → Nat} {nu : Nat} (hn : nu ≤ 8) (hb : ∀ x, tg x < 2 ^ 8) (u : Nat) (hu2 : u < nu) : zMi l yX3_companyOf (zws yX3_companyOf cX3_companyOf 5 (some .int)) { frames := 1, cells := 0, slots := 0, locals := 21 } D zcl ((cA, .int) :: tys) zG [.ref hu, .int (nI u)] (wU hu u1 u2 u3 u4 u5 cA si we ki ap tg nu) (fun r w2 => r = nI (zco tg nu u nu) ∧ w2 = (wU hu u1 u2 u3 u4 u5 cA si we ki ap tg nu)) 0 0 := by
  refine z_ofi (cc := cX3_companyOf) (maxL := 5) (ret := (some .int)) (by decide) rfl (Nat.le_of_ble_eq_true rfl) ?_
  intro p e s m below meth c A F hr hlk hnm
  have loop : ∀ (n r : Nat), r ≤ nu → nu + 1 ≤ r + n → zW p l e (headSpec (zws yX3_companyOf cX3_companyOf 5 (some .int)) { frames := 1, cells := 0, slots := 0, locals := 21 }).room s m [.ref hu, .int (nI u)].toArray below meth c 5 D zcl A 0 0 (MQ below (va_Qi (fun r w2 => r = nI (zco tg nu u nu) ∧ w2 = (wU hu u1 u2 u3 u4 u5 cA si we ki ap tg nu)) (zEnd D zcl A) A) [.ref hu, .int (nI u)].toArray s 0 0 A) (wU hu u1 u2 u3 u4 u5 cA si we ki ap tg nu) [(0, .ref hu), (1, .int (nI u)), (2, .int (nI (zco tg nu u r))), (3, .int (nI r))] 16 [] := by
    intro n
    induction n with
    | zero => intro r h1 h2; omega
    | succ n ih =>
      intro r hr1 hr3
      refine z_iload_n F dX3_companyOf_16 rfl ?_
      refine z_aload_n F dX3_companyOf_17 rfl ?_
      refine z_get (ci := 3) (C := RX3) (T := TX3) (N := 6) F 0 5 dX3_companyOf_18 inX3 kfX3_27 rfl rfl rfl (by decide) rfl ?_
      refine z_icmp_ge (tgt := 67) F dX3_companyOf_21 (by decide) (fun c21 => ?_) (fun c21 => ?_)
      · have ej := zge_end hr1 (by omega) c21
        refine z_iload_n F dX3_companyOf_67 rfl ?_
        exact z_iret F hr rfl hlk dX3_companyOf_68 ⟨by rw [ej], rfl⟩ (Nat.le_of_ble_eq_true rfl) (Nat.le_of_ble_eq_true rfl)
      · have hlt := zge_on (by omega) hr1 c21
        refine z_iconst (v := 0) F dX3_companyOf_24 (by decide) ?_
        refine z_istore F dX3_companyOf_25 (by decide) ?_
        have inner : ∀ (n2 v : Nat), v ≤ nu → nu + 1 ≤ v + n2 → zW p l e (headSpec (zws yX3_companyOf cX3_companyOf 5 (some .int)) { frames := 1, cells := 0, slots := 0, locals := 21 }).room s m [.ref hu, .int (nI u)].toArray below meth c 5 D zcl A 0 0 (MQ below (va_Qi (fun r w2 => r = nI (zco tg nu u nu) ∧ w2 = (wU hu u1 u2 u3 u4 u5 cA si we ki ap tg nu)) (zEnd D zcl A) A) [.ref hu, .int (nI u)].toArray s 0 0 A) (wU hu u1 u2 u3 u4 u5 cA si we ki ap tg nu) [(0, .ref hu), (1, .int (nI u)), (2, .int (nI (zci tg (zco tg nu u r) v))), (3, .int (nI r)), (4, .int (nI v))] 27 [] := by
          intro n2
          induction n2 with
          | zero => intro v h1 h2; omega
          | succ n2 ih2 =>
            intro v hv2 hv3
            refine z_iload F dX3_companyOf_27 rfl ?_
            refine z_aload_n F dX3_companyOf_29 rfl ?_
            refine z_get (ci := 3) (C := RX3) (T := TX3) (N := 6) F 0 5 dX3_companyOf_30 inX3 kfX3_27 rfl rfl rfl (by decide) rfl ?_
            refine z_icmp_ge (tgt := 61) F dX3_companyOf_33 (by decide) (fun c33 => ?_) (fun c33 => ?_)
            · have ev := zge_end hv2 (by omega) c33
              refine z_iinc (v := nI (r + 1)) F dX3_companyOf_61 rfl (nI_1 r) (by decide) ?_
              refine z_goto (tgt := 16) F dX3_companyOf_64 (by decide) ?_
              subst ev
              exact z_lv rfl (ih (r + 1) (by omega) (by omega))
            · have hlv := zge_on (by omega) hv2 c33
              refine z_iload_n F dX3_companyOf_36 rfl ?_
              refine z_iload F dX3_companyOf_37 rfl ?_
              refine z_callSNi0 F (c_holds (zci tg (zco tg nu u r) v) v (Nat.lt_trans (zci_lt hb (zco_lt hb (by omega) r) v) (by decide)) (by omega)) (zcnS F.2.2.2.2.1 kcX4_holds (nlX3_39 F.2.2.2.2.2.2.2.1) ktX4_holds knX4 hdX4_holds rfl rfl ⟨(Nat.le_of_ble_eq_true rfl), (Nat.le_of_ble_eq_true rfl)⟩) dX3_companyOf_39 rfl rfl (Nat.le_of_ble_eq_true rfl) ⟨(Nat.le_of_ble_eq_true rfl), (Nat.le_of_ble_eq_true rfl)⟩ ?_
              rintro r2 w2 ⟨rfl, rfl⟩
              refine z_if_eq (tgt := 55) F dX3_companyOf_42 (by decide) (fun c42 => ?_) (fun c42 => ?_)
              · refine z_iinc (v := nI (v + 1)) F dX3_companyOf_55 rfl (nI_1 v) (by decide) ?_
                refine z_goto (tgt := 27) F dX3_companyOf_58 (by decide) ?_
                have h9 := ih2 (v + 1) (by omega) (by omega)
                rw [zci_f (zB_0.mp c42)] at h9
                exact z_lv rfl h9
              · refine z_iload_n F dX3_companyOf_45 rfl ?_
                refine z_aload_n F dX3_companyOf_46 rfl ?_
                refine z_get (ci := 3) (C := RX3) (T := TX3) (N := 6) F 0 4 dX3_companyOf_47 inX3 kfX3_24 rfl rfl rfl (by decide) rfl ?_
                refine z_iload F dX3_companyOf_50 rfl ?_
                refine z_ialdN F 5 0 dX3_companyOf_52 rfl rfl rfl (Nat.lt_of_lt_of_le hlv hn) (by decide) ?_
                refine z_ior F dX3_companyOf_53 ?_
                refine z_topi (y := nI (zci tg (zco tg nu u r) v ||| tg v)) (zb_or _ _) ?_
                refine z_istore_n F dX3_companyOf_54 (by decide) ?_
                refine z_iinc (v := nI (v + 1)) F dX3_companyOf_55 rfl (nI_1 v) (by decide) ?_
                refine z_goto (tgt := 27) F dX3_companyOf_58 (by decide) ?_
                have h9 := ih2 (v + 1) (by omega) (by omega)
                rw [zci_t (zB_1.mp c42)] at h9
                exact z_lv rfl h9
        exact z_lv rfl (inner (nu + 1) 0 (by omega) (by omega))
  refine z_aload_n F dX3_companyOf_0 rfl ?_
  refine z_iload_n F dX3_companyOf_1 rfl ?_
  refine z_callVi0 F (c_U_has (nI u)) 0 rfl rfl (zcwV F.2.2.2.2.1 kcX3_has kmX3_35 kiX3_has ksX3_has knX3 hdX3_has rfl rfl ⟨(Nat.le_of_ble_eq_true rfl), (Nat.le_of_ble_eq_true rfl)⟩) dX3_companyOf_2 rfl rfl (Nat.le_of_ble_eq_true rfl) ⟨(Nat.le_of_ble_eq_true rfl), (Nat.le_of_ble_eq_true rfl)⟩ ?_
  rintro r w2 ⟨rfl, rfl⟩
  refine z_if_ne (tgt := 10) F dX3_companyOf_5 (by decide) (fun c5 => ?_) (fun c5 => ?_)
  · refine z_iconst (v := 1) F dX3_companyOf_10 (by decide) ?_
    refine z_iload_n F dX3_companyOf_11 rfl ?_
    refine z_ishl F dX3_companyOf_12 ?_
    refine z_topi (y := nI (2 ^ u)) (zb_shl1 u (by omega)) ?_
    refine z_istore_n F dX3_companyOf_13 (by decide) ?_
    refine z_iconst (v := 0) F dX3_companyOf_14 (by decide) ?_
    refine z_istore_n F dX3_companyOf_15 (by decide) ?_
    exact z_lv rfl (loop (nu + 1) 0 (by omega) (by omega))
  · exact absurd (zB_0.mp c5) (by rw [decide_eq_true ((zhas (by omega)).mpr ⟨u, hu2, rfl⟩)]; decide)
