set_option maxHeartbeats 4000000 in
set_option maxRecDepth 100000 in
/-- Choice.clear -/
theorem c_H_clear {l : Launch} {D : va_G} {tys : List (ClassId × FieldType)} {hd d1 d2 : Nat} {cA : ClassId} {bn us : Nat → Nat} {nh ct : Nat} {mk ex : Bool} : zMv l yX1_clear (zws yX1_clear cX1_clear 1 none) { frames := 0, cells := 0, slots := 0, locals := 0 } D zcl ((cA, .int) :: tys) zG [.ref hd] (wH hd d1 d2 cA bn us nh ct mk ex) (fun w2 => w2 = wH hd d1 d2 cA bn us 0 0 false false) 0 0 := by
  refine z_ofv (cc := cX1_clear) (maxL := 1) (ret := none) (by decide) rfl (Nat.le_of_ble_eq_true rfl) ?_
  intro p e s m below meth c A F hr hlk hnm
  refine z_aload_n F dX1_clear_0 rfl ?_
  refine z_iconst (v := 0) F dX1_clear_1 (by decide) ?_
  refine z_put (ci := 1) (C := RX1) (T := TX1) (N := 6) (ty := .int) F 0 2 dX1_clear_2 inX1 tyX1 tyX1_ok nmX1 kfX1_18 rfl rfl rfl (by decide) rfl (by decide +kernel) rfl rfl (Nat.le_of_ble_eq_true rfl) ?_
  refine z_aload_n F dX1_clear_5 rfl ?_
  refine z_iconst (v := 0) F dX1_clear_6 (by decide) ?_
  refine z_put (ci := 1) (C := RX1) (T := TX1) (N := 6) (ty := .int) F 0 3 dX1_clear_7 inX1 tyX1 tyX1_ok nmX1 kfX1_22 rfl rfl rfl (by decide) rfl (by decide +kernel) rfl rfl (Nat.le_of_ble_eq_true rfl) ?_
  refine z_aload_n F dX1_clear_10 rfl ?_
  refine z_iconst (v := 0) F dX1_clear_11 (by decide) ?_
  refine z_put (ci := 1) (C := RX1) (T := TX1) (N := 6) (ty := .boolean) F 0 4 dX1_clear_12 inX1 tyX1 tyX1_ok nmX1 kfX1_25 rfl rfl rfl (by decide) rfl (by decide +kernel) rfl rfl (Nat.le_of_ble_eq_true rfl) ?_
  refine z_aload_n F dX1_clear_15 rfl ?_
  refine z_iconst (v := 0) F dX1_clear_16 (by decide) ?_
  refine z_put (ci := 1) (C := RX1) (T := TX1) (N := 6) (ty := .boolean) F 0 5 dX1_clear_17 inX1 tyX1 tyX1_ok nmX1 kfX1_29 rfl rfl rfl (by decide) rfl (by decide +kernel) rfl rfl (Nat.le_of_ble_eq_true rfl) ?_
  exact z_vret F hr hlk dX1_clear_20 rfl (Nat.le_of_ble_eq_true rfl) (Nat.le_of_ble_eq_true rfl)

set_option maxHeartbeats 4000000 in
set_option maxRecDepth 100000 in
/-- Choice.finish -/
theorem c_H_finish {l : Launch} {D : va_G} {tys : List (ClassId × FieldType)} {hd d1 d2 : Nat} {cA : ClassId} {bn us : Nat → Nat} {nh ct : Nat} {mk ex : Bool} (b : Bool) : zMv l yX1_finish (zws yX1_finish cX1_finish 2 none) { frames := 0, cells := 0, slots := 0, locals := 0 } D zcl ((cA, .int) :: tys) zG [.ref hd, .int (zB b)] (wH hd d1 d2 cA bn us nh ct mk ex) (fun w2 => w2 = wH hd d1 d2 cA bn us nh ct true b) 0 0 := by
  refine z_ofv (cc := cX1_finish) (maxL := 2) (ret := none) (by decide) rfl (Nat.le_of_ble_eq_true rfl) ?_
  intro p e s m below meth c A F hr hlk hnm
  refine z_aload_n F dX1_finish_0 rfl ?_
  refine z_iconst (v := 1) F dX1_finish_1 (by decide) ?_
  refine z_put (ci := 1) (C := RX1) (T := TX1) (N := 6) (ty := .boolean) F 0 4 dX1_finish_2 inX1 tyX1 tyX1_ok nmX1 kfX1_25 rfl rfl rfl (by decide) rfl (by decide +kernel) rfl rfl (Nat.le_of_ble_eq_true rfl) ?_
  refine z_aload_n F dX1_finish_5 rfl ?_
  refine z_iload_n F dX1_finish_6 rfl ?_
  refine z_put (ci := 1) (C := RX1) (T := TX1) (N := 6) (ty := .boolean) F 0 5 dX1_finish_7 inX1 tyX1 tyX1_ok nmX1 kfX1_29 rfl rfl rfl (by decide) rfl (by decide +kernel) (zB_nar b) (zB_fit b) (Nat.le_of_ble_eq_true rfl) ?_
  exact z_vret F hr hlk dX1_finish_10 rfl (Nat.le_of_ble_eq_true rfl) (Nat.le_of_ble_eq_true rfl)

set_option maxHeartbeats 4000000 in
set_option maxRecDepth 100000 in
/-- Choice.has -/
theorem c_H_has {l : Launch} {D : va_G} {tys : List (ClassId × FieldType)} {hd d1 d2 : Nat} {cA : ClassId} {bn us : Nat → Nat} {nh ct : Nat} {mk ex : Bool} (b : Int32) : zMi l yX1_has (zws yX1_has cX1_has 2 (some .boolean)) { frames := 0, cells := 0, slots := 0, locals := 0 } D zcl ((cA, .int) :: tys) zG [.ref hd, .int b] (wH hd d1 d2 cA bn us nh ct mk ex) (fun r w2 => r = zB (decide (0 ≤ b ∧ b < nI nh)) ∧ w2 = (wH hd d1 d2 cA bn us nh ct mk ex)) 0 0 := by
  refine z_ofi (cc := cX1_has) (maxL := 2) (ret := (some .boolean)) (by decide) rfl (Nat.le_of_ble_eq_true rfl) ?_
  intro p e s m below meth c A F hr hlk hnm
  refine z_iload_n F dX1_has_0 rfl ?_
  refine z_if_lt (tgt := 16) F dX1_has_1 (by decide) (fun c1 => ?_) (fun c1 => ?_)
  · refine z_iconst (v := 0) F dX1_has_16 (by decide) ?_
    exact z_iret F hr rfl hlk dX1_has_17 ⟨zhas_f (fun q => zlt_nge c1 q.1), rfl⟩ (Nat.le_of_ble_eq_true rfl) (Nat.le_of_ble_eq_true rfl)
  · refine z_iload_n F dX1_has_4 rfl ?_
    refine z_aload_n F dX1_has_5 rfl ?_
    refine z_get (ci := 1) (C := RX1) (T := TX1) (N := 6) F 0 2 dX1_has_6 inX1 kfX1_18 rfl rfl rfl (by decide) rfl ?_
    refine z_icmp_ge (tgt := 16) F dX1_has_9 (by decide) (fun c9 => ?_) (fun c9 => ?_)
    · refine z_iconst (v := 0) F dX1_has_16 (by decide) ?_
      exact z_iret F hr rfl hlk dX1_has_17 ⟨zhas_f (fun q => zlt_nge q.2 c9), rfl⟩ (Nat.le_of_ble_eq_true rfl) (Nat.le_of_ble_eq_true rfl)
    · refine z_iconst (v := 1) F dX1_has_12 (by decide) ?_
      refine z_goto (tgt := 17) F dX1_has_13 (by decide) ?_
      exact z_iret F hr rfl hlk dX1_has_17 ⟨zhas_t ⟨znlt_ge c1, znle_lt c9⟩, rfl⟩ (Nat.le_of_ble_eq_true rfl) (Nat.le_of_ble_eq_true rfl)

set_option maxHeartbeats 4000000 in
set_option maxRecDepth 100000 in
/-- Choice.append -/
theorem c_H_append {l : Launch} {D : va_G} {tys : List (ClassId × FieldType)} {hd d1 d2 : Nat} {cA : ClassId} {bn us : Nat → Nat} {nh ct : Nat} {mk ex : Bool} (hn : nh < 8) (b u v : Nat) : zMv l yX1_append (zws yX1_append cX1_append 4 none) { frames := 0, cells := 0, slots := 0, locals := 0 } D zcl ((cA, .int) :: tys) zG [.ref hd, .int (nI b), .int (nI u), .int (nI v)] (wH hd d1 d2 cA bn us nh ct mk ex) (fun w2 => w2 = wH hd d1 d2 cA (zu bn nh b) (zu us nh u) (nh + 1) (ct + v) mk ex) 0 0 := by
  refine z_ofv (cc := cX1_append) (maxL := 4) (ret := none) (by decide) rfl (Nat.le_of_ble_eq_true rfl) ?_
  intro p e s m below meth c A F hr hlk hnm
  refine z_aload_n F dX1_append_0 rfl ?_
  refine z_get (ci := 1) (C := RX1) (T := TX1) (N := 6) F 0 2 dX1_append_1 inX1 kfX1_18 rfl rfl rfl (by decide) rfl ?_
  refine z_bipush (v := 8) F dX1_append_4 (by decide) ?_
  refine z_icmp_lt (tgt := 10) F dX1_append_6 (by decide) (fun c6 => ?_) (fun c6 => ?_)
  · refine z_aload_n F dX1_append_10 rfl ?_
    refine z_get (ci := 1) (C := RX1) (T := TX1) (N := 6) F 0 0 dX1_append_11 inX1 kfX1_9 rfl rfl rfl (by decide) rfl ?_
    refine z_aload_n F dX1_append_14 rfl ?_
    refine z_get (ci := 1) (C := RX1) (T := TX1) (N := 6) F 0 2 dX1_append_15 inX1 kfX1_18 rfl rfl rfl (by decide) rfl ?_
    refine z_iload_n F dX1_append_18 rfl ?_
    refine z_iastN F 1 0 _ dX1_append_19 rfl rfl rfl hn (by decide) rfl ?_
    refine z_aload_n F dX1_append_20 rfl ?_
    refine z_get (ci := 1) (C := RX1) (T := TX1) (N := 6) F 0 1 dX1_append_21 inX1 kfX1_15 rfl rfl rfl (by decide) rfl ?_
    refine z_aload_n F dX1_append_24 rfl ?_
    refine z_get (ci := 1) (C := RX1) (T := TX1) (N := 6) F 0 2 dX1_append_25 inX1 kfX1_18 rfl rfl rfl (by decide) rfl ?_
    refine z_iload_n F dX1_append_28 rfl ?_
    refine z_iastN F 2 0 _ dX1_append_29 rfl rfl rfl hn (by decide) rfl ?_
    refine z_aload_n F dX1_append_30 rfl ?_
    refine z_dup F dX1_append_31 rfl ?_
    refine z_get (ci := 1) (C := RX1) (T := TX1) (N := 6) F 0 2 dX1_append_32 inX1 kfX1_18 rfl rfl rfl (by decide) rfl ?_
    refine z_iconst (v := 1) F dX1_append_35 (by decide) ?_
    refine z_iadd F dX1_append_36 ?_
    refine z_topi (y := nI (nh + 1)) (nI_1 nh) ?_
    refine z_put (ci := 1) (C := RX1) (T := TX1) (N := 6) (ty := .int) F 0 2 dX1_append_37 inX1 tyX1 tyX1_ok nmX1 kfX1_18 rfl rfl rfl (by decide) rfl (by decide +kernel) rfl rfl (Nat.le_of_ble_eq_true rfl) ?_
    refine z_aload_n F dX1_append_40 rfl ?_
    refine z_dup F dX1_append_41 rfl ?_
    refine z_get (ci := 1) (C := RX1) (T := TX1) (N := 6) F 0 3 dX1_append_42 inX1 kfX1_22 rfl rfl rfl (by decide) rfl ?_
    refine z_iload_n F dX1_append_45 rfl ?_
    refine z_iadd F dX1_append_46 ?_
    refine z_topi (y := nI (ct + v)) (nI_add _ _) ?_
    refine z_put (ci := 1) (C := RX1) (T := TX1) (N := 6) (ty := .int) F 0 3 dX1_append_47 inX1 tyX1 tyX1_ok nmX1 kfX1_22 rfl rfl rfl (by decide) rfl (by decide +kernel) rfl rfl (Nat.le_of_ble_eq_true rfl) ?_
    exact z_vret F hr hlk dX1_append_50 rfl (Nat.le_of_ble_eq_true rfl) (Nat.le_of_ble_eq_true rfl)
  · exact absurd (nI_lt hn (by omega)) c6

set_option maxHeartbeats 4000000 in
set_option maxRecDepth 100000 in
/-- Choice.replaceSet -/
theorem c_H_replaceSet {l : Launch} {D : va_G} {tys : List (ClassId × FieldType)} {hd d1 d2 : Nat} {cA : ClassId} {bn us : Nat → Nat} {nh ct : Nat} {mk ex : Bool} (hn : nh ≤ 8) (i v : Nat) (hi : i < nh) : zMv l yX1_replaceSet (zws yX1_replaceSet cX1_replaceSet 3 none) { frames := 1, cells := 0, slots := 0, locals := 21 } D zcl ((cA, .int) :: tys) zG [.ref hd, .int (nI i), .int (nI v)] (wH hd d1 d2 cA bn us nh ct mk ex) (fun w2 => w2 = wH hd d1 d2 cA bn (zu us i v) nh ct mk ex) 0 0 := by
  refine z_ofv (cc := cX1_replaceSet) (maxL := 3) (ret := none) (by decide) rfl (Nat.le_of_ble_eq_true rfl) ?_
  intro p e s m below meth c A F hr hlk hnm
  refine z_aload_n F dX1_replaceSet_0 rfl ?_
  refine z_iload_n F dX1_replaceSet_1 rfl ?_
  refine z_callVi0 F (c_H_has (nI i)) 0 rfl rfl (zcwV F.2.2.2.2.1 kcX1_has kmX1_32 kiX1_has ksX1_has knX1 hdX1_has rfl rfl ⟨(Nat.le_of_ble_eq_true rfl), (Nat.le_of_ble_eq_true rfl)⟩) dX1_replaceSet_2 rfl rfl (Nat.le_of_ble_eq_true rfl) ⟨(Nat.le_of_ble_eq_true rfl), (Nat.le_of_ble_eq_true rfl)⟩ ?_
  rintro r w2 ⟨rfl, rfl⟩
  refine z_if_eq (tgt := 15) F dX1_replaceSet_5 (by decide) (fun c5 => ?_) (fun c5 => ?_)
  · exact absurd (zB_0.mp c5) (by rw [decide_eq_true ((zhas (by omega)).mpr ⟨i, hi, rfl⟩)]; decide)
  · refine z_aload_n F dX1_replaceSet_8 rfl ?_
    refine z_get (ci := 1) (C := RX1) (T := TX1) (N := 6) F 0 1 dX1_replaceSet_9 inX1 kfX1_15 rfl rfl rfl (by decide) rfl ?_
    refine z_iload_n F dX1_replaceSet_12 rfl ?_
    refine z_iload_n F dX1_replaceSet_13 rfl ?_
    refine z_iastN F 2 0 _ dX1_replaceSet_14 rfl rfl rfl (Nat.lt_of_lt_of_le hi hn) (by decide) rfl ?_
    exact z_vret F hr hlk dX1_replaceSet_15 rfl (Nat.le_of_ble_eq_true rfl) (Nat.le_of_ble_eq_true rfl)

set_option maxHeartbeats 4000000 in
set_option maxRecDepth 100000 in
/-- Choice.boxAt -/
theorem c_H_boxAt {l : Launch} {D : va_G} {tys : List (ClassId × FieldType)} {hd d1 d2 : Nat} {cA : ClassId} {bn us : Nat → Nat} {nh ct : Nat} {mk ex : Bool} (hn : nh ≤ 8) (i : Nat) (hi : i < nh) : zMi l yX1_boxAt (zws yX1_boxAt cX1_boxAt 2 (some .int)) { frames := 1, cells := 0, slots := 0, locals := 21 } D zcl ((cA, .int) :: tys) zG [.ref hd, .int (nI i)] (wH hd d1 d2 cA bn us nh ct mk ex) (fun r w2 => r = nI (bn i) ∧ w2 = (wH hd d1 d2 cA bn us nh ct mk ex)) 0 0 := by
  refine z_ofi (cc := cX1_boxAt) (maxL := 2) (ret := (some .int)) (by decide) rfl (Nat.le_of_ble_eq_true rfl) ?_
  intro p e s m below meth c A F hr hlk hnm
  refine z_aload_n F dX1_boxAt_0 rfl ?_
  refine z_iload_n F dX1_boxAt_1 rfl ?_
  refine z_callVi0 F (c_H_has (nI i)) 0 rfl rfl (zcwV F.2.2.2.2.1 kcX1_has kmX1_32 kiX1_has ksX1_has knX1 hdX1_has rfl rfl ⟨(Nat.le_of_ble_eq_true rfl), (Nat.le_of_ble_eq_true rfl)⟩) dX1_boxAt_2 rfl rfl (Nat.le_of_ble_eq_true rfl) ⟨(Nat.le_of_ble_eq_true rfl), (Nat.le_of_ble_eq_true rfl)⟩ ?_
  rintro r w2 ⟨rfl, rfl⟩
  refine z_if_eq (tgt := 17) F dX1_boxAt_5 (by decide) (fun c5 => ?_) (fun c5 => ?_)
  · exact absurd (zB_0.mp c5) (by rw [decide_eq_true ((zhas (by omega)).mpr ⟨i, hi, rfl⟩)]; decide)
  · refine z_aload_n F dX1_boxAt_8 rfl ?_
    refine z_get (ci := 1) (C := RX1) (T := TX1) (N := 6) F 0 0 dX1_boxAt_9 inX1 kfX1_9 rfl rfl rfl (by decide) rfl ?_
    refine z_iload_n F dX1_boxAt_12 rfl ?_
    refine z_ialdN F 1 0 dX1_boxAt_13 rfl rfl rfl (Nat.lt_of_lt_of_le hi hn) (by decide) ?_
    refine z_goto (tgt := 18) F dX1_boxAt_14 (by decide) ?_
    exact z_iret F hr rfl hlk dX1_boxAt_18 ⟨rfl, rfl⟩ (Nat.le_of_ble_eq_true rfl) (Nat.le_of_ble_eq_true rfl)

set_option maxHeartbeats 4000000 in
set_option maxRecDepth 100000 in
/-- Choice.setAt -/
theorem c_H_setAt {l : Launch} {D : va_G} {tys : List (ClassId × FieldType)} {hd d1 d2 : Nat} {cA : ClassId} {bn us : Nat → Nat} {nh ct : Nat} {mk ex : Bool} (hn : nh ≤ 8) (i : Nat) (hi : i < nh) : zMi l yX1_setAt (zws yX1_setAt cX1_setAt 2 (some .int)) { frames := 1, cells := 0, slots := 0, locals := 21 } D zcl ((cA, .int) :: tys) zG [.ref hd, .int (nI i)] (wH hd d1 d2 cA bn us nh ct mk ex) (fun r w2 => r = nI (us i) ∧ w2 = (wH hd d1 d2 cA bn us nh ct mk ex)) 0 0 := by
  refine z_ofi (cc := cX1_setAt) (maxL := 2) (ret := (some .int)) (by decide) rfl (Nat.le_of_ble_eq_true rfl) ?_
  intro p e s m below meth c A F hr hlk hnm
  refine z_aload_n F dX1_setAt_0 rfl ?_
  refine z_iload_n F dX1_setAt_1 rfl ?_
  refine z_callVi0 F (c_H_has (nI i)) 0 rfl rfl (zcwV F.2.2.2.2.1 kcX1_has kmX1_32 kiX1_has ksX1_has knX1 hdX1_has rfl rfl ⟨(Nat.le_of_ble_eq_true rfl), (Nat.le_of_ble_eq_true rfl)⟩) dX1_setAt_2 rfl rfl (Nat.le_of_ble_eq_true rfl) ⟨(Nat.le_of_ble_eq_true rfl), (Nat.le_of_ble_eq_true rfl)⟩ ?_
  rintro r w2 ⟨rfl, rfl⟩
  refine z_if_eq (tgt := 17) F dX1_setAt_5 (by decide) (fun c5 => ?_) (fun c5 => ?_)
  · exact absurd (zB_0.mp c5) (by rw [decide_eq_true ((zhas (by omega)).mpr ⟨i, hi, rfl⟩)]; decide)
  · refine z_aload_n F dX1_setAt_8 rfl ?_
    refine z_get (ci := 1) (C := RX1) (T := TX1) (N := 6) F 0 1 dX1_setAt_9 inX1 kfX1_15 rfl rfl rfl (by decide) rfl ?_
    refine z_iload_n F dX1_setAt_12 rfl ?_
    refine z_ialdN F 2 0 dX1_setAt_13 rfl rfl rfl (Nat.lt_of_lt_of_le hi hn) (by decide) ?_
    refine z_goto (tgt := 18) F dX1_setAt_14 (by decide) ?_
    exact z_iret F hr rfl hlk dX1_setAt_18 ⟨rfl, rfl⟩ (Nat.le_of_ble_eq_true rfl) (Nat.le_of_ble_eq_true rfl)

set_option maxHeartbeats 4000000 in
set_option maxRecDepth 100000 in
/-- Choice.holderOf -/
theorem c_H_holderOf {l : Launch} {D : va_G} {tys : List (ClassId × FieldType)} {hd d1 d2 : Nat} {cA : ClassId} {bn us : Nat → Nat} {nh ct : Nat} {mk ex : Bool} (hn : nh ≤ 8) (hb : ∀ x, us x < 2 ^ 31) (u : Nat) (hu : u < 32) : zMi l yX1_holderOf (zws yX1_holderOf cX1_holderOf 3 (some .int)) { frames := 1, cells := 0, slots := 0, locals := 21 } D zcl ((cA, .int) :: tys) zG [.ref hd, .int (nI u)] (wH hd d1 d2 cA bn us nh ct mk ex) (fun r w2 => r = zo (zfst (fun x => (us x).testBit u) nh) ∧ w2 = (wH hd d1 d2 cA bn us nh ct mk ex)) 0 0 := by
  refine z_ofi (cc := cX1_holderOf) (maxL := 3) (ret := (some .int)) (by decide) rfl (Nat.le_of_ble_eq_true rfl) ?_
  intro p e s m below meth c A F hr hlk hnm
  have loop : ∀ (n j : Nat), j ≤ nh → nh + 1 ≤ j + n → zfst (fun x => (us x).testBit u) j = none → zW p l e (headSpec (zws yX1_holderOf cX1_holderOf 3 (some .int)) { frames := 1, cells := 0, slots := 0, locals := 21 }).room s m [.ref hd, .int (nI u)].toArray below meth c 3 D zcl A 0 0 (MQ below (va_Qi (fun r w2 => r = zo (zfst (fun x => (us x).testBit u) nh) ∧ w2 = (wH hd d1 d2 cA bn us nh ct mk ex)) (zEnd D zcl A) A) [.ref hd, .int (nI u)].toArray s 0 0 A) (wH hd d1 d2 cA bn us nh ct mk ex) [(0, .ref hd), (1, .int (nI u)), (2, .int (nI j))] 2 [] := by
    intro n
    induction n with
    | zero => intro j h1 h2; omega
    | succ n ih =>
      intro j hj1 hj2 hz
      refine z_iload_n F dX1_holderOf_2 rfl ?_
      refine z_aload_n F dX1_holderOf_3 rfl ?_
      refine z_get (ci := 1) (C := RX1) (T := TX1) (N := 6) F 0 2 dX1_holderOf_4 inX1 kfX1_18 rfl rfl rfl (by decide) rfl ?_
      refine z_icmp_ge (tgt := 31) F dX1_holderOf_7 (by decide) (fun c7 => ?_) (fun c7 => ?_)
      · have ej := zge_end hj1 (by omega) c7
        refine z_iconst (v := (-1)) F dX1_holderOf_31 (by decide) ?_
        exact z_iret F hr rfl hlk dX1_holderOf_32 ⟨by rw [← ej, hz]; rfl, rfl⟩ (Nat.le_of_ble_eq_true rfl) (Nat.le_of_ble_eq_true rfl)
      · have hlt := zge_on (by omega) hj1 c7
        refine z_aload_n F dX1_holderOf_10 rfl ?_
        refine z_get (ci := 1) (C := RX1) (T := TX1) (N := 6) F 0 1 dX1_holderOf_11 inX1 kfX1_15 rfl rfl rfl (by decide) rfl ?_
        refine z_iload_n F dX1_holderOf_14 rfl ?_
        refine z_ialdN F 2 0 dX1_holderOf_15 rfl rfl rfl (Nat.lt_of_lt_of_le hlt hn) (by decide) ?_
        refine z_iload_n F dX1_holderOf_16 rfl ?_
        refine z_callSNi0 F (c_holds (us j) u (hb j) hu) (zcnS F.2.2.2.2.1 kcX4_holds (nlX1_36 F.2.2.2.2.2.2.2.1) ktX4_holds knX4 hdX4_holds rfl rfl ⟨(Nat.le_of_ble_eq_true rfl), (Nat.le_of_ble_eq_true rfl)⟩) dX1_holderOf_17 rfl rfl (Nat.le_of_ble_eq_true rfl) ⟨(Nat.le_of_ble_eq_true rfl), (Nat.le_of_ble_eq_true rfl)⟩ ?_
        rintro r w2 ⟨rfl, rfl⟩
        refine z_if_eq (tgt := 25) F dX1_holderOf_20 (by decide) (fun c20 => ?_) (fun c20 => ?_)
        · refine z_iinc (v := nI (j + 1)) F dX1_holderOf_25 rfl (nI_1 j) (by decide) ?_
          refine z_goto (tgt := 2) F dX1_holderOf_28 (by decide) ?_
          exact z_lv rfl (ih (j + 1) (by omega) (by omega) (zfst_n hz (zB_0.mp c20)))
        · refine z_iload_n F dX1_holderOf_23 rfl ?_
          exact z_iret F hr rfl hlk dX1_holderOf_24 ⟨by rw [zfst_at hz (zB_1.mp c20) hlt]; rfl, rfl⟩ (Nat.le_of_ble_eq_true rfl) (Nat.le_of_ble_eq_true rfl)
  refine z_iconst (v := 0) F dX1_holderOf_0 (by decide) ?_
  refine z_istore_n F dX1_holderOf_1 (by decide) ?_
  exact z_lv rfl (loop (nh + 1) 0 (by omega) (by omega) rfl)
