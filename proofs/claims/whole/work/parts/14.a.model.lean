set_option maxHeartbeats 4000000 in
set_option maxRecDepth 100000 in
theorem c_M_thrown {l : Launch} {D : va_G} {tys : List (ClassId × FieldType)} {am : Nat → Nat} {cA : ClassId} {cd nb : Nat} {ro lo co ks : Nat → Nat} {nu : Nat} {si we ki hw : Nat → Nat} {sl : Nat} {ch : Option Nat} {em : Bool} {bx : Nat → Option Nat} {sx : Nat → Nat} {cn : Nat} {nx : Nat → Option Nat} {ns pt : Nat → Nat} : zMi l yX5_thrown (zws yX5_thrown cX5_thrown 1 (some .int)) { frames := 0, cells := 0, slots := 0, locals := 0 } D zcl ((cA, .int) :: tys) zG [.ref (am 0)] (wM am cA cd nb ro lo co ks nu si we ki hw sl ch em bx sx cn nx ns pt) (fun r w2 => r = nI cd ∧ w2 = (wM am cA cd nb ro lo co ks nu si we ki hw sl ch em bx sx cn nx ns pt)) 0 0 := by
  refine z_ofi (cc := cX5_thrown) (maxL := 1) (ret := (some .int)) (by decide) rfl (Nat.le_of_ble_eq_true rfl) ?_
  intro p e s m below meth c A F hr hlk hnm
  refine z_aload_n F dX5_thrown_0 rfl ?_
  refine z_get (ci := 5) (C := RX5) (T := TX5) (N := 20) F 0 0 dX5_thrown_1 inX5 kfX5_53 rfl rfl rfl (by decide) rfl ?_
  exact z_iret F hr rfl hlk dX5_thrown_4 ⟨rfl, rfl⟩ (Nat.le_of_ble_eq_true rfl) (Nat.le_of_ble_eq_true rfl)

set_option maxHeartbeats 4000000 in
set_option maxRecDepth 100000 in
theorem c_M_box_x1 {l : Launch} {D : va_G} {tys : List (ClassId × FieldType)} {am : Nat → Nat} {cA : ClassId} {cd nb : Nat} {ro lo co ks : Nat → Nat} {nu : Nat} {si we ki hw : Nat → Nat} {sl : Nat} {ch : Option Nat} {em : Bool} {bx : Nat → Option Nat} {sx : Nat → Nat} {cn : Nat} {nx : Nat → Option Nat} {ns pt : Nat → Nat} (v1 v2 v3 v4 : Int32) (h : ¬ ((1 ≤ v1 ∧ v1 ≤ 1000) ∧ (1 ≤ v2 ∧ v2 ≤ 1000) ∧ (0 ≤ v3 ∧ v3 ≤ 1000) ∧ (0 ≤ v4 ∧ v4 ≤ 255))) : zMi l yX5_box (zws yX5_box cX5_box 5 (some .int)) { frames := 1, cells := 0, slots := 0, locals := 22 } D zcl ((cA, .int) :: tys) zG [.ref (am 0), .int v1, .int v2, .int v3, .int v4] (wM am cA cd nb ro lo co ks nu si we ki hw sl ch em bx sx cn nx ns pt) (fun r w2 => r = 0 ∧ w2 = (wM am cA 1 nb ro lo co ks nu si we ki hw sl ch em bx sx cn nx ns pt)) 0 0 := by
  refine z_ofi (cc := cX5_box) (maxL := 5) (ret := (some .int)) (by decide) rfl (Nat.le_of_ble_eq_true rfl) ?_
  intro p e s m below meth c A F hr hlk hnm
  refine z_aload_n F dX5_box_0 rfl ?_
  refine z_iload_n F dX5_box_1 rfl ?_
  refine z_iconst (v := 1) F dX5_box_2 (by decide) ?_
  refine z_sipush (v := 1000) F dX5_box_3 (by decide) ?_
  refine z_callSi0 F (c_M_in v1 1 1000) (zcwS F.2.2.2.2.1 kcX5_in kmX5_59 ktX5_in knX5 hdX5_in rfl rfl ⟨(Nat.le_of_ble_eq_true rfl), (Nat.le_of_ble_eq_true rfl)⟩) dX5_box_6 rfl rfl (Nat.le_of_ble_eq_true rfl) ⟨(Nat.le_of_ble_eq_true rfl), (Nat.le_of_ble_eq_true rfl)⟩ ?_
  rintro r w2 ⟨rfl, rfl⟩
  refine z_if_eq (tgt := 46) F dX5_box_9 (by decide) (fun c9 => ?_) (fun c9 => ?_)
  · refine z_iconst (v := 1) F dX5_box_46 (by decide) ?_
    refine z_goto (tgt := 64) F dX5_box_47 (by decide) ?_
    refine z_put (ci := 5) (C := RX5) (T := TX5) (N := 20) (ty := .int) F 0 0 dX5_box_64 inX5 tyX5 tyX5_ok nmX5 kfX5_53 rfl rfl rfl (by decide) rfl (by decide +kernel) rfl rfl (Nat.le_of_ble_eq_true rfl) ?_
    refine z_aload_n F dX5_box_67 rfl ?_
    refine z_get (ci := 5) (C := RX5) (T := TX5) (N := 20) F 0 0 dX5_box_68 inX5 kfX5_53 rfl rfl rfl (by decide) rfl ?_
    refine z_if_le (tgt := 76) F dX5_box_71 (by decide) (fun c71 => ?_) (fun c71 => ?_)
    · exact absurd c71 (by decide)
    · refine z_iconst (v := 0) F dX5_box_74 (by decide) ?_
      exact z_iret F hr rfl hlk dX5_box_75 ⟨rfl, rfl⟩ (Nat.le_of_ble_eq_true rfl) (Nat.le_of_ble_eq_true rfl)
  · refine z_iload_n F dX5_box_12 rfl ?_
    refine z_iconst (v := 1) F dX5_box_13 (by decide) ?_
    refine z_sipush (v := 1000) F dX5_box_14 (by decide) ?_
    refine z_callSi0 F (c_M_in v2 1 1000) (zcwS F.2.2.2.2.1 kcX5_in kmX5_59 ktX5_in knX5 hdX5_in rfl rfl ⟨(Nat.le_of_ble_eq_true rfl), (Nat.le_of_ble_eq_true rfl)⟩) dX5_box_17 rfl rfl (Nat.le_of_ble_eq_true rfl) ⟨(Nat.le_of_ble_eq_true rfl), (Nat.le_of_ble_eq_true rfl)⟩ ?_
    rintro r w2 ⟨rfl, rfl⟩
    refine z_if_eq (tgt := 46) F dX5_box_20 (by decide) (fun c20 => ?_) (fun c20 => ?_)
    · refine z_iconst (v := 1) F dX5_box_46 (by decide) ?_
      refine z_goto (tgt := 64) F dX5_box_47 (by decide) ?_
      refine z_put (ci := 5) (C := RX5) (T := TX5) (N := 20) (ty := .int) F 0 0 dX5_box_64 inX5 tyX5 tyX5_ok nmX5 kfX5_53 rfl rfl rfl (by decide) rfl (by decide +kernel) rfl rfl (Nat.le_of_ble_eq_true rfl) ?_
      refine z_aload_n F dX5_box_67 rfl ?_
      refine z_get (ci := 5) (C := RX5) (T := TX5) (N := 20) F 0 0 dX5_box_68 inX5 kfX5_53 rfl rfl rfl (by decide) rfl ?_
      refine z_if_le (tgt := 76) F dX5_box_71 (by decide) (fun c71 => ?_) (fun c71 => ?_)
      · exact absurd c71 (by decide)
      · refine z_iconst (v := 0) F dX5_box_74 (by decide) ?_
        exact z_iret F hr rfl hlk dX5_box_75 ⟨rfl, rfl⟩ (Nat.le_of_ble_eq_true rfl) (Nat.le_of_ble_eq_true rfl)
    · refine z_iload_n F dX5_box_23 rfl ?_
      refine z_iconst (v := 0) F dX5_box_24 (by decide) ?_
      refine z_sipush (v := 1000) F dX5_box_25 (by decide) ?_
      refine z_callSi0 F (c_M_in v3 0 1000) (zcwS F.2.2.2.2.1 kcX5_in kmX5_59 ktX5_in knX5 hdX5_in rfl rfl ⟨(Nat.le_of_ble_eq_true rfl), (Nat.le_of_ble_eq_true rfl)⟩) dX5_box_28 rfl rfl (Nat.le_of_ble_eq_true rfl) ⟨(Nat.le_of_ble_eq_true rfl), (Nat.le_of_ble_eq_true rfl)⟩ ?_
      rintro r w2 ⟨rfl, rfl⟩
      refine z_if_eq (tgt := 46) F dX5_box_31 (by decide) (fun c31 => ?_) (fun c31 => ?_)
      · refine z_iconst (v := 1) F dX5_box_46 (by decide) ?_
        refine z_goto (tgt := 64) F dX5_box_47 (by decide) ?_
        refine z_put (ci := 5) (C := RX5) (T := TX5) (N := 20) (ty := .int) F 0 0 dX5_box_64 inX5 tyX5 tyX5_ok nmX5 kfX5_53 rfl rfl rfl (by decide) rfl (by decide +kernel) rfl rfl (Nat.le_of_ble_eq_true rfl) ?_
        refine z_aload_n F dX5_box_67 rfl ?_
        refine z_get (ci := 5) (C := RX5) (T := TX5) (N := 20) F 0 0 dX5_box_68 inX5 kfX5_53 rfl rfl rfl (by decide) rfl ?_
        refine z_if_le (tgt := 76) F dX5_box_71 (by decide) (fun c71 => ?_) (fun c71 => ?_)
        · exact absurd c71 (by decide)
        · refine z_iconst (v := 0) F dX5_box_74 (by decide) ?_
          exact z_iret F hr rfl hlk dX5_box_75 ⟨rfl, rfl⟩ (Nat.le_of_ble_eq_true rfl) (Nat.le_of_ble_eq_true rfl)
      · refine z_iload F dX5_box_34 rfl ?_
        refine z_iconst (v := 0) F dX5_box_36 (by decide) ?_
        refine z_sipush (v := 255) F dX5_box_37 (by decide) ?_
        refine z_callSi0 F (c_M_in v4 0 255) (zcwS F.2.2.2.2.1 kcX5_in kmX5_59 ktX5_in knX5 hdX5_in rfl rfl ⟨(Nat.le_of_ble_eq_true rfl), (Nat.le_of_ble_eq_true rfl)⟩) dX5_box_40 rfl rfl (Nat.le_of_ble_eq_true rfl) ⟨(Nat.le_of_ble_eq_true rfl), (Nat.le_of_ble_eq_true rfl)⟩ ?_
        rintro r w2 ⟨rfl, rfl⟩
        refine z_if_ne (tgt := 50) F dX5_box_43 (by decide) (fun c43 => ?_) (fun c43 => ?_)
        · exact absurd ⟨of_decide_eq_true (zB_1.mp c9), of_decide_eq_true (zB_1.mp c20), of_decide_eq_true (zB_1.mp c31), of_decide_eq_true (zB_1.mp c43)⟩ h
        · refine z_iconst (v := 1) F dX5_box_46 (by decide) ?_
          refine z_goto (tgt := 64) F dX5_box_47 (by decide) ?_
          refine z_put (ci := 5) (C := RX5) (T := TX5) (N := 20) (ty := .int) F 0 0 dX5_box_64 inX5 tyX5 tyX5_ok nmX5 kfX5_53 rfl rfl rfl (by decide) rfl (by decide +kernel) rfl rfl (Nat.le_of_ble_eq_true rfl) ?_
          refine z_aload_n F dX5_box_67 rfl ?_
          refine z_get (ci := 5) (C := RX5) (T := TX5) (N := 20) F 0 0 dX5_box_68 inX5 kfX5_53 rfl rfl rfl (by decide) rfl ?_
          refine z_if_le (tgt := 76) F dX5_box_71 (by decide) (fun c71 => ?_) (fun c71 => ?_)
          · exact absurd c71 (by decide)
          · refine z_iconst (v := 0) F dX5_box_74 (by decide) ?_
            exact z_iret F hr rfl hlk dX5_box_75 ⟨rfl, rfl⟩ (Nat.le_of_ble_eq_true rfl) (Nat.le_of_ble_eq_true rfl)

set_option maxHeartbeats 4000000 in
set_option maxRecDepth 100000 in
theorem c_M_box_x2 {l : Launch} {D : va_G} {tys : List (ClassId × FieldType)} {am : Nat → Nat} {cA : ClassId} {cd nb : Nat} {ro lo co ks : Nat → Nat} {nu : Nat} {si we ki hw : Nat → Nat} {sl : Nat} {ch : Option Nat} {em : Bool} {bx : Nat → Option Nat} {sx : Nat → Nat} {cn : Nat} {nx : Nat → Option Nat} {ns pt : Nat → Nat} (v1 v2 v3 v4 : Int32) (h1 : (1 ≤ v1 ∧ v1 ≤ 1000)) (h2 : (1 ≤ v2 ∧ v2 ≤ 1000)) (h3 : (0 ≤ v3 ∧ v3 ≤ 1000)) (h4 : (0 ≤ v4 ∧ v4 ≤ 255)) (hf : nb = 6) : zMi l yX5_box (zws yX5_box cX5_box 5 (some .int)) { frames := 1, cells := 0, slots := 0, locals := 22 } D zcl ((cA, .int) :: tys) zG [.ref (am 0), .int v1, .int v2, .int v3, .int v4] (wM am cA cd nb ro lo co ks nu si we ki hw sl ch em bx sx cn nx ns pt) (fun r w2 => r = 0 ∧ w2 = (wM am cA 2 nb ro lo co ks nu si we ki hw sl ch em bx sx cn nx ns pt)) 0 0 := by
  refine z_ofi (cc := cX5_box) (maxL := 5) (ret := (some .int)) (by decide) rfl (Nat.le_of_ble_eq_true rfl) ?_
  intro p e s m below meth c A F hr hlk hnm
  refine z_aload_n F dX5_box_0 rfl ?_
  refine z_iload_n F dX5_box_1 rfl ?_
  refine z_iconst (v := 1) F dX5_box_2 (by decide) ?_
  refine z_sipush (v := 1000) F dX5_box_3 (by decide) ?_
  refine z_callSi0 F (c_M_in v1 1 1000) (zcwS F.2.2.2.2.1 kcX5_in kmX5_59 ktX5_in knX5 hdX5_in rfl rfl ⟨(Nat.le_of_ble_eq_true rfl), (Nat.le_of_ble_eq_true rfl)⟩) dX5_box_6 rfl rfl (Nat.le_of_ble_eq_true rfl) ⟨(Nat.le_of_ble_eq_true rfl), (Nat.le_of_ble_eq_true rfl)⟩ ?_
  rintro r w2 ⟨rfl, rfl⟩
  refine z_if_eq (tgt := 46) F dX5_box_9 (by decide) (fun c9 => ?_) (fun c9 => ?_)
  · exact absurd (h1) (of_decide_eq_false (zB_0.mp c9))
  · refine z_iload_n F dX5_box_12 rfl ?_
    refine z_iconst (v := 1) F dX5_box_13 (by decide) ?_
    refine z_sipush (v := 1000) F dX5_box_14 (by decide) ?_
    refine z_callSi0 F (c_M_in v2 1 1000) (zcwS F.2.2.2.2.1 kcX5_in kmX5_59 ktX5_in knX5 hdX5_in rfl rfl ⟨(Nat.le_of_ble_eq_true rfl), (Nat.le_of_ble_eq_true rfl)⟩) dX5_box_17 rfl rfl (Nat.le_of_ble_eq_true rfl) ⟨(Nat.le_of_ble_eq_true rfl), (Nat.le_of_ble_eq_true rfl)⟩ ?_
    rintro r w2 ⟨rfl, rfl⟩
    refine z_if_eq (tgt := 46) F dX5_box_20 (by decide) (fun c20 => ?_) (fun c20 => ?_)
    · exact absurd (h2) (of_decide_eq_false (zB_0.mp c20))
    · refine z_iload_n F dX5_box_23 rfl ?_
      refine z_iconst (v := 0) F dX5_box_24 (by decide) ?_
      refine z_sipush (v := 1000) F dX5_box_25 (by decide) ?_
      refine z_callSi0 F (c_M_in v3 0 1000) (zcwS F.2.2.2.2.1 kcX5_in kmX5_59 ktX5_in knX5 hdX5_in rfl rfl ⟨(Nat.le_of_ble_eq_true rfl), (Nat.le_of_ble_eq_true rfl)⟩) dX5_box_28 rfl rfl (Nat.le_of_ble_eq_true rfl) ⟨(Nat.le_of_ble_eq_true rfl), (Nat.le_of_ble_eq_true rfl)⟩ ?_
      rintro r w2 ⟨rfl, rfl⟩
      refine z_if_eq (tgt := 46) F dX5_box_31 (by decide) (fun c31 => ?_) (fun c31 => ?_)
      · exact absurd (h3) (of_decide_eq_false (zB_0.mp c31))
      · refine z_iload F dX5_box_34 rfl ?_
        refine z_iconst (v := 0) F dX5_box_36 (by decide) ?_
        refine z_sipush (v := 255) F dX5_box_37 (by decide) ?_
        refine z_callSi0 F (c_M_in v4 0 255) (zcwS F.2.2.2.2.1 kcX5_in kmX5_59 ktX5_in knX5 hdX5_in rfl rfl ⟨(Nat.le_of_ble_eq_true rfl), (Nat.le_of_ble_eq_true rfl)⟩) dX5_box_40 rfl rfl (Nat.le_of_ble_eq_true rfl) ⟨(Nat.le_of_ble_eq_true rfl), (Nat.le_of_ble_eq_true rfl)⟩ ?_
        rintro r w2 ⟨rfl, rfl⟩
        refine z_if_ne (tgt := 50) F dX5_box_43 (by decide) (fun c43 => ?_) (fun c43 => ?_)
        · refine z_aload_n F dX5_box_50 rfl ?_
          refine z_get (ci := 5) (C := RX5) (T := TX5) (N := 20) F 0 1 dX5_box_51 inX5 kfX5_56 rfl rfl rfl (by decide) rfl ?_
          refine z_bipush (v := 6) F dX5_box_54 (by decide) ?_
          refine z_icmp_ne (tgt := 63) F dX5_box_56 (by decide) (fun c56 => ?_) (fun c56 => ?_)
          · exact absurd (by rw [hf]; rfl) c56
          · refine z_iconst (v := 2) F dX5_box_59 (by decide) ?_
            refine z_goto (tgt := 64) F dX5_box_60 (by decide) ?_
            refine z_put (ci := 5) (C := RX5) (T := TX5) (N := 20) (ty := .int) F 0 0 dX5_box_64 inX5 tyX5 tyX5_ok nmX5 kfX5_53 rfl rfl rfl (by decide) rfl (by decide +kernel) rfl rfl (Nat.le_of_ble_eq_true rfl) ?_
            refine z_aload_n F dX5_box_67 rfl ?_
            refine z_get (ci := 5) (C := RX5) (T := TX5) (N := 20) F 0 0 dX5_box_68 inX5 kfX5_53 rfl rfl rfl (by decide) rfl ?_
            refine z_if_le (tgt := 76) F dX5_box_71 (by decide) (fun c71 => ?_) (fun c71 => ?_)
            · exact absurd c71 (by decide)
            · refine z_iconst (v := 0) F dX5_box_74 (by decide) ?_
              exact z_iret F hr rfl hlk dX5_box_75 ⟨rfl, rfl⟩ (Nat.le_of_ble_eq_true rfl) (Nat.le_of_ble_eq_true rfl)
        · exact absurd (h4) (of_decide_eq_false (zB_0.mp c43))

set_option maxHeartbeats 4000000 in
set_option maxRecDepth 100000 in
theorem c_M_box {l : Launch} {D : va_G} {tys : List (ClassId × FieldType)} {am : Nat → Nat} {cA : ClassId} {cd nb : Nat} {ro lo co ks : Nat → Nat} {nu : Nat} {si we ki hw : Nat → Nat} {sl : Nat} {ch : Option Nat} {em : Bool} {bx : Nat → Option Nat} {sx : Nat → Nat} {cn : Nat} {nx : Nat → Option Nat} {ns pt : Nat → Nat} (hn : nb < 6) (r l2 k1 k2 : Nat) (h1 : 1 ≤ r ∧ r ≤ 1000) (h2 : 1 ≤ l2 ∧ l2 ≤ 1000) (h3 : 0 ≤ k1 ∧ k1 ≤ 1000) (h4 : 0 ≤ k2 ∧ k2 ≤ 255) : zMi l yX5_box (zws yX5_box cX5_box 5 (some .int)) { frames := 1, cells := 0, slots := 0, locals := 22 } D zcl ((cA, .int) :: tys) zG [.ref (am 0), .int (nI r), .int (nI l2), .int (nI k1), .int (nI k2)] (wM am cA cd nb ro lo co ks nu si we ki hw sl ch em bx sx cn nx ns pt) (fun r1 w2 => r1 = nI nb ∧ w2 = (wM am cA 0 (nb + 1) (zu ro nb r) (zu lo nb l2) (zu co nb k1) (zu ks nb k2) nu si we ki hw sl ch em bx sx cn nx ns pt)) 0 0 := by
  refine z_ofi (cc := cX5_box) (maxL := 5) (ret := (some .int)) (by decide) rfl (Nat.le_of_ble_eq_true rfl) ?_
  intro p e s m below meth c A F hr hlk hnm
  refine z_aload_n F dX5_box_0 rfl ?_
  refine z_iload_n F dX5_box_1 rfl ?_
  refine z_iconst (v := 1) F dX5_box_2 (by decide) ?_
  refine z_sipush (v := 1000) F dX5_box_3 (by decide) ?_
  refine z_callSi0 F (c_M_in (nI r) 1 1000) (zcwS F.2.2.2.2.1 kcX5_in kmX5_59 ktX5_in knX5 hdX5_in rfl rfl ⟨(Nat.le_of_ble_eq_true rfl), (Nat.le_of_ble_eq_true rfl)⟩) dX5_box_6 rfl rfl (Nat.le_of_ble_eq_true rfl) ⟨(Nat.le_of_ble_eq_true rfl), (Nat.le_of_ble_eq_true rfl)⟩ ?_
  rintro r w2 ⟨rfl, rfl⟩
  refine z_if_eq (tgt := 46) F dX5_box_9 (by decide) (fun c9 => ?_) (fun c9 => ?_)
  · exact absurd (zin h1.1 h1.2 (by decide)) (of_decide_eq_false (zB_0.mp c9))
  · refine z_iload_n F dX5_box_12 rfl ?_
    refine z_iconst (v := 1) F dX5_box_13 (by decide) ?_
    refine z_sipush (v := 1000) F dX5_box_14 (by decide) ?_
    refine z_callSi0 F (c_M_in (nI l2) 1 1000) (zcwS F.2.2.2.2.1 kcX5_in kmX5_59 ktX5_in knX5 hdX5_in rfl rfl ⟨(Nat.le_of_ble_eq_true rfl), (Nat.le_of_ble_eq_true rfl)⟩) dX5_box_17 rfl rfl (Nat.le_of_ble_eq_true rfl) ⟨(Nat.le_of_ble_eq_true rfl), (Nat.le_of_ble_eq_true rfl)⟩ ?_
    rintro r w2 ⟨rfl, rfl⟩
    refine z_if_eq (tgt := 46) F dX5_box_20 (by decide) (fun c20 => ?_) (fun c20 => ?_)
    · exact absurd (zin h2.1 h2.2 (by decide)) (of_decide_eq_false (zB_0.mp c20))
    · refine z_iload_n F dX5_box_23 rfl ?_
      refine z_iconst (v := 0) F dX5_box_24 (by decide) ?_
      refine z_sipush (v := 1000) F dX5_box_25 (by decide) ?_
      refine z_callSi0 F (c_M_in (nI k1) 0 1000) (zcwS F.2.2.2.2.1 kcX5_in kmX5_59 ktX5_in knX5 hdX5_in rfl rfl ⟨(Nat.le_of_ble_eq_true rfl), (Nat.le_of_ble_eq_true rfl)⟩) dX5_box_28 rfl rfl (Nat.le_of_ble_eq_true rfl) ⟨(Nat.le_of_ble_eq_true rfl), (Nat.le_of_ble_eq_true rfl)⟩ ?_
      rintro r w2 ⟨rfl, rfl⟩
      refine z_if_eq (tgt := 46) F dX5_box_31 (by decide) (fun c31 => ?_) (fun c31 => ?_)
      · exact absurd (zin h3.1 h3.2 (by decide)) (of_decide_eq_false (zB_0.mp c31))
      · refine z_iload F dX5_box_34 rfl ?_
        refine z_iconst (v := 0) F dX5_box_36 (by decide) ?_
        refine z_sipush (v := 255) F dX5_box_37 (by decide) ?_
        refine z_callSi0 F (c_M_in (nI k2) 0 255) (zcwS F.2.2.2.2.1 kcX5_in kmX5_59 ktX5_in knX5 hdX5_in rfl rfl ⟨(Nat.le_of_ble_eq_true rfl), (Nat.le_of_ble_eq_true rfl)⟩) dX5_box_40 rfl rfl (Nat.le_of_ble_eq_true rfl) ⟨(Nat.le_of_ble_eq_true rfl), (Nat.le_of_ble_eq_true rfl)⟩ ?_
        rintro r w2 ⟨rfl, rfl⟩
        refine z_if_ne (tgt := 50) F dX5_box_43 (by decide) (fun c43 => ?_) (fun c43 => ?_)
        · refine z_aload_n F dX5_box_50 rfl ?_
          refine z_get (ci := 5) (C := RX5) (T := TX5) (N := 20) F 0 1 dX5_box_51 inX5 kfX5_56 rfl rfl rfl (by decide) rfl ?_
          refine z_bipush (v := 6) F dX5_box_54 (by decide) ?_
          refine z_icmp_ne (tgt := 63) F dX5_box_56 (by decide) (fun c56 => ?_) (fun c56 => ?_)
          · refine z_iconst (v := 0) F dX5_box_63 (by decide) ?_
            refine z_put (ci := 5) (C := RX5) (T := TX5) (N := 20) (ty := .int) F 0 0 dX5_box_64 inX5 tyX5 tyX5_ok nmX5 kfX5_53 rfl rfl rfl (by decide) rfl (by decide +kernel) rfl rfl (Nat.le_of_ble_eq_true rfl) ?_
            refine z_aload_n F dX5_box_67 rfl ?_
            refine z_get (ci := 5) (C := RX5) (T := TX5) (N := 20) F 0 0 dX5_box_68 inX5 kfX5_53 rfl rfl rfl (by decide) rfl ?_
            refine z_if_le (tgt := 76) F dX5_box_71 (by decide) (fun c71 => ?_) (fun c71 => ?_)
            · refine z_aload_n F dX5_box_76 rfl ?_
              refine z_get (ci := 5) (C := RX5) (T := TX5) (N := 20) F 0 2 dX5_box_77 inX5 kfX5_7 rfl rfl rfl (by decide) rfl ?_
              refine z_aload_n F dX5_box_80 rfl ?_
              refine z_get (ci := 5) (C := RX5) (T := TX5) (N := 20) F 0 1 dX5_box_81 inX5 kfX5_56 rfl rfl rfl (by decide) rfl ?_
              refine z_iload_n F dX5_box_84 rfl ?_
              refine z_iastN F 1 0 _ dX5_box_85 rfl rfl rfl hn (by decide) rfl ?_
              refine z_aload_n F dX5_box_86 rfl ?_
              refine z_get (ci := 5) (C := RX5) (T := TX5) (N := 20) F 0 3 dX5_box_87 inX5 kfX5_13 rfl rfl rfl (by decide) rfl ?_
              refine z_aload_n F dX5_box_90 rfl ?_
              refine z_get (ci := 5) (C := RX5) (T := TX5) (N := 20) F 0 1 dX5_box_91 inX5 kfX5_56 rfl rfl rfl (by decide) rfl ?_
              refine z_iload_n F dX5_box_94 rfl ?_
              refine z_iastN F 2 0 _ dX5_box_95 rfl rfl rfl hn (by decide) rfl ?_
              refine z_aload_n F dX5_box_96 rfl ?_
              refine z_get (ci := 5) (C := RX5) (T := TX5) (N := 20) F 0 4 dX5_box_97 inX5 kfX5_16 rfl rfl rfl (by decide) rfl ?_
              refine z_aload_n F dX5_box_100 rfl ?_
              refine z_get (ci := 5) (C := RX5) (T := TX5) (N := 20) F 0 1 dX5_box_101 inX5 kfX5_56 rfl rfl rfl (by decide) rfl ?_
              refine z_iload_n F dX5_box_104 rfl ?_
              refine z_iastN F 3 0 _ dX5_box_105 rfl rfl rfl hn (by decide) rfl ?_
              refine z_aload_n F dX5_box_106 rfl ?_
              refine z_get (ci := 5) (C := RX5) (T := TX5) (N := 20) F 0 5 dX5_box_107 inX5 kfX5_19 rfl rfl rfl (by decide) rfl ?_
              refine z_aload_n F dX5_box_110 rfl ?_
              refine z_get (ci := 5) (C := RX5) (T := TX5) (N := 20) F 0 1 dX5_box_111 inX5 kfX5_56 rfl rfl rfl (by decide) rfl ?_
              refine z_iload F dX5_box_114 rfl ?_
              refine z_iastN F 4 0 _ dX5_box_116 rfl rfl rfl hn (by decide) rfl ?_
              refine z_aload_n F dX5_box_117 rfl ?_
              refine z_dup F dX5_box_118 rfl ?_
              refine z_get (ci := 5) (C := RX5) (T := TX5) (N := 20) F 0 1 dX5_box_119 inX5 kfX5_56 rfl rfl rfl (by decide) rfl ?_
              refine z_iconst (v := 1) F dX5_box_122 (by decide) ?_
              refine z_iadd F dX5_box_123 ?_
              refine z_topi (y := nI (nb + 1)) (nI_1 nb) ?_
              refine z_put (ci := 5) (C := RX5) (T := TX5) (N := 20) (ty := .int) F 0 1 dX5_box_124 inX5 tyX5 tyX5_ok nmX5 kfX5_56 rfl rfl rfl (by decide) rfl (by decide +kernel) rfl rfl (Nat.le_of_ble_eq_true rfl) ?_
              refine z_aload_n F dX5_box_127 rfl ?_
              refine z_get (ci := 5) (C := RX5) (T := TX5) (N := 20) F 0 1 dX5_box_128 inX5 kfX5_56 rfl rfl rfl (by decide) rfl ?_
              refine z_iconst (v := 1) F dX5_box_131 (by decide) ?_
              refine z_isub F dX5_box_132 ?_
              refine z_topi (y := nI nb) (nI_pred nb) ?_
              exact z_iret F hr rfl hlk dX5_box_133 ⟨rfl, rfl⟩ (Nat.le_of_ble_eq_true rfl) (Nat.le_of_ble_eq_true rfl)
            · exact absurd (by decide) c71
          · exact absurd (show nb = 6 from (nI_eq (by omega) (by decide)).mp c56) (by omega)
        · exact absurd (zin h4.1 h4.2 (by decide)) (of_decide_eq_false (zB_0.mp c43))

set_option maxHeartbeats 4000000 in
set_option maxRecDepth 100000 in
theorem c_M_unit_x1 {l : Launch} {D : va_G} {tys : List (ClassId × FieldType)} {am : Nat → Nat} {cA : ClassId} {cd nb : Nat} {ro lo co ks : Nat → Nat} {nu : Nat} {si we ki hw : Nat → Nat} {sl : Nat} {ch : Option Nat} {em : Bool} {bx : Nat → Option Nat} {sx : Nat → Nat} {cn : Nat} {nx : Nat → Option Nat} {ns pt : Nat → Nat} (v1 v2 v3 : Int32) (h : ¬ ((1 ≤ v1 ∧ v1 ≤ 1000) ∧ (0 ≤ v2 ∧ v2 ≤ 1000) ∧ (0 ≤ v3 ∧ v3 ≤ 7))) : zMi l yX5_unit (zws yX5_unit cX5_unit 4 (some .int)) { frames := 1, cells := 0, slots := 0, locals := 22 } D zcl ((cA, .int) :: tys) zG [.ref (am 0), .int v1, .int v2, .int v3] (wM am cA cd nb ro lo co ks nu si we ki hw sl ch em bx sx cn nx ns pt) (fun r w2 => r = 0 ∧ w2 = (wM am cA 1 nb ro lo co ks nu si we ki hw sl ch em bx sx cn nx ns pt)) 0 0 := by
  refine z_ofi (cc := cX5_unit) (maxL := 4) (ret := (some .int)) (by decide) rfl (Nat.le_of_ble_eq_true rfl) ?_
  intro p e s m below meth c A F hr hlk hnm
  refine z_aload_n F dX5_unit_0 rfl ?_
  refine z_iload_n F dX5_unit_1 rfl ?_
  refine z_iconst (v := 1) F dX5_unit_2 (by decide) ?_
  refine z_sipush (v := 1000) F dX5_unit_3 (by decide) ?_
  refine z_callSi0 F (c_M_in v1 1 1000) (zcwS F.2.2.2.2.1 kcX5_in kmX5_59 ktX5_in knX5 hdX5_in rfl rfl ⟨(Nat.le_of_ble_eq_true rfl), (Nat.le_of_ble_eq_true rfl)⟩) dX5_unit_6 rfl rfl (Nat.le_of_ble_eq_true rfl) ⟨(Nat.le_of_ble_eq_true rfl), (Nat.le_of_ble_eq_true rfl)⟩ ?_
  rintro r w2 ⟨rfl, rfl⟩
  refine z_if_eq (tgt := 33) F dX5_unit_9 (by decide) (fun c9 => ?_) (fun c9 => ?_)
  · refine z_iconst (v := 1) F dX5_unit_33 (by decide) ?_
    refine z_goto (tgt := 51) F dX5_unit_34 (by decide) ?_
    refine z_put (ci := 5) (C := RX5) (T := TX5) (N := 20) (ty := .int) F 0 0 dX5_unit_51 inX5 tyX5 tyX5_ok nmX5 kfX5_53 rfl rfl rfl (by decide) rfl (by decide +kernel) rfl rfl (Nat.le_of_ble_eq_true rfl) ?_
    refine z_aload_n F dX5_unit_54 rfl ?_
    refine z_get (ci := 5) (C := RX5) (T := TX5) (N := 20) F 0 0 dX5_unit_55 inX5 kfX5_53 rfl rfl rfl (by decide) rfl ?_
    refine z_if_le (tgt := 63) F dX5_unit_58 (by decide) (fun c58 => ?_) (fun c58 => ?_)
    · exact absurd c58 (by decide)
    · refine z_iconst (v := 0) F dX5_unit_61 (by decide) ?_
      exact z_iret F hr rfl hlk dX5_unit_62 ⟨rfl, rfl⟩ (Nat.le_of_ble_eq_true rfl) (Nat.le_of_ble_eq_true rfl)
  · refine z_iload_n F dX5_unit_12 rfl ?_
    refine z_iconst (v := 0) F dX5_unit_13 (by decide) ?_
    refine z_sipush (v := 1000) F dX5_unit_14 (by decide) ?_
    refine z_callSi0 F (c_M_in v2 0 1000) (zcwS F.2.2.2.2.1 kcX5_in kmX5_59 ktX5_in knX5 hdX5_in rfl rfl ⟨(Nat.le_of_ble_eq_true rfl), (Nat.le_of_ble_eq_true rfl)⟩) dX5_unit_17 rfl rfl (Nat.le_of_ble_eq_true rfl) ⟨(Nat.le_of_ble_eq_true rfl), (Nat.le_of_ble_eq_true rfl)⟩ ?_
    rintro r w2 ⟨rfl, rfl⟩
    refine z_if_eq (tgt := 33) F dX5_unit_20 (by decide) (fun c20 => ?_) (fun c20 => ?_)
    · refine z_iconst (v := 1) F dX5_unit_33 (by decide) ?_
      refine z_goto (tgt := 51) F dX5_unit_34 (by decide) ?_
      refine z_put (ci := 5) (C := RX5) (T := TX5) (N := 20) (ty := .int) F 0 0 dX5_unit_51 inX5 tyX5 tyX5_ok nmX5 kfX5_53 rfl rfl rfl (by decide) rfl (by decide +kernel) rfl rfl (Nat.le_of_ble_eq_true rfl) ?_
      refine z_aload_n F dX5_unit_54 rfl ?_
      refine z_get (ci := 5) (C := RX5) (T := TX5) (N := 20) F 0 0 dX5_unit_55 inX5 kfX5_53 rfl rfl rfl (by decide) rfl ?_
      refine z_if_le (tgt := 63) F dX5_unit_58 (by decide) (fun c58 => ?_) (fun c58 => ?_)
      · exact absurd c58 (by decide)
      · refine z_iconst (v := 0) F dX5_unit_61 (by decide) ?_
        exact z_iret F hr rfl hlk dX5_unit_62 ⟨rfl, rfl⟩ (Nat.le_of_ble_eq_true rfl) (Nat.le_of_ble_eq_true rfl)
    · refine z_iload_n F dX5_unit_23 rfl ?_
      refine z_iconst (v := 0) F dX5_unit_24 (by decide) ?_
      refine z_bipush (v := 7) F dX5_unit_25 (by decide) ?_
      refine z_callSi0 F (c_M_in v3 0 7) (zcwS F.2.2.2.2.1 kcX5_in kmX5_59 ktX5_in knX5 hdX5_in rfl rfl ⟨(Nat.le_of_ble_eq_true rfl), (Nat.le_of_ble_eq_true rfl)⟩) dX5_unit_27 rfl rfl (Nat.le_of_ble_eq_true rfl) ⟨(Nat.le_of_ble_eq_true rfl), (Nat.le_of_ble_eq_true rfl)⟩ ?_
      rintro r w2 ⟨rfl, rfl⟩
      refine z_if_ne (tgt := 37) F dX5_unit_30 (by decide) (fun c30 => ?_) (fun c30 => ?_)
      · exact absurd ⟨of_decide_eq_true (zB_1.mp c9), of_decide_eq_true (zB_1.mp c20), of_decide_eq_true (zB_1.mp c30)⟩ h
      · refine z_iconst (v := 1) F dX5_unit_33 (by decide) ?_
        refine z_goto (tgt := 51) F dX5_unit_34 (by decide) ?_
        refine z_put (ci := 5) (C := RX5) (T := TX5) (N := 20) (ty := .int) F 0 0 dX5_unit_51 inX5 tyX5 tyX5_ok nmX5 kfX5_53 rfl rfl rfl (by decide) rfl (by decide +kernel) rfl rfl (Nat.le_of_ble_eq_true rfl) ?_
        refine z_aload_n F dX5_unit_54 rfl ?_
        refine z_get (ci := 5) (C := RX5) (T := TX5) (N := 20) F 0 0 dX5_unit_55 inX5 kfX5_53 rfl rfl rfl (by decide) rfl ?_
        refine z_if_le (tgt := 63) F dX5_unit_58 (by decide) (fun c58 => ?_) (fun c58 => ?_)
        · exact absurd c58 (by decide)
        · refine z_iconst (v := 0) F dX5_unit_61 (by decide) ?_
          exact z_iret F hr rfl hlk dX5_unit_62 ⟨rfl, rfl⟩ (Nat.le_of_ble_eq_true rfl) (Nat.le_of_ble_eq_true rfl)

set_option maxHeartbeats 4000000 in
set_option maxRecDepth 100000 in
theorem c_M_unit_x2 {l : Launch} {D : va_G} {tys : List (ClassId × FieldType)} {am : Nat → Nat} {cA : ClassId} {cd nb : Nat} {ro lo co ks : Nat → Nat} {nu : Nat} {si we ki hw : Nat → Nat} {sl : Nat} {ch : Option Nat} {em : Bool} {bx : Nat → Option Nat} {sx : Nat → Nat} {cn : Nat} {nx : Nat → Option Nat} {ns pt : Nat → Nat} (v1 v2 v3 : Int32) (h1 : (1 ≤ v1 ∧ v1 ≤ 1000)) (h2 : (0 ≤ v2 ∧ v2 ≤ 1000)) (h3 : (0 ≤ v3 ∧ v3 ≤ 7)) (hf : nu = 8) : zMi l yX5_unit (zws yX5_unit cX5_unit 4 (some .int)) { frames := 1, cells := 0, slots := 0, locals := 22 } D zcl ((cA, .int) :: tys) zG [.ref (am 0), .int v1, .int v2, .int v3] (wM am cA cd nb ro lo co ks nu si we ki hw sl ch em bx sx cn nx ns pt) (fun r w2 => r = 0 ∧ w2 = (wM am cA 2 nb ro lo co ks nu si we ki hw sl ch em bx sx cn nx ns pt)) 0 0 := by
  refine z_ofi (cc := cX5_unit) (maxL := 4) (ret := (some .int)) (by decide) rfl (Nat.le_of_ble_eq_true rfl) ?_
  intro p e s m below meth c A F hr hlk hnm
  refine z_aload_n F dX5_unit_0 rfl ?_
  refine z_iload_n F dX5_unit_1 rfl ?_
  refine z_iconst (v := 1) F dX5_unit_2 (by decide) ?_
  refine z_sipush (v := 1000) F dX5_unit_3 (by decide) ?_
  refine z_callSi0 F (c_M_in v1 1 1000) (zcwS F.2.2.2.2.1 kcX5_in kmX5_59 ktX5_in knX5 hdX5_in rfl rfl ⟨(Nat.le_of_ble_eq_true rfl), (Nat.le_of_ble_eq_true rfl)⟩) dX5_unit_6 rfl rfl (Nat.le_of_ble_eq_true rfl) ⟨(Nat.le_of_ble_eq_true rfl), (Nat.le_of_ble_eq_true rfl)⟩ ?_
  rintro r w2 ⟨rfl, rfl⟩
  refine z_if_eq (tgt := 33) F dX5_unit_9 (by decide) (fun c9 => ?_) (fun c9 => ?_)
  · exact absurd (h1) (of_decide_eq_false (zB_0.mp c9))
  · refine z_iload_n F dX5_unit_12 rfl ?_
    refine z_iconst (v := 0) F dX5_unit_13 (by decide) ?_
    refine z_sipush (v := 1000) F dX5_unit_14 (by decide) ?_
    refine z_callSi0 F (c_M_in v2 0 1000) (zcwS F.2.2.2.2.1 kcX5_in kmX5_59 ktX5_in knX5 hdX5_in rfl rfl ⟨(Nat.le_of_ble_eq_true rfl), (Nat.le_of_ble_eq_true rfl)⟩) dX5_unit_17 rfl rfl (Nat.le_of_ble_eq_true rfl) ⟨(Nat.le_of_ble_eq_true rfl), (Nat.le_of_ble_eq_true rfl)⟩ ?_
    rintro r w2 ⟨rfl, rfl⟩
    refine z_if_eq (tgt := 33) F dX5_unit_20 (by decide) (fun c20 => ?_) (fun c20 => ?_)
    · exact absurd (h2) (of_decide_eq_false (zB_0.mp c20))
    · refine z_iload_n F dX5_unit_23 rfl ?_
      refine z_iconst (v := 0) F dX5_unit_24 (by decide) ?_
      refine z_bipush (v := 7) F dX5_unit_25 (by decide) ?_
      refine z_callSi0 F (c_M_in v3 0 7) (zcwS F.2.2.2.2.1 kcX5_in kmX5_59 ktX5_in knX5 hdX5_in rfl rfl ⟨(Nat.le_of_ble_eq_true rfl), (Nat.le_of_ble_eq_true rfl)⟩) dX5_unit_27 rfl rfl (Nat.le_of_ble_eq_true rfl) ⟨(Nat.le_of_ble_eq_true rfl), (Nat.le_of_ble_eq_true rfl)⟩ ?_
      rintro r w2 ⟨rfl, rfl⟩
      refine z_if_ne (tgt := 37) F dX5_unit_30 (by decide) (fun c30 => ?_) (fun c30 => ?_)
      · refine z_aload_n F dX5_unit_37 rfl ?_
        refine z_get (ci := 5) (C := RX5) (T := TX5) (N := 20) F 0 6 dX5_unit_38 inX5 kfX5_63 rfl rfl rfl (by decide) rfl ?_
        refine z_bipush (v := 8) F dX5_unit_41 (by decide) ?_
        refine z_icmp_ne (tgt := 50) F dX5_unit_43 (by decide) (fun c43 => ?_) (fun c43 => ?_)
        · exact absurd (by rw [hf]; rfl) c43
        · refine z_iconst (v := 2) F dX5_unit_46 (by decide) ?_
          refine z_goto (tgt := 51) F dX5_unit_47 (by decide) ?_
          refine z_put (ci := 5) (C := RX5) (T := TX5) (N := 20) (ty := .int) F 0 0 dX5_unit_51 inX5 tyX5 tyX5_ok nmX5 kfX5_53 rfl rfl rfl (by decide) rfl (by decide +kernel) rfl rfl (Nat.le_of_ble_eq_true rfl) ?_
          refine z_aload_n F dX5_unit_54 rfl ?_
          refine z_get (ci := 5) (C := RX5) (T := TX5) (N := 20) F 0 0 dX5_unit_55 inX5 kfX5_53 rfl rfl rfl (by decide) rfl ?_
          refine z_if_le (tgt := 63) F dX5_unit_58 (by decide) (fun c58 => ?_) (fun c58 => ?_)
          · exact absurd c58 (by decide)
          · refine z_iconst (v := 0) F dX5_unit_61 (by decide) ?_
            exact z_iret F hr rfl hlk dX5_unit_62 ⟨rfl, rfl⟩ (Nat.le_of_ble_eq_true rfl) (Nat.le_of_ble_eq_true rfl)
      · exact absurd (h3) (of_decide_eq_false (zB_0.mp c30))

set_option maxHeartbeats 4000000 in
set_option maxRecDepth 100000 in
theorem c_M_unit {l : Launch} {D : va_G} {tys : List (ClassId × FieldType)} {am : Nat → Nat} {cA : ClassId} {cd nb : Nat} {ro lo co ks : Nat → Nat} {nu : Nat} {si we ki hw : Nat → Nat} {sl : Nat} {ch : Option Nat} {em : Bool} {bx : Nat → Option Nat} {sx : Nat → Nat} {cn : Nat} {nx : Nat → Option Nat} {ns pt : Nat → Nat} (hn : nu < 8) (a1 a2 a3 : Nat) (h1 : 1 ≤ a1 ∧ a1 ≤ 1000) (h2 : 0 ≤ a2 ∧ a2 ≤ 1000) (h3 : 0 ≤ a3 ∧ a3 ≤ 7) : zMi l yX5_unit (zws yX5_unit cX5_unit 4 (some .int)) { frames := 1, cells := 0, slots := 0, locals := 22 } D zcl ((cA, .int) :: tys) zG [.ref (am 0), .int (nI a1), .int (nI a2), .int (nI a3)] (wM am cA cd nb ro lo co ks nu si we ki hw sl ch em bx sx cn nx ns pt) (fun r1 w2 => r1 = nI nu ∧ w2 = (wM am cA 0 nb ro lo co ks (nu + 1) (zu si nu a1) (zu we nu a2) (zu ki nu a3) hw sl ch em bx sx cn nx ns pt)) 0 0 := by
  refine z_ofi (cc := cX5_unit) (maxL := 4) (ret := (some .int)) (by decide) rfl (Nat.le_of_ble_eq_true rfl) ?_
  intro p e s m below meth c A F hr hlk hnm
  refine z_aload_n F dX5_unit_0 rfl ?_
  refine z_iload_n F dX5_unit_1 rfl ?_
  refine z_iconst (v := 1) F dX5_unit_2 (by decide) ?_
  refine z_sipush (v := 1000) F dX5_unit_3 (by decide) ?_
  refine z_callSi0 F (c_M_in (nI a1) 1 1000) (zcwS F.2.2.2.2.1 kcX5_in kmX5_59 ktX5_in knX5 hdX5_in rfl rfl ⟨(Nat.le_of_ble_eq_true rfl), (Nat.le_of_ble_eq_true rfl)⟩) dX5_unit_6 rfl rfl (Nat.le_of_ble_eq_true rfl) ⟨(Nat.le_of_ble_eq_true rfl), (Nat.le_of_ble_eq_true rfl)⟩ ?_
  rintro r w2 ⟨rfl, rfl⟩
  refine z_if_eq (tgt := 33) F dX5_unit_9 (by decide) (fun c9 => ?_) (fun c9 => ?_)
  · exact absurd (zin h1.1 h1.2 (by decide)) (of_decide_eq_false (zB_0.mp c9))
  · refine z_iload_n F dX5_unit_12 rfl ?_
    refine z_iconst (v := 0) F dX5_unit_13 (by decide) ?_
    refine z_sipush (v := 1000) F dX5_unit_14 (by decide) ?_
    refine z_callSi0 F (c_M_in (nI a2) 0 1000) (zcwS F.2.2.2.2.1 kcX5_in kmX5_59 ktX5_in knX5 hdX5_in rfl rfl ⟨(Nat.le_of_ble_eq_true rfl), (Nat.le_of_ble_eq_true rfl)⟩) dX5_unit_17 rfl rfl (Nat.le_of_ble_eq_true rfl) ⟨(Nat.le_of_ble_eq_true rfl), (Nat.le_of_ble_eq_true rfl)⟩ ?_
    rintro r w2 ⟨rfl, rfl⟩
    refine z_if_eq (tgt := 33) F dX5_unit_20 (by decide) (fun c20 => ?_) (fun c20 => ?_)
    · exact absurd (zin h2.1 h2.2 (by decide)) (of_decide_eq_false (zB_0.mp c20))
    · refine z_iload_n F dX5_unit_23 rfl ?_
      refine z_iconst (v := 0) F dX5_unit_24 (by decide) ?_
      refine z_bipush (v := 7) F dX5_unit_25 (by decide) ?_
      refine z_callSi0 F (c_M_in (nI a3) 0 7) (zcwS F.2.2.2.2.1 kcX5_in kmX5_59 ktX5_in knX5 hdX5_in rfl rfl ⟨(Nat.le_of_ble_eq_true rfl), (Nat.le_of_ble_eq_true rfl)⟩) dX5_unit_27 rfl rfl (Nat.le_of_ble_eq_true rfl) ⟨(Nat.le_of_ble_eq_true rfl), (Nat.le_of_ble_eq_true rfl)⟩ ?_
      rintro r w2 ⟨rfl, rfl⟩
      refine z_if_ne (tgt := 37) F dX5_unit_30 (by decide) (fun c30 => ?_) (fun c30 => ?_)
      · refine z_aload_n F dX5_unit_37 rfl ?_
        refine z_get (ci := 5) (C := RX5) (T := TX5) (N := 20) F 0 6 dX5_unit_38 inX5 kfX5_63 rfl rfl rfl (by decide) rfl ?_
        refine z_bipush (v := 8) F dX5_unit_41 (by decide) ?_
        refine z_icmp_ne (tgt := 50) F dX5_unit_43 (by decide) (fun c43 => ?_) (fun c43 => ?_)
        · refine z_iconst (v := 0) F dX5_unit_50 (by decide) ?_
          refine z_put (ci := 5) (C := RX5) (T := TX5) (N := 20) (ty := .int) F 0 0 dX5_unit_51 inX5 tyX5 tyX5_ok nmX5 kfX5_53 rfl rfl rfl (by decide) rfl (by decide +kernel) rfl rfl (Nat.le_of_ble_eq_true rfl) ?_
          refine z_aload_n F dX5_unit_54 rfl ?_
          refine z_get (ci := 5) (C := RX5) (T := TX5) (N := 20) F 0 0 dX5_unit_55 inX5 kfX5_53 rfl rfl rfl (by decide) rfl ?_
          refine z_if_le (tgt := 63) F dX5_unit_58 (by decide) (fun c58 => ?_) (fun c58 => ?_)
          · refine z_aload_n F dX5_unit_63 rfl ?_
            refine z_get (ci := 5) (C := RX5) (T := TX5) (N := 20) F 0 7 dX5_unit_64 inX5 kfX5_22 rfl rfl rfl (by decide) rfl ?_
            refine z_aload_n F dX5_unit_67 rfl ?_
            refine z_get (ci := 5) (C := RX5) (T := TX5) (N := 20) F 0 6 dX5_unit_68 inX5 kfX5_63 rfl rfl rfl (by decide) rfl ?_
            refine z_iload_n F dX5_unit_71 rfl ?_
            refine z_iastN F 5 0 _ dX5_unit_72 rfl rfl rfl hn (by decide) rfl ?_
            refine z_aload_n F dX5_unit_73 rfl ?_
            refine z_get (ci := 5) (C := RX5) (T := TX5) (N := 20) F 0 8 dX5_unit_74 inX5 kfX5_25 rfl rfl rfl (by decide) rfl ?_
            refine z_aload_n F dX5_unit_77 rfl ?_
            refine z_get (ci := 5) (C := RX5) (T := TX5) (N := 20) F 0 6 dX5_unit_78 inX5 kfX5_63 rfl rfl rfl (by decide) rfl ?_
            refine z_iload_n F dX5_unit_81 rfl ?_
            refine z_iastN F 6 0 _ dX5_unit_82 rfl rfl rfl hn (by decide) rfl ?_
            refine z_aload_n F dX5_unit_83 rfl ?_
            refine z_get (ci := 5) (C := RX5) (T := TX5) (N := 20) F 0 9 dX5_unit_84 inX5 kfX5_28 rfl rfl rfl (by decide) rfl ?_
            refine z_aload_n F dX5_unit_87 rfl ?_
            refine z_get (ci := 5) (C := RX5) (T := TX5) (N := 20) F 0 6 dX5_unit_88 inX5 kfX5_63 rfl rfl rfl (by decide) rfl ?_
            refine z_iload_n F dX5_unit_91 rfl ?_
            refine z_iastN F 7 0 _ dX5_unit_92 rfl rfl rfl hn (by decide) rfl ?_
            refine z_aload_n F dX5_unit_93 rfl ?_
            refine z_dup F dX5_unit_94 rfl ?_
            refine z_get (ci := 5) (C := RX5) (T := TX5) (N := 20) F 0 6 dX5_unit_95 inX5 kfX5_63 rfl rfl rfl (by decide) rfl ?_
            refine z_iconst (v := 1) F dX5_unit_98 (by decide) ?_
            refine z_iadd F dX5_unit_99 ?_
            refine z_topi (y := nI (nu + 1)) (nI_1 nu) ?_
            refine z_put (ci := 5) (C := RX5) (T := TX5) (N := 20) (ty := .int) F 0 6 dX5_unit_100 inX5 tyX5 tyX5_ok nmX5 kfX5_63 rfl rfl rfl (by decide) rfl (by decide +kernel) rfl rfl (Nat.le_of_ble_eq_true rfl) ?_
            refine z_aload_n F dX5_unit_103 rfl ?_
            refine z_get (ci := 5) (C := RX5) (T := TX5) (N := 20) F 0 6 dX5_unit_104 inX5 kfX5_63 rfl rfl rfl (by decide) rfl ?_
            refine z_iconst (v := 1) F dX5_unit_107 (by decide) ?_
            refine z_isub F dX5_unit_108 ?_
            refine z_topi (y := nI nu) (nI_pred nu) ?_
            exact z_iret F hr rfl hlk dX5_unit_109 ⟨rfl, rfl⟩ (Nat.le_of_ble_eq_true rfl) (Nat.le_of_ble_eq_true rfl)
          · exact absurd (by decide) c58
        · exact absurd (show nu = 8 from (nI_eq (by omega) (by decide)).mp c43) (by omega)
      · exact absurd (zin h3.1 h3.2 (by decide)) (of_decide_eq_false (zB_0.mp c30))

set_option maxHeartbeats 4000000 in
set_option maxRecDepth 100000 in
theorem c_M_group_x1 {l : Launch} {D : va_G} {tys : List (ClassId × FieldType)} {am : Nat → Nat} {cA : ClassId} {cd nb : Nat} {ro lo co ks : Nat → Nat} {nu : Nat} {si we ki hw : Nat → Nat} {sl : Nat} {ch : Option Nat} {em : Bool} {bx : Nat → Option Nat} {sx : Nat → Nat} {cn : Nat} {nx : Nat → Option Nat} {ns pt : Nat → Nat} (hn : nu ≤ 8) (v1 v2 v3 : Int32) (h : ¬ ((0 ≤ v1 ∧ v1 < nI nu) ∧ (0 ≤ v2 ∧ v2 < nI nu))) : zMi l yX5_group (zws yX5_group cX5_group 5 (some .int)) { frames := 2, cells := 0, slots := 0, locals := 43 } D zcl ((cA, .int) :: tys) zG [.ref (am 0), .int v1, .int v2, .int v3] (wM am cA cd nb ro lo co ks nu si we ki hw sl ch em bx sx cn nx ns pt) (fun r w2 => r = 0 ∧ w2 = (wM am cA 1 nb ro lo co ks nu si we ki hw sl ch em bx sx cn nx ns pt)) 0 0 := by
  refine z_ofi (cc := cX5_group) (maxL := 5) (ret := (some .int)) (by decide) rfl (Nat.le_of_ble_eq_true rfl) ?_
  intro p e s m below meth c A F hr hlk hnm
  refine z_aload_n F dX5_group_0 rfl ?_
  refine z_aload_n F dX5_group_1 rfl ?_
  refine z_iload_n F dX5_group_2 rfl ?_
  refine z_callVi0 F (c_M_isUnit (by omega) v1) 0 rfl rfl (zcwV F.2.2.2.2.1 kcX5_isUnit kmX5_66 kiX5_isUnit ksX5_isUnit knX5 hdX5_isUnit rfl rfl ⟨(Nat.le_of_ble_eq_true rfl), (Nat.le_of_ble_eq_true rfl)⟩) dX5_group_3 rfl rfl (Nat.le_of_ble_eq_true rfl) ⟨(Nat.le_of_ble_eq_true rfl), (Nat.le_of_ble_eq_true rfl)⟩ ?_
  rintro r w2 ⟨rfl, rfl⟩
  refine z_if_eq (tgt := 17) F dX5_group_6 (by decide) (fun c6 => ?_) (fun c6 => ?_)
  · refine z_iconst (v := 1) F dX5_group_17 (by decide) ?_
    refine z_goto (tgt := 40) F dX5_group_18 (by decide) ?_
    refine z_put (ci := 5) (C := RX5) (T := TX5) (N := 20) (ty := .int) F 0 0 dX5_group_40 inX5 tyX5 tyX5_ok nmX5 kfX5_53 rfl rfl rfl (by decide) rfl (by decide +kernel) rfl rfl (Nat.le_of_ble_eq_true rfl) ?_
    refine z_aload_n F dX5_group_43 rfl ?_
    refine z_get (ci := 5) (C := RX5) (T := TX5) (N := 20) F 0 0 dX5_group_44 inX5 kfX5_53 rfl rfl rfl (by decide) rfl ?_
    refine z_if_le (tgt := 52) F dX5_group_47 (by decide) (fun c47 => ?_) (fun c47 => ?_)
    · exact absurd c47 (by decide)
    · refine z_iconst (v := 0) F dX5_group_50 (by decide) ?_
      exact z_iret F hr rfl hlk dX5_group_51 ⟨rfl, rfl⟩ (Nat.le_of_ble_eq_true rfl) (Nat.le_of_ble_eq_true rfl)
  · refine z_aload_n F dX5_group_9 rfl ?_
    refine z_iload_n F dX5_group_10 rfl ?_
    refine z_callVi0 F (c_M_isUnit (by omega) v2) 0 rfl rfl (zcwV F.2.2.2.2.1 kcX5_isUnit kmX5_66 kiX5_isUnit ksX5_isUnit knX5 hdX5_isUnit rfl rfl ⟨(Nat.le_of_ble_eq_true rfl), (Nat.le_of_ble_eq_true rfl)⟩) dX5_group_11 rfl rfl (Nat.le_of_ble_eq_true rfl) ⟨(Nat.le_of_ble_eq_true rfl), (Nat.le_of_ble_eq_true rfl)⟩ ?_
    rintro r w2 ⟨rfl, rfl⟩
    refine z_if_ne (tgt := 21) F dX5_group_14 (by decide) (fun c14 => ?_) (fun c14 => ?_)
    · exact absurd ⟨of_decide_eq_true (zB_1.mp c6), of_decide_eq_true (zB_1.mp c14)⟩ h
    · refine z_iconst (v := 1) F dX5_group_17 (by decide) ?_
      refine z_goto (tgt := 40) F dX5_group_18 (by decide) ?_
      refine z_put (ci := 5) (C := RX5) (T := TX5) (N := 20) (ty := .int) F 0 0 dX5_group_40 inX5 tyX5 tyX5_ok nmX5 kfX5_53 rfl rfl rfl (by decide) rfl (by decide +kernel) rfl rfl (Nat.le_of_ble_eq_true rfl) ?_
      refine z_aload_n F dX5_group_43 rfl ?_
      refine z_get (ci := 5) (C := RX5) (T := TX5) (N := 20) F 0 0 dX5_group_44 inX5 kfX5_53 rfl rfl rfl (by decide) rfl ?_
      refine z_if_le (tgt := 52) F dX5_group_47 (by decide) (fun c47 => ?_) (fun c47 => ?_)
      · exact absurd c47 (by decide)
      · refine z_iconst (v := 0) F dX5_group_50 (by decide) ?_
        exact z_iret F hr rfl hlk dX5_group_51 ⟨rfl, rfl⟩ (Nat.le_of_ble_eq_true rfl) (Nat.le_of_ble_eq_true rfl)

set_option maxHeartbeats 4000000 in
set_option maxRecDepth 100000 in
theorem c_M_group_x2 {l : Launch} {D : va_G} {tys : List (ClassId × FieldType)} {am : Nat → Nat} {cA : ClassId} {cd nb : Nat} {ro lo co ks : Nat → Nat} {nu : Nat} {si we ki hw : Nat → Nat} {sl : Nat} {ch : Option Nat} {em : Bool} {bx : Nat → Option Nat} {sx : Nat → Nat} {cn : Nat} {nx : Nat → Option Nat} {ns pt : Nat → Nat} (hn : nu ≤ 8) (v1 v2 v3 : Int32) (h1 : (0 ≤ v1 ∧ v1 < nI nu)) (h2 : (0 ≤ v2 ∧ v2 < nI nu)) (h3 : ¬ ((0 ≤ v3 ∧ v3 ≤ 2) ∧ ¬ v1 = v2)) : zMi l yX5_group (zws yX5_group cX5_group 5 (some .int)) { frames := 2, cells := 0, slots := 0, locals := 43 } D zcl ((cA, .int) :: tys) zG [.ref (am 0), .int v1, .int v2, .int v3] (wM am cA cd nb ro lo co ks nu si we ki hw sl ch em bx sx cn nx ns pt) (fun r w2 => r = 0 ∧ w2 = (wM am cA 2 nb ro lo co ks nu si we ki hw sl ch em bx sx cn nx ns pt)) 0 0 := by
  refine z_ofi (cc := cX5_group) (maxL := 5) (ret := (some .int)) (by decide) rfl (Nat.le_of_ble_eq_true rfl) ?_
  intro p e s m below meth c A F hr hlk hnm
  refine z_aload_n F dX5_group_0 rfl ?_
  refine z_aload_n F dX5_group_1 rfl ?_
  refine z_iload_n F dX5_group_2 rfl ?_
  refine z_callVi0 F (c_M_isUnit (by omega) v1) 0 rfl rfl (zcwV F.2.2.2.2.1 kcX5_isUnit kmX5_66 kiX5_isUnit ksX5_isUnit knX5 hdX5_isUnit rfl rfl ⟨(Nat.le_of_ble_eq_true rfl), (Nat.le_of_ble_eq_true rfl)⟩) dX5_group_3 rfl rfl (Nat.le_of_ble_eq_true rfl) ⟨(Nat.le_of_ble_eq_true rfl), (Nat.le_of_ble_eq_true rfl)⟩ ?_
  rintro r w2 ⟨rfl, rfl⟩
  refine z_if_eq (tgt := 17) F dX5_group_6 (by decide) (fun c6 => ?_) (fun c6 => ?_)
  · exact absurd h1 (of_decide_eq_false (zB_0.mp c6))
  · refine z_aload_n F dX5_group_9 rfl ?_
    refine z_iload_n F dX5_group_10 rfl ?_
    refine z_callVi0 F (c_M_isUnit (by omega) v2) 0 rfl rfl (zcwV F.2.2.2.2.1 kcX5_isUnit kmX5_66 kiX5_isUnit ksX5_isUnit knX5 hdX5_isUnit rfl rfl ⟨(Nat.le_of_ble_eq_true rfl), (Nat.le_of_ble_eq_true rfl)⟩) dX5_group_11 rfl rfl (Nat.le_of_ble_eq_true rfl) ⟨(Nat.le_of_ble_eq_true rfl), (Nat.le_of_ble_eq_true rfl)⟩ ?_
    rintro r w2 ⟨rfl, rfl⟩
    refine z_if_ne (tgt := 21) F dX5_group_14 (by decide) (fun c14 => ?_) (fun c14 => ?_)
    · refine z_iload_n F dX5_group_21 rfl ?_
      refine z_iconst (v := 0) F dX5_group_22 (by decide) ?_
      refine z_iconst (v := 2) F dX5_group_23 (by decide) ?_
      refine z_callSi0 F (c_M_in v3 0 2) (zcwS F.2.2.2.2.1 kcX5_in kmX5_59 ktX5_in knX5 hdX5_in rfl rfl ⟨(Nat.le_of_ble_eq_true rfl), (Nat.le_of_ble_eq_true rfl)⟩) dX5_group_24 rfl rfl (Nat.le_of_ble_eq_true rfl) ⟨(Nat.le_of_ble_eq_true rfl), (Nat.le_of_ble_eq_true rfl)⟩ ?_
      rintro r w2 ⟨rfl, rfl⟩
      refine z_if_eq (tgt := 35) F dX5_group_27 (by decide) (fun c27 => ?_) (fun c27 => ?_)
      · refine z_iconst (v := 2) F dX5_group_35 (by decide) ?_
        refine z_goto (tgt := 40) F dX5_group_36 (by decide) ?_
        refine z_put (ci := 5) (C := RX5) (T := TX5) (N := 20) (ty := .int) F 0 0 dX5_group_40 inX5 tyX5 tyX5_ok nmX5 kfX5_53 rfl rfl rfl (by decide) rfl (by decide +kernel) rfl rfl (Nat.le_of_ble_eq_true rfl) ?_
        refine z_aload_n F dX5_group_43 rfl ?_
        refine z_get (ci := 5) (C := RX5) (T := TX5) (N := 20) F 0 0 dX5_group_44 inX5 kfX5_53 rfl rfl rfl (by decide) rfl ?_
        refine z_if_le (tgt := 52) F dX5_group_47 (by decide) (fun c47 => ?_) (fun c47 => ?_)
        · exact absurd c47 (by decide)
        · refine z_iconst (v := 0) F dX5_group_50 (by decide) ?_
          exact z_iret F hr rfl hlk dX5_group_51 ⟨rfl, rfl⟩ (Nat.le_of_ble_eq_true rfl) (Nat.le_of_ble_eq_true rfl)
      · refine z_iload_n F dX5_group_30 rfl ?_
        refine z_iload_n F dX5_group_31 rfl ?_
        refine z_icmp_ne (tgt := 39) F dX5_group_32 (by decide) (fun c32 => ?_) (fun c32 => ?_)
        · exact absurd ⟨of_decide_eq_true (zB_1.mp c27), c32⟩ h3
        · refine z_iconst (v := 2) F dX5_group_35 (by decide) ?_
          refine z_goto (tgt := 40) F dX5_group_36 (by decide) ?_
          refine z_put (ci := 5) (C := RX5) (T := TX5) (N := 20) (ty := .int) F 0 0 dX5_group_40 inX5 tyX5 tyX5_ok nmX5 kfX5_53 rfl rfl rfl (by decide) rfl (by decide +kernel) rfl rfl (Nat.le_of_ble_eq_true rfl) ?_
          refine z_aload_n F dX5_group_43 rfl ?_
          refine z_get (ci := 5) (C := RX5) (T := TX5) (N := 20) F 0 0 dX5_group_44 inX5 kfX5_53 rfl rfl rfl (by decide) rfl ?_
          refine z_if_le (tgt := 52) F dX5_group_47 (by decide) (fun c47 => ?_) (fun c47 => ?_)
          · exact absurd c47 (by decide)
          · refine z_iconst (v := 0) F dX5_group_50 (by decide) ?_
            exact z_iret F hr rfl hlk dX5_group_51 ⟨rfl, rfl⟩ (Nat.le_of_ble_eq_true rfl) (Nat.le_of_ble_eq_true rfl)
    · exact absurd h2 (of_decide_eq_false (zB_0.mp c14))

set_option maxHeartbeats 4000000 in
set_option maxRecDepth 100000 in
theorem c_M_group {l : Launch} {D : va_G} {tys : List (ClassId × FieldType)} {am : Nat → Nat} {cA : ClassId} {cd nb : Nat} {ro lo co ks : Nat → Nat} {nu : Nat} {si we ki hw : Nat → Nat} {sl : Nat} {ch : Option Nat} {em : Bool} {bx : Nat → Option Nat} {sx : Nat → Nat} {cn : Nat} {nx : Nat → Option Nat} {ns pt : Nat → Nat} (hn : nu ≤ 8) (u v h : Nat) (hu : u < nu) (hv : v < nu) (hh2 : h ≤ 2) (hne : u ≠ v) : zMi l yX5_group (zws yX5_group cX5_group 5 (some .int)) { frames := 2, cells := 0, slots := 0, locals := 43 } D zcl ((cA, .int) :: tys) zG [.ref (am 0), .int (nI u), .int (nI v), .int (nI h)] (wM am cA cd nb ro lo co ks nu si we ki hw sl ch em bx sx cn nx ns pt) (fun r w2 => r = nI (hw (8 * u + v)) ∧ w2 = (wM am cA 0 nb ro lo co ks nu si we ki (zu (zu hw (8 * u + v) h) (8 * v + u) h) sl ch em bx sx cn nx ns pt)) 0 0 := by
  refine z_ofi (cc := cX5_group) (maxL := 5) (ret := (some .int)) (by decide) rfl (Nat.le_of_ble_eq_true rfl) ?_
  intro p e s m below meth c A F hr hlk hnm
  refine z_aload_n F dX5_group_0 rfl ?_
  refine z_aload_n F dX5_group_1 rfl ?_
  refine z_iload_n F dX5_group_2 rfl ?_
  refine z_callVi0 F (c_M_isUnit (by omega) (nI u)) 0 rfl rfl (zcwV F.2.2.2.2.1 kcX5_isUnit kmX5_66 kiX5_isUnit ksX5_isUnit knX5 hdX5_isUnit rfl rfl ⟨(Nat.le_of_ble_eq_true rfl), (Nat.le_of_ble_eq_true rfl)⟩) dX5_group_3 rfl rfl (Nat.le_of_ble_eq_true rfl) ⟨(Nat.le_of_ble_eq_true rfl), (Nat.le_of_ble_eq_true rfl)⟩ ?_
  rintro r w2 ⟨rfl, rfl⟩
  refine z_if_eq (tgt := 17) F dX5_group_6 (by decide) (fun c6 => ?_) (fun c6 => ?_)
  · exact absurd ((zhas (by omega)).mpr ⟨u, hu, rfl⟩) (of_decide_eq_false (zB_0.mp c6))
  · refine z_aload_n F dX5_group_9 rfl ?_
    refine z_iload_n F dX5_group_10 rfl ?_
    refine z_callVi0 F (c_M_isUnit (by omega) (nI v)) 0 rfl rfl (zcwV F.2.2.2.2.1 kcX5_isUnit kmX5_66 kiX5_isUnit ksX5_isUnit knX5 hdX5_isUnit rfl rfl ⟨(Nat.le_of_ble_eq_true rfl), (Nat.le_of_ble_eq_true rfl)⟩) dX5_group_11 rfl rfl (Nat.le_of_ble_eq_true rfl) ⟨(Nat.le_of_ble_eq_true rfl), (Nat.le_of_ble_eq_true rfl)⟩ ?_
    rintro r w2 ⟨rfl, rfl⟩
    refine z_if_ne (tgt := 21) F dX5_group_14 (by decide) (fun c14 => ?_) (fun c14 => ?_)
    · refine z_iload_n F dX5_group_21 rfl ?_
      refine z_iconst (v := 0) F dX5_group_22 (by decide) ?_
      refine z_iconst (v := 2) F dX5_group_23 (by decide) ?_
      refine z_callSi0 F (c_M_in (nI h) 0 2) (zcwS F.2.2.2.2.1 kcX5_in kmX5_59 ktX5_in knX5 hdX5_in rfl rfl ⟨(Nat.le_of_ble_eq_true rfl), (Nat.le_of_ble_eq_true rfl)⟩) dX5_group_24 rfl rfl (Nat.le_of_ble_eq_true rfl) ⟨(Nat.le_of_ble_eq_true rfl), (Nat.le_of_ble_eq_true rfl)⟩ ?_
      rintro r w2 ⟨rfl, rfl⟩
      refine z_if_eq (tgt := 35) F dX5_group_27 (by decide) (fun c27 => ?_) (fun c27 => ?_)
      · exact absurd (zin (Nat.zero_le _) hh2 (by decide)) (of_decide_eq_false (zB_0.mp c27))
      · refine z_iload_n F dX5_group_30 rfl ?_
        refine z_iload_n F dX5_group_31 rfl ?_
        refine z_icmp_ne (tgt := 39) F dX5_group_32 (by decide) (fun c32 => ?_) (fun c32 => ?_)
        · refine z_iconst (v := 0) F dX5_group_39 (by decide) ?_
          refine z_put (ci := 5) (C := RX5) (T := TX5) (N := 20) (ty := .int) F 0 0 dX5_group_40 inX5 tyX5 tyX5_ok nmX5 kfX5_53 rfl rfl rfl (by decide) rfl (by decide +kernel) rfl rfl (Nat.le_of_ble_eq_true rfl) ?_
          refine z_aload_n F dX5_group_43 rfl ?_
          refine z_get (ci := 5) (C := RX5) (T := TX5) (N := 20) F 0 0 dX5_group_44 inX5 kfX5_53 rfl rfl rfl (by decide) rfl ?_
          refine z_if_le (tgt := 52) F dX5_group_47 (by decide) (fun c47 => ?_) (fun c47 => ?_)
          · refine z_aload_n F dX5_group_52 rfl ?_
            refine z_get (ci := 5) (C := RX5) (T := TX5) (N := 20) F 0 10 dX5_group_53 inX5 kfX5_31 rfl rfl rfl (by decide) rfl ?_
            refine z_bipush (v := 8) F dX5_group_56 (by decide) ?_
            refine z_iload_n F dX5_group_58 rfl ?_
            refine z_imul F dX5_group_59 ?_
            refine z_topi (y := nI (8 * u)) (pk_mul 8 u) ?_
            refine z_iload_n F dX5_group_60 rfl ?_
            refine z_iadd F dX5_group_61 ?_
            refine z_topi (y := nI (8 * u + v)) (nI_add _ _) ?_
            refine z_ialdN F 8 0 dX5_group_62 rfl rfl rfl (by omega) (by decide) ?_
            refine z_istore F dX5_group_63 (by decide) ?_
            refine z_aload_n F dX5_group_65 rfl ?_
            refine z_get (ci := 5) (C := RX5) (T := TX5) (N := 20) F 0 10 dX5_group_66 inX5 kfX5_31 rfl rfl rfl (by decide) rfl ?_
            refine z_bipush (v := 8) F dX5_group_69 (by decide) ?_
            refine z_iload_n F dX5_group_71 rfl ?_
            refine z_imul F dX5_group_72 ?_
            refine z_topi (y := nI (8 * u)) (pk_mul 8 u) ?_
            refine z_iload_n F dX5_group_73 rfl ?_
            refine z_iadd F dX5_group_74 ?_
            refine z_topi (y := nI (8 * u + v)) (nI_add _ _) ?_
            refine z_iload_n F dX5_group_75 rfl ?_
            refine z_iastN F 8 0 _ dX5_group_76 rfl rfl rfl (by omega) (by decide) rfl ?_
            refine z_aload_n F dX5_group_77 rfl ?_
            refine z_get (ci := 5) (C := RX5) (T := TX5) (N := 20) F 0 10 dX5_group_78 inX5 kfX5_31 rfl rfl rfl (by decide) rfl ?_
            refine z_bipush (v := 8) F dX5_group_81 (by decide) ?_
            refine z_iload_n F dX5_group_83 rfl ?_
            refine z_imul F dX5_group_84 ?_
            refine z_topi (y := nI (8 * v)) (pk_mul 8 v) ?_
            refine z_iload_n F dX5_group_85 rfl ?_
            refine z_iadd F dX5_group_86 ?_
            refine z_topi (y := nI (8 * v + u)) (nI_add _ _) ?_
            refine z_iload_n F dX5_group_87 rfl ?_
            refine z_iastN F 8 0 _ dX5_group_88 rfl rfl rfl (by omega) (by decide) rfl ?_
            refine z_iload F dX5_group_89 rfl ?_
            exact z_iret F hr rfl hlk dX5_group_91 ⟨rfl, rfl⟩ (Nat.le_of_ble_eq_true rfl) (Nat.le_of_ble_eq_true rfl)
          · exact absurd (by decide) c47
        · exact absurd ((nI_eq (by omega) (by omega)).mp c32) hne
    · exact absurd ((zhas (by omega)).mpr ⟨v, hv, rfl⟩) (of_decide_eq_false (zB_0.mp c14))

set_option maxHeartbeats 4000000 in
set_option maxRecDepth 100000 in
theorem c_M_change_x1 {l : Launch} {D : va_G} {tys : List (ClassId × FieldType)} {am : Nat → Nat} {cA : ClassId} {cd nb : Nat} {ro lo co ks : Nat → Nat} {nu : Nat} {si we ki hw : Nat → Nat} {sl : Nat} {ch : Option Nat} {em : Bool} {bx : Nat → Option Nat} {sx : Nat → Nat} {cn : Nat} {nx : Nat → Option Nat} {ns pt : Nat → Nat} (hn : nu ≤ 8) (v1 v2 : Int32) (h : ¬ (0 ≤ v1 ∧ v1 < nI nu)) : zMi l yX5_change (zws yX5_change cX5_change 4 (some .int)) { frames := 2, cells := 0, slots := 0, locals := 43 } D zcl ((cA, .int) :: tys) zG [.ref (am 0), .int v1, .int v2] (wM am cA cd nb ro lo co ks nu si we ki hw sl ch em bx sx cn nx ns pt) (fun r w2 => r = 0 ∧ w2 = (wM am cA 1 nb ro lo co ks nu si we ki hw sl ch em bx sx cn nx ns pt)) 0 0 := by
  refine z_ofi (cc := cX5_change) (maxL := 4) (ret := (some .int)) (by decide) rfl (Nat.le_of_ble_eq_true rfl) ?_
  intro p e s m below meth c A F hr hlk hnm
  refine z_aload_n F dX5_change_0 rfl ?_
  refine z_aload_n F dX5_change_1 rfl ?_
  refine z_iload_n F dX5_change_2 rfl ?_
  refine z_callVi0 F (c_M_isUnit (by omega) v1) 0 rfl rfl (zcwV F.2.2.2.2.1 kcX5_isUnit kmX5_66 kiX5_isUnit ksX5_isUnit knX5 hdX5_isUnit rfl rfl ⟨(Nat.le_of_ble_eq_true rfl), (Nat.le_of_ble_eq_true rfl)⟩) dX5_change_3 rfl rfl (Nat.le_of_ble_eq_true rfl) ⟨(Nat.le_of_ble_eq_true rfl), (Nat.le_of_ble_eq_true rfl)⟩ ?_
  rintro r w2 ⟨rfl, rfl⟩
  refine z_if_ne (tgt := 13) F dX5_change_6 (by decide) (fun c6 => ?_) (fun c6 => ?_)
  · exact absurd (of_decide_eq_true (zB_1.mp c6)) h
  · refine z_iconst (v := 1) F dX5_change_9 (by decide) ?_
    refine z_goto (tgt := 29) F dX5_change_10 (by decide) ?_
    refine z_put (ci := 5) (C := RX5) (T := TX5) (N := 20) (ty := .int) F 0 0 dX5_change_29 inX5 tyX5 tyX5_ok nmX5 kfX5_53 rfl rfl rfl (by decide) rfl (by decide +kernel) rfl rfl (Nat.le_of_ble_eq_true rfl) ?_
    refine z_aload_n F dX5_change_32 rfl ?_
    refine z_get (ci := 5) (C := RX5) (T := TX5) (N := 20) F 0 0 dX5_change_33 inX5 kfX5_53 rfl rfl rfl (by decide) rfl ?_
    refine z_if_le (tgt := 41) F dX5_change_36 (by decide) (fun c36 => ?_) (fun c36 => ?_)
    · exact absurd c36 (by decide)
    · refine z_iconst (v := 0) F dX5_change_39 (by decide) ?_
      exact z_iret F hr rfl hlk dX5_change_40 ⟨rfl, rfl⟩ (Nat.le_of_ble_eq_true rfl) (Nat.le_of_ble_eq_true rfl)

set_option maxHeartbeats 4000000 in
set_option maxRecDepth 100000 in
theorem c_M_change_x2 {l : Launch} {D : va_G} {tys : List (ClassId × FieldType)} {am : Nat → Nat} {cA : ClassId} {cd nb : Nat} {ro lo co ks : Nat → Nat} {nu : Nat} {si we ki hw : Nat → Nat} {sl : Nat} {ch : Option Nat} {em : Bool} {bx : Nat → Option Nat} {sx : Nat → Nat} {cn : Nat} {nx : Nat → Option Nat} {ns pt : Nat → Nat} (hn : nu ≤ 8) (v1 v2 : Int32) (h1 : (0 ≤ v1 ∧ v1 < nI nu)) (h2 : ¬ (0 ≤ v2 ∧ v2 ≤ 1000)) : zMi l yX5_change (zws yX5_change cX5_change 4 (some .int)) { frames := 2, cells := 0, slots := 0, locals := 43 } D zcl ((cA, .int) :: tys) zG [.ref (am 0), .int v1, .int v2] (wM am cA cd nb ro lo co ks nu si we ki hw sl ch em bx sx cn nx ns pt) (fun r w2 => r = 0 ∧ w2 = (wM am cA 2 nb ro lo co ks nu si we ki hw sl ch em bx sx cn nx ns pt)) 0 0 := by
  refine z_ofi (cc := cX5_change) (maxL := 4) (ret := (some .int)) (by decide) rfl (Nat.le_of_ble_eq_true rfl) ?_
  intro p e s m below meth c A F hr hlk hnm
  refine z_aload_n F dX5_change_0 rfl ?_
  refine z_aload_n F dX5_change_1 rfl ?_
  refine z_iload_n F dX5_change_2 rfl ?_
  refine z_callVi0 F (c_M_isUnit (by omega) v1) 0 rfl rfl (zcwV F.2.2.2.2.1 kcX5_isUnit kmX5_66 kiX5_isUnit ksX5_isUnit knX5 hdX5_isUnit rfl rfl ⟨(Nat.le_of_ble_eq_true rfl), (Nat.le_of_ble_eq_true rfl)⟩) dX5_change_3 rfl rfl (Nat.le_of_ble_eq_true rfl) ⟨(Nat.le_of_ble_eq_true rfl), (Nat.le_of_ble_eq_true rfl)⟩ ?_
  rintro r w2 ⟨rfl, rfl⟩
  refine z_if_ne (tgt := 13) F dX5_change_6 (by decide) (fun c6 => ?_) (fun c6 => ?_)
  · refine z_iload_n F dX5_change_13 rfl ?_
    refine z_iconst (v := 0) F dX5_change_14 (by decide) ?_
    refine z_sipush (v := 1000) F dX5_change_15 (by decide) ?_
    refine z_callSi0 F (c_M_in v2 0 1000) (zcwS F.2.2.2.2.1 kcX5_in kmX5_59 ktX5_in knX5 hdX5_in rfl rfl ⟨(Nat.le_of_ble_eq_true rfl), (Nat.le_of_ble_eq_true rfl)⟩) dX5_change_18 rfl rfl (Nat.le_of_ble_eq_true rfl) ⟨(Nat.le_of_ble_eq_true rfl), (Nat.le_of_ble_eq_true rfl)⟩ ?_
    rintro r w2 ⟨rfl, rfl⟩
    refine z_if_ne (tgt := 28) F dX5_change_21 (by decide) (fun c21 => ?_) (fun c21 => ?_)
    · exact absurd (of_decide_eq_true (zB_1.mp c21)) h2
    · refine z_iconst (v := 2) F dX5_change_24 (by decide) ?_
      refine z_goto (tgt := 29) F dX5_change_25 (by decide) ?_
      refine z_put (ci := 5) (C := RX5) (T := TX5) (N := 20) (ty := .int) F 0 0 dX5_change_29 inX5 tyX5 tyX5_ok nmX5 kfX5_53 rfl rfl rfl (by decide) rfl (by decide +kernel) rfl rfl (Nat.le_of_ble_eq_true rfl) ?_
      refine z_aload_n F dX5_change_32 rfl ?_
      refine z_get (ci := 5) (C := RX5) (T := TX5) (N := 20) F 0 0 dX5_change_33 inX5 kfX5_53 rfl rfl rfl (by decide) rfl ?_
      refine z_if_le (tgt := 41) F dX5_change_36 (by decide) (fun c36 => ?_) (fun c36 => ?_)
      · exact absurd c36 (by decide)
      · refine z_iconst (v := 0) F dX5_change_39 (by decide) ?_
        exact z_iret F hr rfl hlk dX5_change_40 ⟨rfl, rfl⟩ (Nat.le_of_ble_eq_true rfl) (Nat.le_of_ble_eq_true rfl)
  · exact absurd h1 (of_decide_eq_false (zB_0.mp c6))

set_option maxHeartbeats 4000000 in
set_option maxRecDepth 100000 in
theorem c_M_change {l : Launch} {D : va_G} {tys : List (ClassId × FieldType)} {am : Nat → Nat} {cA : ClassId} {cd nb : Nat} {ro lo co ks : Nat → Nat} {nu : Nat} {si we ki hw : Nat → Nat} {sl : Nat} {ch : Option Nat} {em : Bool} {bx : Nat → Option Nat} {sx : Nat → Nat} {cn : Nat} {nx : Nat → Option Nat} {ns pt : Nat → Nat} (hn : nu ≤ 8) (u v : Nat) (hu : u < nu) (hv : v ≤ 1000) : zMi l yX5_change (zws yX5_change cX5_change 4 (some .int)) { frames := 2, cells := 0, slots := 0, locals := 43 } D zcl ((cA, .int) :: tys) zG [.ref (am 0), .int (nI u), .int (nI v)] (wM am cA cd nb ro lo co ks nu si we ki hw sl ch em bx sx cn nx ns pt) (fun r w2 => r = nI (we u) ∧ w2 = (wM am cA 0 nb ro lo co ks nu si (zu we u v) ki hw sl ch em bx sx cn nx ns pt)) 0 0 := by
  refine z_ofi (cc := cX5_change) (maxL := 4) (ret := (some .int)) (by decide) rfl (Nat.le_of_ble_eq_true rfl) ?_
  intro p e s m below meth c A F hr hlk hnm
  refine z_aload_n F dX5_change_0 rfl ?_
  refine z_aload_n F dX5_change_1 rfl ?_
  refine z_iload_n F dX5_change_2 rfl ?_
  refine z_callVi0 F (c_M_isUnit (by omega) (nI u)) 0 rfl rfl (zcwV F.2.2.2.2.1 kcX5_isUnit kmX5_66 kiX5_isUnit ksX5_isUnit knX5 hdX5_isUnit rfl rfl ⟨(Nat.le_of_ble_eq_true rfl), (Nat.le_of_ble_eq_true rfl)⟩) dX5_change_3 rfl rfl (Nat.le_of_ble_eq_true rfl) ⟨(Nat.le_of_ble_eq_true rfl), (Nat.le_of_ble_eq_true rfl)⟩ ?_
  rintro r w2 ⟨rfl, rfl⟩
  refine z_if_ne (tgt := 13) F dX5_change_6 (by decide) (fun c6 => ?_) (fun c6 => ?_)
  · refine z_iload_n F dX5_change_13 rfl ?_
    refine z_iconst (v := 0) F dX5_change_14 (by decide) ?_
    refine z_sipush (v := 1000) F dX5_change_15 (by decide) ?_
    refine z_callSi0 F (c_M_in (nI v) 0 1000) (zcwS F.2.2.2.2.1 kcX5_in kmX5_59 ktX5_in knX5 hdX5_in rfl rfl ⟨(Nat.le_of_ble_eq_true rfl), (Nat.le_of_ble_eq_true rfl)⟩) dX5_change_18 rfl rfl (Nat.le_of_ble_eq_true rfl) ⟨(Nat.le_of_ble_eq_true rfl), (Nat.le_of_ble_eq_true rfl)⟩ ?_
    rintro r w2 ⟨rfl, rfl⟩
    refine z_if_ne (tgt := 28) F dX5_change_21 (by decide) (fun c21 => ?_) (fun c21 => ?_)
    · refine z_iconst (v := 0) F dX5_change_28 (by decide) ?_
      refine z_put (ci := 5) (C := RX5) (T := TX5) (N := 20) (ty := .int) F 0 0 dX5_change_29 inX5 tyX5 tyX5_ok nmX5 kfX5_53 rfl rfl rfl (by decide) rfl (by decide +kernel) rfl rfl (Nat.le_of_ble_eq_true rfl) ?_
      refine z_aload_n F dX5_change_32 rfl ?_
      refine z_get (ci := 5) (C := RX5) (T := TX5) (N := 20) F 0 0 dX5_change_33 inX5 kfX5_53 rfl rfl rfl (by decide) rfl ?_
      refine z_if_le (tgt := 41) F dX5_change_36 (by decide) (fun c36 => ?_) (fun c36 => ?_)
      · refine z_aload_n F dX5_change_41 rfl ?_
        refine z_get (ci := 5) (C := RX5) (T := TX5) (N := 20) F 0 8 dX5_change_42 inX5 kfX5_25 rfl rfl rfl (by decide) rfl ?_
        refine z_iload_n F dX5_change_45 rfl ?_
        refine z_ialdN F 6 0 dX5_change_46 rfl rfl rfl (by omega) (by decide) ?_
        refine z_istore_n F dX5_change_47 (by decide) ?_
        refine z_aload_n F dX5_change_48 rfl ?_
        refine z_get (ci := 5) (C := RX5) (T := TX5) (N := 20) F 0 8 dX5_change_49 inX5 kfX5_25 rfl rfl rfl (by decide) rfl ?_
        refine z_iload_n F dX5_change_52 rfl ?_
        refine z_iload_n F dX5_change_53 rfl ?_
        refine z_iastN F 6 0 _ dX5_change_54 rfl rfl rfl (by omega) (by decide) rfl ?_
        refine z_iload_n F dX5_change_55 rfl ?_
        exact z_iret F hr rfl hlk dX5_change_56 ⟨rfl, rfl⟩ (Nat.le_of_ble_eq_true rfl) (Nat.le_of_ble_eq_true rfl)
      · exact absurd (by decide) c36
    · exact absurd (zin (Nat.zero_le _) hv (by decide)) (of_decide_eq_false (zB_0.mp c21))
  · exact absurd ((zhas (by omega)).mpr ⟨u, hu, rfl⟩) (of_decide_eq_false (zB_0.mp c6))

set_option maxHeartbeats 4000000 in
set_option maxRecDepth 100000 in
theorem c_M_slack_x1 {l : Launch} {D : va_G} {tys : List (ClassId × FieldType)} {am : Nat → Nat} {cA : ClassId} {cd nb : Nat} {ro lo co ks : Nat → Nat} {nu : Nat} {si we ki hw : Nat → Nat} {sl : Nat} {ch : Option Nat} {em : Bool} {bx : Nat → Option Nat} {sx : Nat → Nat} {cn : Nat} {nx : Nat → Option Nat} {ns pt : Nat → Nat} (v1 : Int32) (h : ¬ (0 ≤ v1 ∧ v1 ≤ 1000)) : zMv l yX5_slack (zws yX5_slack cX5_slack 2 none) { frames := 1, cells := 0, slots := 0, locals := 22 } D zcl ((cA, .int) :: tys) zG [.ref (am 0), .int v1] (wM am cA cd nb ro lo co ks nu si we ki hw sl ch em bx sx cn nx ns pt) (fun w2 => w2 = (wM am cA 1 nb ro lo co ks nu si we ki hw sl ch em bx sx cn nx ns pt)) 0 0 := by
  refine z_ofv (cc := cX5_slack) (maxL := 2) (ret := none) (by decide) rfl (Nat.le_of_ble_eq_true rfl) ?_
  intro p e s m below meth c A F hr hlk hnm
  refine z_aload_n F dX5_slack_0 rfl ?_
  refine z_iload_n F dX5_slack_1 rfl ?_
  refine z_iconst (v := 0) F dX5_slack_2 (by decide) ?_
  refine z_sipush (v := 1000) F dX5_slack_3 (by decide) ?_
  refine z_callSi0 F (c_M_in v1 0 1000) (zcwS F.2.2.2.2.1 kcX5_in kmX5_59 ktX5_in knX5 hdX5_in rfl rfl ⟨(Nat.le_of_ble_eq_true rfl), (Nat.le_of_ble_eq_true rfl)⟩) dX5_slack_6 rfl rfl (Nat.le_of_ble_eq_true rfl) ⟨(Nat.le_of_ble_eq_true rfl), (Nat.le_of_ble_eq_true rfl)⟩ ?_
  rintro r w2 ⟨rfl, rfl⟩
  refine z_if_eq (tgt := 16) F dX5_slack_9 (by decide) (fun c9 => ?_) (fun c9 => ?_)
  · refine z_iconst (v := 1) F dX5_slack_16 (by decide) ?_
    refine z_put (ci := 5) (C := RX5) (T := TX5) (N := 20) (ty := .int) F 0 0 dX5_slack_17 inX5 tyX5 tyX5_ok nmX5 kfX5_53 rfl rfl rfl (by decide) rfl (by decide +kernel) rfl rfl (Nat.le_of_ble_eq_true rfl) ?_
    refine z_aload_n F dX5_slack_20 rfl ?_
    refine z_get (ci := 5) (C := RX5) (T := TX5) (N := 20) F 0 0 dX5_slack_21 inX5 kfX5_53 rfl rfl rfl (by decide) rfl ?_
    refine z_if_ne (tgt := 32) F dX5_slack_24 (by decide) (fun c24 => ?_) (fun c24 => ?_)
    · exact z_vret F hr hlk dX5_slack_32 rfl (Nat.le_of_ble_eq_true rfl) (Nat.le_of_ble_eq_true rfl)
    · exact absurd c24 (by decide)
  · exact absurd (of_decide_eq_true (zB_1.mp c9)) h

set_option maxHeartbeats 4000000 in
set_option maxRecDepth 100000 in
theorem c_M_slack {l : Launch} {D : va_G} {tys : List (ClassId × FieldType)} {am : Nat → Nat} {cA : ClassId} {cd nb : Nat} {ro lo co ks : Nat → Nat} {nu : Nat} {si we ki hw : Nat → Nat} {sl : Nat} {ch : Option Nat} {em : Bool} {bx : Nat → Option Nat} {sx : Nat → Nat} {cn : Nat} {nx : Nat → Option Nat} {ns pt : Nat → Nat} (v : Nat) (hv : v ≤ 1000) : zMv l yX5_slack (zws yX5_slack cX5_slack 2 none) { frames := 1, cells := 0, slots := 0, locals := 22 } D zcl ((cA, .int) :: tys) zG [.ref (am 0), .int (nI v)] (wM am cA cd nb ro lo co ks nu si we ki hw sl ch em bx sx cn nx ns pt) (fun w2 => w2 = (wM am cA 0 nb ro lo co ks nu si we ki hw v ch em bx sx cn nx ns pt)) 0 0 := by
  refine z_ofv (cc := cX5_slack) (maxL := 2) (ret := none) (by decide) rfl (Nat.le_of_ble_eq_true rfl) ?_
  intro p e s m below meth c A F hr hlk hnm
  refine z_aload_n F dX5_slack_0 rfl ?_
  refine z_iload_n F dX5_slack_1 rfl ?_
  refine z_iconst (v := 0) F dX5_slack_2 (by decide) ?_
  refine z_sipush (v := 1000) F dX5_slack_3 (by decide) ?_
  refine z_callSi0 F (c_M_in (nI v) 0 1000) (zcwS F.2.2.2.2.1 kcX5_in kmX5_59 ktX5_in knX5 hdX5_in rfl rfl ⟨(Nat.le_of_ble_eq_true rfl), (Nat.le_of_ble_eq_true rfl)⟩) dX5_slack_6 rfl rfl (Nat.le_of_ble_eq_true rfl) ⟨(Nat.le_of_ble_eq_true rfl), (Nat.le_of_ble_eq_true rfl)⟩ ?_
  rintro r w2 ⟨rfl, rfl⟩
  refine z_if_eq (tgt := 16) F dX5_slack_9 (by decide) (fun c9 => ?_) (fun c9 => ?_)
  · exact absurd (zin (Nat.zero_le _) hv (by decide)) (of_decide_eq_false (zB_0.mp c9))
  · refine z_iconst (v := 0) F dX5_slack_12 (by decide) ?_
    refine z_goto (tgt := 17) F dX5_slack_13 (by decide) ?_
    refine z_put (ci := 5) (C := RX5) (T := TX5) (N := 20) (ty := .int) F 0 0 dX5_slack_17 inX5 tyX5 tyX5_ok nmX5 kfX5_53 rfl rfl rfl (by decide) rfl (by decide +kernel) rfl rfl (Nat.le_of_ble_eq_true rfl) ?_
    refine z_aload_n F dX5_slack_20 rfl ?_
    refine z_get (ci := 5) (C := RX5) (T := TX5) (N := 20) F 0 0 dX5_slack_21 inX5 kfX5_53 rfl rfl rfl (by decide) rfl ?_
    refine z_if_ne (tgt := 32) F dX5_slack_24 (by decide) (fun c24 => ?_) (fun c24 => ?_)
    · exact absurd rfl c24
    · refine z_aload_n F dX5_slack_27 rfl ?_
      refine z_iload_n F dX5_slack_28 rfl ?_
      refine z_put (ci := 5) (C := RX5) (T := TX5) (N := 20) (ty := .int) F 0 11 dX5_slack_29 inX5 tyX5 tyX5_ok nmX5 kfX5_70 rfl rfl rfl (by decide) rfl (by decide +kernel) rfl rfl (Nat.le_of_ble_eq_true rfl) ?_
      exact z_vret F hr hlk dX5_slack_32 rfl (Nat.le_of_ble_eq_true rfl) (Nat.le_of_ble_eq_true rfl)

set_option maxHeartbeats 4000000 in
set_option maxRecDepth 100000 in
theorem c_M_exact {l : Launch} {D : va_G} {tys : List (ClassId × FieldType)} {am : Nat → Nat} {cA : ClassId} {cd nb : Nat} {ro lo co ks : Nat → Nat} {nu : Nat} {si we ki hw : Nat → Nat} {sl : Nat} {ch : Option Nat} {em : Bool} {bx : Nat → Option Nat} {sx : Nat → Nat} {cn : Nat} {nx : Nat → Option Nat} {ns pt : Nat → Nat} : zMi l yX5_exact (zws yX5_exact cX5_exact 1 (some .boolean)) { frames := 0, cells := 0, slots := 0, locals := 0 } D zcl ((cA, .int) :: tys) zG [.ref (am 0)] (wM am cA cd nb ro lo co ks nu si we ki hw sl ch em bx sx cn nx ns pt) (fun r w2 => r = zB em ∧ w2 = (wM am cA 0 nb ro lo co ks nu si we ki hw sl ch em bx sx cn nx ns pt)) 0 0 := by
  refine z_ofi (cc := cX5_exact) (maxL := 1) (ret := (some .boolean)) (by decide) rfl (Nat.le_of_ble_eq_true rfl) ?_
  intro p e s m below meth c A F hr hlk hnm
  refine z_aload_n F dX5_exact_0 rfl ?_
  refine z_iconst (v := 0) F dX5_exact_1 (by decide) ?_
  refine z_put (ci := 5) (C := RX5) (T := TX5) (N := 20) (ty := .int) F 0 0 dX5_exact_2 inX5 tyX5 tyX5_ok nmX5 kfX5_53 rfl rfl rfl (by decide) rfl (by decide +kernel) rfl rfl (Nat.le_of_ble_eq_true rfl) ?_
  refine z_aload_n F dX5_exact_5 rfl ?_
  refine z_get (ci := 5) (C := RX5) (T := TX5) (N := 20) F 0 13 dX5_exact_6 inX5 kfX5_131 rfl rfl rfl (by decide) rfl ?_
  exact z_iret F hr (zB_nar _) hlk dX5_exact_9 ⟨rfl, rfl⟩ (Nat.le_of_ble_eq_true rfl) (Nat.le_of_ble_eq_true rfl)

set_option maxHeartbeats 4000000 in
set_option maxRecDepth 100000 in
theorem c_M_boxes {l : Launch} {D : va_G} {tys : List (ClassId × FieldType)} {am : Nat → Nat} {cA : ClassId} {cd nb : Nat} {ro lo co ks : Nat → Nat} {nu : Nat} {si we ki hw : Nat → Nat} {sl : Nat} {ch : Option Nat} {em : Bool} {bx : Nat → Option Nat} {sx : Nat → Nat} {cn : Nat} {nx : Nat → Option Nat} {ns pt : Nat → Nat} : zMi l yX5_boxes (zws yX5_boxes cX5_boxes 1 (some .int)) { frames := 0, cells := 0, slots := 0, locals := 0 } D zcl ((cA, .int) :: tys) zG [.ref (am 0)] (wM am cA cd nb ro lo co ks nu si we ki hw sl ch em bx sx cn nx ns pt) (fun r w2 => r = zo ch ∧ w2 = (wM am cA 0 nb ro lo co ks nu si we ki hw sl ch em bx sx cn nx ns pt)) 0 0 := by
  refine z_ofi (cc := cX5_boxes) (maxL := 1) (ret := (some .int)) (by decide) rfl (Nat.le_of_ble_eq_true rfl) ?_
  intro p e s m below meth c A F hr hlk hnm
  refine z_aload_n F dX5_boxes_0 rfl ?_
  refine z_iconst (v := 0) F dX5_boxes_1 (by decide) ?_
  refine z_put (ci := 5) (C := RX5) (T := TX5) (N := 20) (ty := .int) F 0 0 dX5_boxes_2 inX5 tyX5 tyX5_ok nmX5 kfX5_53 rfl rfl rfl (by decide) rfl (by decide +kernel) rfl rfl (Nat.le_of_ble_eq_true rfl) ?_
  refine z_aload_n F dX5_boxes_5 rfl ?_
  refine z_get (ci := 5) (C := RX5) (T := TX5) (N := 20) F 0 12 dX5_boxes_6 inX5 kfX5_34 rfl rfl rfl (by decide) rfl ?_
  exact z_iret F hr rfl hlk dX5_boxes_9 ⟨rfl, rfl⟩ (Nat.le_of_ble_eq_true rfl) (Nat.le_of_ble_eq_true rfl)

set_option maxHeartbeats 4000000 in
set_option maxRecDepth 100000 in
theorem c_M_chosen_x1 {l : Launch} {D : va_G} {tys : List (ClassId × FieldType)} {am : Nat → Nat} {cA : ClassId} {cd nb : Nat} {ro lo co ks : Nat → Nat} {nu : Nat} {si we ki hw : Nat → Nat} {sl : Nat} {ch : Option Nat} {em : Bool} {bx : Nat → Option Nat} {sx : Nat → Nat} {cn : Nat} {nx : Nat → Option Nat} {ns pt : Nat → Nat} (v1 v2 : Int32) (h : ¬ (0 ≤ v1 ∧ v1 ≤ zo ch - 1)) : zMi l yX5_chosen (zws yX5_chosen cX5_chosen 3 (some .int)) { frames := 2, cells := 0, slots := 0, locals := 44 } D zcl ((cA, .int) :: tys) zG [.ref (am 0), .int v1, .int v2] (wM am cA cd nb ro lo co ks nu si we ki hw sl ch em bx sx cn nx ns pt) (fun r w2 => r = 0 ∧ w2 = (wM am cA 1 nb ro lo co ks nu si we ki hw sl ch em bx sx cn nx ns pt)) 0 0 := by
  refine z_ofi (cc := cX5_chosen) (maxL := 3) (ret := (some .int)) (by decide) rfl (Nat.le_of_ble_eq_true rfl) ?_
  intro p e s m below meth c A F hr hlk hnm
  refine z_aload_n F dX5_chosen_0 rfl ?_
  refine z_iload_n F dX5_chosen_1 rfl ?_
  refine z_iconst (v := 0) F dX5_chosen_2 (by decide) ?_
  refine z_aload_n F dX5_chosen_3 rfl ?_
  refine z_get (ci := 5) (C := RX5) (T := TX5) (N := 20) F 0 12 dX5_chosen_4 inX5 kfX5_34 rfl rfl rfl (by decide) rfl ?_
  refine z_iconst (v := 1) F dX5_chosen_7 (by decide) ?_
  refine z_isub F dX5_chosen_8 ?_
  refine z_callSi0 F (c_M_in v1 0 (zo ch - 1)) (zcwS F.2.2.2.2.1 kcX5_in kmX5_59 ktX5_in knX5 hdX5_in rfl rfl ⟨(Nat.le_of_ble_eq_true rfl), (Nat.le_of_ble_eq_true rfl)⟩) dX5_chosen_9 rfl rfl (Nat.le_of_ble_eq_true rfl) ⟨(Nat.le_of_ble_eq_true rfl), (Nat.le_of_ble_eq_true rfl)⟩ ?_
  rintro r w2 ⟨rfl, rfl⟩
  refine z_if_ne (tgt := 19) F dX5_chosen_12 (by decide) (fun c12 => ?_) (fun c12 => ?_)
  · exact absurd (of_decide_eq_true (zB_1.mp c12)) h
  · refine z_iconst (v := 1) F dX5_chosen_15 (by decide) ?_
    refine z_goto (tgt := 33) F dX5_chosen_16 (by decide) ?_
    refine z_put (ci := 5) (C := RX5) (T := TX5) (N := 20) (ty := .int) F 0 0 dX5_chosen_33 inX5 tyX5 tyX5_ok nmX5 kfX5_53 rfl rfl rfl (by decide) rfl (by decide +kernel) rfl rfl (Nat.le_of_ble_eq_true rfl) ?_
    refine z_aload_n F dX5_chosen_36 rfl ?_
    refine z_get (ci := 5) (C := RX5) (T := TX5) (N := 20) F 0 0 dX5_chosen_37 inX5 kfX5_53 rfl rfl rfl (by decide) rfl ?_
    refine z_if_le (tgt := 45) F dX5_chosen_40 (by decide) (fun c40 => ?_) (fun c40 => ?_)
    · exact absurd c40 (by decide)
    · refine z_iconst (v := 0) F dX5_chosen_43 (by decide) ?_
      exact z_iret F hr rfl hlk dX5_chosen_44 ⟨rfl, rfl⟩ (Nat.le_of_ble_eq_true rfl) (Nat.le_of_ble_eq_true rfl)

set_option maxHeartbeats 4000000 in
set_option maxRecDepth 100000 in
theorem c_M_chosen_x2 {l : Launch} {D : va_G} {tys : List (ClassId × FieldType)} {am : Nat → Nat} {cA : ClassId} {cd nb : Nat} {ro lo co ks : Nat → Nat} {nu : Nat} {si we ki hw : Nat → Nat} {sl : Nat} {ch : Option Nat} {em : Bool} {bx : Nat → Option Nat} {sx : Nat → Nat} {cn : Nat} {nx : Nat → Option Nat} {ns pt : Nat → Nat} (v1 v2 : Int32) (h1 : (0 ≤ v1 ∧ v1 ≤ zo ch - 1)) (h2 : ¬ (0 ≤ v2 ∧ v2 ≤ 3)) : zMi l yX5_chosen (zws yX5_chosen cX5_chosen 3 (some .int)) { frames := 2, cells := 0, slots := 0, locals := 44 } D zcl ((cA, .int) :: tys) zG [.ref (am 0), .int v1, .int v2] (wM am cA cd nb ro lo co ks nu si we ki hw sl ch em bx sx cn nx ns pt) (fun r w2 => r = 0 ∧ w2 = (wM am cA 2 nb ro lo co ks nu si we ki hw sl ch em bx sx cn nx ns pt)) 0 0 := by
  refine z_ofi (cc := cX5_chosen) (maxL := 3) (ret := (some .int)) (by decide) rfl (Nat.le_of_ble_eq_true rfl) ?_
  intro p e s m below meth c A F hr hlk hnm
  refine z_aload_n F dX5_chosen_0 rfl ?_
  refine z_iload_n F dX5_chosen_1 rfl ?_
  refine z_iconst (v := 0) F dX5_chosen_2 (by decide) ?_
  refine z_aload_n F dX5_chosen_3 rfl ?_
  refine z_get (ci := 5) (C := RX5) (T := TX5) (N := 20) F 0 12 dX5_chosen_4 inX5 kfX5_34 rfl rfl rfl (by decide) rfl ?_
  refine z_iconst (v := 1) F dX5_chosen_7 (by decide) ?_
  refine z_isub F dX5_chosen_8 ?_
  refine z_callSi0 F (c_M_in v1 0 (zo ch - 1)) (zcwS F.2.2.2.2.1 kcX5_in kmX5_59 ktX5_in knX5 hdX5_in rfl rfl ⟨(Nat.le_of_ble_eq_true rfl), (Nat.le_of_ble_eq_true rfl)⟩) dX5_chosen_9 rfl rfl (Nat.le_of_ble_eq_true rfl) ⟨(Nat.le_of_ble_eq_true rfl), (Nat.le_of_ble_eq_true rfl)⟩ ?_
  rintro r w2 ⟨rfl, rfl⟩
  refine z_if_ne (tgt := 19) F dX5_chosen_12 (by decide) (fun c12 => ?_) (fun c12 => ?_)
  · refine z_iload_n F dX5_chosen_19 rfl ?_
    refine z_iconst (v := 0) F dX5_chosen_20 (by decide) ?_
    refine z_iconst (v := 3) F dX5_chosen_21 (by decide) ?_
    refine z_callSi0 F (c_M_in v2 0 3) (zcwS F.2.2.2.2.1 kcX5_in kmX5_59 ktX5_in knX5 hdX5_in rfl rfl ⟨(Nat.le_of_ble_eq_true rfl), (Nat.le_of_ble_eq_true rfl)⟩) dX5_chosen_22 rfl rfl (Nat.le_of_ble_eq_true rfl) ⟨(Nat.le_of_ble_eq_true rfl), (Nat.le_of_ble_eq_true rfl)⟩ ?_
    rintro r w2 ⟨rfl, rfl⟩
    refine z_if_ne (tgt := 32) F dX5_chosen_25 (by decide) (fun c25 => ?_) (fun c25 => ?_)
    · exact absurd (of_decide_eq_true (zB_1.mp c25)) h2
    · refine z_iconst (v := 2) F dX5_chosen_28 (by decide) ?_
      refine z_goto (tgt := 33) F dX5_chosen_29 (by decide) ?_
      refine z_put (ci := 5) (C := RX5) (T := TX5) (N := 20) (ty := .int) F 0 0 dX5_chosen_33 inX5 tyX5 tyX5_ok nmX5 kfX5_53 rfl rfl rfl (by decide) rfl (by decide +kernel) rfl rfl (Nat.le_of_ble_eq_true rfl) ?_
      refine z_aload_n F dX5_chosen_36 rfl ?_
      refine z_get (ci := 5) (C := RX5) (T := TX5) (N := 20) F 0 0 dX5_chosen_37 inX5 kfX5_53 rfl rfl rfl (by decide) rfl ?_
      refine z_if_le (tgt := 45) F dX5_chosen_40 (by decide) (fun c40 => ?_) (fun c40 => ?_)
      · exact absurd c40 (by decide)
      · refine z_iconst (v := 0) F dX5_chosen_43 (by decide) ?_
        exact z_iret F hr rfl hlk dX5_chosen_44 ⟨rfl, rfl⟩ (Nat.le_of_ble_eq_true rfl) (Nat.le_of_ble_eq_true rfl)
  · exact absurd h1 (of_decide_eq_false (zB_0.mp c12))

set_option maxHeartbeats 4000000 in
set_option maxRecDepth 100000 in
theorem c_M_chosen_0 {l : Launch} {D : va_G} {tys : List (ClassId × FieldType)} {am : Nat → Nat} {cA : ClassId} {cd nb : Nat} {ro lo co ks : Nat → Nat} {nu : Nat} {si we ki hw : Nat → Nat} {sl : Nat} {ch : Option Nat} {em : Bool} {bx : Nat → Option Nat} {sx : Nat → Nat} {cn : Nat} {nx : Nat → Option Nat} {ns pt : Nat → Nat} (hn : nu ≤ 8) (q : Nat) (hq : q ≤ 8) (hb : ∀ x, sx x < 2 ^ 31) (i : Nat) (hi : i < q) : zMi l yX5_chosen (zws yX5_chosen cX5_chosen 3 (some .int)) { frames := 2, cells := 0, slots := 0, locals := 44 } D zcl ((cA, .int) :: tys) zG [.ref (am 0), .int (nI i), .int (nI 0)] (wM am cA cd nb ro lo co ks nu si we ki hw sl (some q) em bx sx cn nx ns pt) (fun r w2 => r = zo (bx i) ∧ w2 = (wM am cA 0 nb ro lo co ks nu si we ki hw sl (some q) em bx sx cn nx ns pt)) 0 0 := by
  refine z_ofi (cc := cX5_chosen) (maxL := 3) (ret := (some .int)) (by decide) rfl (Nat.le_of_ble_eq_true rfl) ?_
  intro p e s m below meth c A F hr hlk hnm
  have hi2 : (0 : Int32) ≤ nI i ∧ nI i ≤ zo (some q) - 1 := ⟨nI_pos' (by omega), (zle_m1 (by omega)).mpr (nI_lt hi (by omega))⟩
  refine z_aload_n F dX5_chosen_0 rfl ?_
  refine z_iload_n F dX5_chosen_1 rfl ?_
  refine z_iconst (v := 0) F dX5_chosen_2 (by decide) ?_
  refine z_aload_n F dX5_chosen_3 rfl ?_
  refine z_get (ci := 5) (C := RX5) (T := TX5) (N := 20) F 0 12 dX5_chosen_4 inX5 kfX5_34 rfl rfl rfl (by decide) rfl ?_
  refine z_iconst (v := 1) F dX5_chosen_7 (by decide) ?_
  refine z_isub F dX5_chosen_8 ?_
  refine z_callSi0 F (c_M_in (nI i) 0 (zo (some q) - 1)) (zcwS F.2.2.2.2.1 kcX5_in kmX5_59 ktX5_in knX5 hdX5_in rfl rfl ⟨(Nat.le_of_ble_eq_true rfl), (Nat.le_of_ble_eq_true rfl)⟩) dX5_chosen_9 rfl rfl (Nat.le_of_ble_eq_true rfl) ⟨(Nat.le_of_ble_eq_true rfl), (Nat.le_of_ble_eq_true rfl)⟩ ?_
  rintro r w2 ⟨rfl, rfl⟩
  refine z_if_ne (tgt := 19) F dX5_chosen_12 (by decide) (fun c12 => ?_) (fun c12 => ?_)
  · refine z_iload_n F dX5_chosen_19 rfl ?_
    refine z_iconst (v := 0) F dX5_chosen_20 (by decide) ?_
    refine z_iconst (v := 3) F dX5_chosen_21 (by decide) ?_
    refine z_callSi0 F (c_M_in (nI 0) 0 3) (zcwS F.2.2.2.2.1 kcX5_in kmX5_59 ktX5_in knX5 hdX5_in rfl rfl ⟨(Nat.le_of_ble_eq_true rfl), (Nat.le_of_ble_eq_true rfl)⟩) dX5_chosen_22 rfl rfl (Nat.le_of_ble_eq_true rfl) ⟨(Nat.le_of_ble_eq_true rfl), (Nat.le_of_ble_eq_true rfl)⟩ ?_
    rintro r w2 ⟨rfl, rfl⟩
    refine z_if_ne (tgt := 32) F dX5_chosen_25 (by decide) (fun c25 => ?_) (fun c25 => ?_)
    · refine z_iconst (v := 0) F dX5_chosen_32 (by decide) ?_
      refine z_put (ci := 5) (C := RX5) (T := TX5) (N := 20) (ty := .int) F 0 0 dX5_chosen_33 inX5 tyX5 tyX5_ok nmX5 kfX5_53 rfl rfl rfl (by decide) rfl (by decide +kernel) rfl rfl (Nat.le_of_ble_eq_true rfl) ?_
      refine z_aload_n F dX5_chosen_36 rfl ?_
      refine z_get (ci := 5) (C := RX5) (T := TX5) (N := 20) F 0 0 dX5_chosen_37 inX5 kfX5_53 rfl rfl rfl (by decide) rfl ?_
      refine z_if_le (tgt := 45) F dX5_chosen_40 (by decide) (fun c40 => ?_) (fun c40 => ?_)
      · refine z_iload_n F dX5_chosen_45 rfl ?_
        refine z_if_ne (tgt := 58) F dX5_chosen_46 (by decide) (fun c46 => ?_) (fun c46 => ?_)
        · exact absurd rfl c46
        · refine z_aload_n F dX5_chosen_49 rfl ?_
          refine z_get (ci := 5) (C := RX5) (T := TX5) (N := 20) F 0 14 dX5_chosen_50 inX5 kfX5_38 rfl rfl rfl (by decide) rfl ?_
          refine z_iload_n F dX5_chosen_53 rfl ?_
          refine z_iald F 9 0 dX5_chosen_54 rfl rfl rfl (by omega) (by decide) ?_
          refine z_goto (tgt := 100) F dX5_chosen_55 (by decide) ?_
          exact z_iret F hr rfl hlk dX5_chosen_100 ⟨rfl, rfl⟩ (Nat.le_of_ble_eq_true rfl) (Nat.le_of_ble_eq_true rfl)
      · exact absurd (by decide) c40
    · exact absurd (by decide) (of_decide_eq_false (zB_0.mp c25))
  · exact absurd hi2 (of_decide_eq_false (zB_0.mp c12))

set_option maxHeartbeats 4000000 in
set_option maxRecDepth 100000 in
theorem c_M_chosen_1 {l : Launch} {D : va_G} {tys : List (ClassId × FieldType)} {am : Nat → Nat} {cA : ClassId} {cd nb : Nat} {ro lo co ks : Nat → Nat} {nu : Nat} {si we ki hw : Nat → Nat} {sl : Nat} {ch : Option Nat} {em : Bool} {bx : Nat → Option Nat} {sx : Nat → Nat} {cn : Nat} {nx : Nat → Option Nat} {ns pt : Nat → Nat} (hn : nu ≤ 8) (q : Nat) (hq : q ≤ 8) (hb : ∀ x, sx x < 2 ^ 31) (i : Nat) (hi : i < q) : zMi l yX5_chosen (zws yX5_chosen cX5_chosen 3 (some .int)) { frames := 2, cells := 0, slots := 0, locals := 44 } D zcl ((cA, .int) :: tys) zG [.ref (am 0), .int (nI i), .int (nI 1)] (wM am cA cd nb ro lo co ks nu si we ki hw sl (some q) em bx sx cn nx ns pt) (fun r w2 => r = nI (sx i) ∧ w2 = (wM am cA 0 nb ro lo co ks nu si we ki hw sl (some q) em bx sx cn nx ns pt)) 0 0 := by
  refine z_ofi (cc := cX5_chosen) (maxL := 3) (ret := (some .int)) (by decide) rfl (Nat.le_of_ble_eq_true rfl) ?_
  intro p e s m below meth c A F hr hlk hnm
  have hi2 : (0 : Int32) ≤ nI i ∧ nI i ≤ zo (some q) - 1 := ⟨nI_pos' (by omega), (zle_m1 (by omega)).mpr (nI_lt hi (by omega))⟩
  refine z_aload_n F dX5_chosen_0 rfl ?_
  refine z_iload_n F dX5_chosen_1 rfl ?_
  refine z_iconst (v := 0) F dX5_chosen_2 (by decide) ?_
  refine z_aload_n F dX5_chosen_3 rfl ?_
  refine z_get (ci := 5) (C := RX5) (T := TX5) (N := 20) F 0 12 dX5_chosen_4 inX5 kfX5_34 rfl rfl rfl (by decide) rfl ?_
  refine z_iconst (v := 1) F dX5_chosen_7 (by decide) ?_
  refine z_isub F dX5_chosen_8 ?_
  refine z_callSi0 F (c_M_in (nI i) 0 (zo (some q) - 1)) (zcwS F.2.2.2.2.1 kcX5_in kmX5_59 ktX5_in knX5 hdX5_in rfl rfl ⟨(Nat.le_of_ble_eq_true rfl), (Nat.le_of_ble_eq_true rfl)⟩) dX5_chosen_9 rfl rfl (Nat.le_of_ble_eq_true rfl) ⟨(Nat.le_of_ble_eq_true rfl), (Nat.le_of_ble_eq_true rfl)⟩ ?_
  rintro r w2 ⟨rfl, rfl⟩
  refine z_if_ne (tgt := 19) F dX5_chosen_12 (by decide) (fun c12 => ?_) (fun c12 => ?_)
  · refine z_iload_n F dX5_chosen_19 rfl ?_
    refine z_iconst (v := 0) F dX5_chosen_20 (by decide) ?_
    refine z_iconst (v := 3) F dX5_chosen_21 (by decide) ?_
    refine z_callSi0 F (c_M_in (nI 1) 0 3) (zcwS F.2.2.2.2.1 kcX5_in kmX5_59 ktX5_in knX5 hdX5_in rfl rfl ⟨(Nat.le_of_ble_eq_true rfl), (Nat.le_of_ble_eq_true rfl)⟩) dX5_chosen_22 rfl rfl (Nat.le_of_ble_eq_true rfl) ⟨(Nat.le_of_ble_eq_true rfl), (Nat.le_of_ble_eq_true rfl)⟩ ?_
    rintro r w2 ⟨rfl, rfl⟩
    refine z_if_ne (tgt := 32) F dX5_chosen_25 (by decide) (fun c25 => ?_) (fun c25 => ?_)
    · refine z_iconst (v := 0) F dX5_chosen_32 (by decide) ?_
      refine z_put (ci := 5) (C := RX5) (T := TX5) (N := 20) (ty := .int) F 0 0 dX5_chosen_33 inX5 tyX5 tyX5_ok nmX5 kfX5_53 rfl rfl rfl (by decide) rfl (by decide +kernel) rfl rfl (Nat.le_of_ble_eq_true rfl) ?_
      refine z_aload_n F dX5_chosen_36 rfl ?_
      refine z_get (ci := 5) (C := RX5) (T := TX5) (N := 20) F 0 0 dX5_chosen_37 inX5 kfX5_53 rfl rfl rfl (by decide) rfl ?_
      refine z_if_le (tgt := 45) F dX5_chosen_40 (by decide) (fun c40 => ?_) (fun c40 => ?_)
      · refine z_iload_n F dX5_chosen_45 rfl ?_
        refine z_if_ne (tgt := 58) F dX5_chosen_46 (by decide) (fun c46 => ?_) (fun c46 => ?_)
        · refine z_iload_n F dX5_chosen_58 rfl ?_
          refine z_iconst (v := 1) F dX5_chosen_59 (by decide) ?_
          refine z_icmp_ne (tgt := 72) F dX5_chosen_60 (by decide) (fun c60 => ?_) (fun c60 => ?_)
          · exact absurd rfl c60
          · refine z_aload_n F dX5_chosen_63 rfl ?_
            refine z_get (ci := 5) (C := RX5) (T := TX5) (N := 20) F 0 15 dX5_chosen_64 inX5 kfX5_41 rfl rfl rfl (by decide) rfl ?_
            refine z_iload_n F dX5_chosen_67 rfl ?_
            refine z_ialdN F 10 0 dX5_chosen_68 rfl rfl rfl (by omega) (by decide) ?_
            refine z_goto (tgt := 100) F dX5_chosen_69 (by decide) ?_
            exact z_iret F hr rfl hlk dX5_chosen_100 ⟨rfl, rfl⟩ (Nat.le_of_ble_eq_true rfl) (Nat.le_of_ble_eq_true rfl)
        · exact absurd c46 (by decide)
      · exact absurd (by decide) c40
    · exact absurd (by decide) (of_decide_eq_false (zB_0.mp c25))
  · exact absurd hi2 (of_decide_eq_false (zB_0.mp c12))

set_option maxHeartbeats 4000000 in
set_option maxRecDepth 100000 in
theorem c_M_chosen_2 {l : Launch} {D : va_G} {tys : List (ClassId × FieldType)} {am : Nat → Nat} {cA : ClassId} {cd nb : Nat} {ro lo co ks : Nat → Nat} {nu : Nat} {si we ki hw : Nat → Nat} {sl : Nat} {ch : Option Nat} {em : Bool} {bx : Nat → Option Nat} {sx : Nat → Nat} {cn : Nat} {nx : Nat → Option Nat} {ns pt : Nat → Nat} (hn : nu ≤ 8) (q : Nat) (hq : q ≤ 8) (hb : ∀ x, sx x < 2 ^ 31) (i : Nat) (hi : i < q) : zMi l yX5_chosen (zws yX5_chosen cX5_chosen 3 (some .int)) { frames := 2, cells := 0, slots := 0, locals := 44 } D zcl ((cA, .int) :: tys) zG [.ref (am 0), .int (nI i), .int (nI 2)] (wM am cA cd nb ro lo co ks nu si we ki hw sl (some q) em bx sx cn nx ns pt) (fun r w2 => r = nI (zsum si (sx i) nu) ∧ w2 = (wM am cA 0 nb ro lo co ks nu si we ki hw sl (some q) em bx sx cn nx ns pt)) 0 0 := by
  refine z_ofi (cc := cX5_chosen) (maxL := 3) (ret := (some .int)) (by decide) rfl (Nat.le_of_ble_eq_true rfl) ?_
  intro p e s m below meth c A F hr hlk hnm
  have hi2 : (0 : Int32) ≤ nI i ∧ nI i ≤ zo (some q) - 1 := ⟨nI_pos' (by omega), (zle_m1 (by omega)).mpr (nI_lt hi (by omega))⟩
  refine z_aload_n F dX5_chosen_0 rfl ?_
  refine z_iload_n F dX5_chosen_1 rfl ?_
  refine z_iconst (v := 0) F dX5_chosen_2 (by decide) ?_
  refine z_aload_n F dX5_chosen_3 rfl ?_
  refine z_get (ci := 5) (C := RX5) (T := TX5) (N := 20) F 0 12 dX5_chosen_4 inX5 kfX5_34 rfl rfl rfl (by decide) rfl ?_
  refine z_iconst (v := 1) F dX5_chosen_7 (by decide) ?_
  refine z_isub F dX5_chosen_8 ?_
  refine z_callSi0 F (c_M_in (nI i) 0 (zo (some q) - 1)) (zcwS F.2.2.2.2.1 kcX5_in kmX5_59 ktX5_in knX5 hdX5_in rfl rfl ⟨(Nat.le_of_ble_eq_true rfl), (Nat.le_of_ble_eq_true rfl)⟩) dX5_chosen_9 rfl rfl (Nat.le_of_ble_eq_true rfl) ⟨(Nat.le_of_ble_eq_true rfl), (Nat.le_of_ble_eq_true rfl)⟩ ?_
  rintro r w2 ⟨rfl, rfl⟩
  refine z_if_ne (tgt := 19) F dX5_chosen_12 (by decide) (fun c12 => ?_) (fun c12 => ?_)
  · refine z_iload_n F dX5_chosen_19 rfl ?_
    refine z_iconst (v := 0) F dX5_chosen_20 (by decide) ?_
    refine z_iconst (v := 3) F dX5_chosen_21 (by decide) ?_
    refine z_callSi0 F (c_M_in (nI 2) 0 3) (zcwS F.2.2.2.2.1 kcX5_in kmX5_59 ktX5_in knX5 hdX5_in rfl rfl ⟨(Nat.le_of_ble_eq_true rfl), (Nat.le_of_ble_eq_true rfl)⟩) dX5_chosen_22 rfl rfl (Nat.le_of_ble_eq_true rfl) ⟨(Nat.le_of_ble_eq_true rfl), (Nat.le_of_ble_eq_true rfl)⟩ ?_
    rintro r w2 ⟨rfl, rfl⟩
    refine z_if_ne (tgt := 32) F dX5_chosen_25 (by decide) (fun c25 => ?_) (fun c25 => ?_)
    · refine z_iconst (v := 0) F dX5_chosen_32 (by decide) ?_
      refine z_put (ci := 5) (C := RX5) (T := TX5) (N := 20) (ty := .int) F 0 0 dX5_chosen_33 inX5 tyX5 tyX5_ok nmX5 kfX5_53 rfl rfl rfl (by decide) rfl (by decide +kernel) rfl rfl (Nat.le_of_ble_eq_true rfl) ?_
      refine z_aload_n F dX5_chosen_36 rfl ?_
      refine z_get (ci := 5) (C := RX5) (T := TX5) (N := 20) F 0 0 dX5_chosen_37 inX5 kfX5_53 rfl rfl rfl (by decide) rfl ?_
      refine z_if_le (tgt := 45) F dX5_chosen_40 (by decide) (fun c40 => ?_) (fun c40 => ?_)
      · refine z_iload_n F dX5_chosen_45 rfl ?_
        refine z_if_ne (tgt := 58) F dX5_chosen_46 (by decide) (fun c46 => ?_) (fun c46 => ?_)
        · refine z_iload_n F dX5_chosen_58 rfl ?_
          refine z_iconst (v := 1) F dX5_chosen_59 (by decide) ?_
          refine z_icmp_ne (tgt := 72) F dX5_chosen_60 (by decide) (fun c60 => ?_) (fun c60 => ?_)
          · refine z_iload_n F dX5_chosen_72 rfl ?_
            refine z_iconst (v := 2) F dX5_chosen_73 (by decide) ?_
            refine z_icmp_ne (tgt := 90) F dX5_chosen_74 (by decide) (fun c74 => ?_) (fun c74 => ?_)
            · exact absurd rfl c74
            · refine z_aload_n F dX5_chosen_77 rfl ?_
              refine z_aload_n F dX5_chosen_78 rfl ?_
              refine z_get (ci := 5) (C := RX5) (T := TX5) (N := 20) F 0 15 dX5_chosen_79 inX5 kfX5_41 rfl rfl rfl (by decide) rfl ?_
              refine z_iload_n F dX5_chosen_82 rfl ?_
              refine z_ialdN F 10 0 dX5_chosen_83 rfl rfl rfl (by omega) (by decide) ?_
              refine z_callVi0 F (c_M_sizes (ch := some q) hn (sx i) (hb i)) 0 rfl rfl (zcwV F.2.2.2.2.1 kcX5_sizes kmX5_80 kiX5_sizes ksX5_sizes knX5 hdX5_sizes rfl rfl ⟨(Nat.le_of_ble_eq_true rfl), (Nat.le_of_ble_eq_true rfl)⟩) dX5_chosen_84 rfl rfl (Nat.le_of_ble_eq_true rfl) ⟨(Nat.le_of_ble_eq_true rfl), (Nat.le_of_ble_eq_true rfl)⟩ ?_
              rintro r w2 ⟨rfl, rfl⟩
              refine z_goto (tgt := 100) F dX5_chosen_87 (by decide) ?_
              exact z_iret F hr rfl hlk dX5_chosen_100 ⟨rfl, rfl⟩ (Nat.le_of_ble_eq_true rfl) (Nat.le_of_ble_eq_true rfl)
          · exact absurd c60 (by decide)
        · exact absurd c46 (by decide)
      · exact absurd (by decide) c40
    · exact absurd (by decide) (of_decide_eq_false (zB_0.mp c25))
  · exact absurd hi2 (of_decide_eq_false (zB_0.mp c12))

set_option maxHeartbeats 4000000 in
set_option maxRecDepth 100000 in
theorem c_M_chosen_3 {l : Launch} {D : va_G} {tys : List (ClassId × FieldType)} {am : Nat → Nat} {cA : ClassId} {cd nb : Nat} {ro lo co ks : Nat → Nat} {nu : Nat} {si we ki hw : Nat → Nat} {sl : Nat} {ch : Option Nat} {em : Bool} {bx : Nat → Option Nat} {sx : Nat → Nat} {cn : Nat} {nx : Nat → Option Nat} {ns pt : Nat → Nat} (hn : nu ≤ 8) (q : Nat) (hq : q ≤ 8) (hb : ∀ x, sx x < 2 ^ 31) (i : Nat) (hi : i < q) : zMi l yX5_chosen (zws yX5_chosen cX5_chosen 3 (some .int)) { frames := 2, cells := 0, slots := 0, locals := 44 } D zcl ((cA, .int) :: tys) zG [.ref (am 0), .int (nI i), .int (nI 3)] (wM am cA cd nb ro lo co ks nu si we ki hw sl (some q) em bx sx cn nx ns pt) (fun r w2 => r = nI (zsum we (sx i) nu) ∧ w2 = (wM am cA 0 nb ro lo co ks nu si we ki hw sl (some q) em bx sx cn nx ns pt)) 0 0 := by
  refine z_ofi (cc := cX5_chosen) (maxL := 3) (ret := (some .int)) (by decide) rfl (Nat.le_of_ble_eq_true rfl) ?_
  intro p e s m below meth c A F hr hlk hnm
  have hi2 : (0 : Int32) ≤ nI i ∧ nI i ≤ zo (some q) - 1 := ⟨nI_pos' (by omega), (zle_m1 (by omega)).mpr (nI_lt hi (by omega))⟩
  refine z_aload_n F dX5_chosen_0 rfl ?_
  refine z_iload_n F dX5_chosen_1 rfl ?_
  refine z_iconst (v := 0) F dX5_chosen_2 (by decide) ?_
  refine z_aload_n F dX5_chosen_3 rfl ?_
  refine z_get (ci := 5) (C := RX5) (T := TX5) (N := 20) F 0 12 dX5_chosen_4 inX5 kfX5_34 rfl rfl rfl (by decide) rfl ?_
  refine z_iconst (v := 1) F dX5_chosen_7 (by decide) ?_
  refine z_isub F dX5_chosen_8 ?_
  refine z_callSi0 F (c_M_in (nI i) 0 (zo (some q) - 1)) (zcwS F.2.2.2.2.1 kcX5_in kmX5_59 ktX5_in knX5 hdX5_in rfl rfl ⟨(Nat.le_of_ble_eq_true rfl), (Nat.le_of_ble_eq_true rfl)⟩) dX5_chosen_9 rfl rfl (Nat.le_of_ble_eq_true rfl) ⟨(Nat.le_of_ble_eq_true rfl), (Nat.le_of_ble_eq_true rfl)⟩ ?_
  rintro r w2 ⟨rfl, rfl⟩
  refine z_if_ne (tgt := 19) F dX5_chosen_12 (by decide) (fun c12 => ?_) (fun c12 => ?_)
  · refine z_iload_n F dX5_chosen_19 rfl ?_
    refine z_iconst (v := 0) F dX5_chosen_20 (by decide) ?_
    refine z_iconst (v := 3) F dX5_chosen_21 (by decide) ?_
    refine z_callSi0 F (c_M_in (nI 3) 0 3) (zcwS F.2.2.2.2.1 kcX5_in kmX5_59 ktX5_in knX5 hdX5_in rfl rfl ⟨(Nat.le_of_ble_eq_true rfl), (Nat.le_of_ble_eq_true rfl)⟩) dX5_chosen_22 rfl rfl (Nat.le_of_ble_eq_true rfl) ⟨(Nat.le_of_ble_eq_true rfl), (Nat.le_of_ble_eq_true rfl)⟩ ?_
    rintro r w2 ⟨rfl, rfl⟩
    refine z_if_ne (tgt := 32) F dX5_chosen_25 (by decide) (fun c25 => ?_) (fun c25 => ?_)
    · refine z_iconst (v := 0) F dX5_chosen_32 (by decide) ?_
      refine z_put (ci := 5) (C := RX5) (T := TX5) (N := 20) (ty := .int) F 0 0 dX5_chosen_33 inX5 tyX5 tyX5_ok nmX5 kfX5_53 rfl rfl rfl (by decide) rfl (by decide +kernel) rfl rfl (Nat.le_of_ble_eq_true rfl) ?_
      refine z_aload_n F dX5_chosen_36 rfl ?_
      refine z_get (ci := 5) (C := RX5) (T := TX5) (N := 20) F 0 0 dX5_chosen_37 inX5 kfX5_53 rfl rfl rfl (by decide) rfl ?_
      refine z_if_le (tgt := 45) F dX5_chosen_40 (by decide) (fun c40 => ?_) (fun c40 => ?_)
      · refine z_iload_n F dX5_chosen_45 rfl ?_
        refine z_if_ne (tgt := 58) F dX5_chosen_46 (by decide) (fun c46 => ?_) (fun c46 => ?_)
        · refine z_iload_n F dX5_chosen_58 rfl ?_
          refine z_iconst (v := 1) F dX5_chosen_59 (by decide) ?_
          refine z_icmp_ne (tgt := 72) F dX5_chosen_60 (by decide) (fun c60 => ?_) (fun c60 => ?_)
          · refine z_iload_n F dX5_chosen_72 rfl ?_
            refine z_iconst (v := 2) F dX5_chosen_73 (by decide) ?_
            refine z_icmp_ne (tgt := 90) F dX5_chosen_74 (by decide) (fun c74 => ?_) (fun c74 => ?_)
            · refine z_aload_n F dX5_chosen_90 rfl ?_
              refine z_aload_n F dX5_chosen_91 rfl ?_
              refine z_get (ci := 5) (C := RX5) (T := TX5) (N := 20) F 0 15 dX5_chosen_92 inX5 kfX5_41 rfl rfl rfl (by decide) rfl ?_
              refine z_iload_n F dX5_chosen_95 rfl ?_
              refine z_ialdN F 10 0 dX5_chosen_96 rfl rfl rfl (by omega) (by decide) ?_
              refine z_callVi0 F (c_M_weights (ch := some q) hn (sx i) (hb i)) 0 rfl rfl (zcwV F.2.2.2.2.1 kcX5_weights kmX5_84 kiX5_weights ksX5_weights knX5 hdX5_weights rfl rfl ⟨(Nat.le_of_ble_eq_true rfl), (Nat.le_of_ble_eq_true rfl)⟩) dX5_chosen_97 rfl rfl (Nat.le_of_ble_eq_true rfl) ⟨(Nat.le_of_ble_eq_true rfl), (Nat.le_of_ble_eq_true rfl)⟩ ?_
              rintro r w2 ⟨rfl, rfl⟩
              exact z_iret F hr rfl hlk dX5_chosen_100 ⟨rfl, rfl⟩ (Nat.le_of_ble_eq_true rfl) (Nat.le_of_ble_eq_true rfl)
            · exact absurd c74 (by decide)
          · exact absurd c60 (by decide)
        · exact absurd c46 (by decide)
      · exact absurd (by decide) c40
    · exact absurd (by decide) (of_decide_eq_false (zB_0.mp c25))
  · exact absurd hi2 (of_decide_eq_false (zB_0.mp c12))
