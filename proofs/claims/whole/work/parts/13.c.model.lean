theorem zsub_le {x r q : Nat} (hx : x ≤ 8000) (hr : r ≤ 1000) (hq : q ≤ 1000) : nI x ≤ nI r - nI q ↔ x + q ≤ r := by
  rw [Int32.le_iff_toInt_le, nI_toInt (by omega), pk_sub_toInt (by omega) (by omega)]
  omega

set_option maxHeartbeats 4000000 in
set_option maxRecDepth 100000 in
theorem c_M_passes {l : Launch} {D : va_G} {tys : List (ClassId × FieldType)} {am : Nat → Nat} {cA : ClassId} {cd nb : Nat} {ro lo co ks : Nat → Nat} {nu : Nat} {si we ki hw : Nat → Nat} {sl : Nat} {ch : Option Nat} {em : Bool} {bx : Nat → Option Nat} {sx : Nat → Nat} {cn : Nat} {nx : Nat → Option Nat} {ns pt : Nat → Nat} (ok : zok ro lo co ks nb sl si we ki (fun _ => 0) (fun _ => 0) nu) (hh : ∀ x, hw x < 2 ^ 31) (b a t : Nat) (hb : b < 6) (ha : a < 2 ^ 31) (ht : t ≤ 3) : zMi l yX5_passes (zws yX5_passes cX5_passes 4 (some .boolean)) { frames := 2, cells := 0, slots := 0, locals := 44 } D zcl ((cA, .int) :: tys) zG [.ref (am 0), .int (nI b), .int (nI a), .int (nI t)] (wM am cA cd nb ro lo co ks nu si we ki hw sl ch em bx sx cn nx ns pt) (fun r w2 => r = zB (zmp ro lo ks sl si we ki nu b a t) ∧ w2 = (wM am cA cd nb ro lo co ks nu si we ki hw sl ch em bx sx cn nx ns pt)) 0 0 := by
  refine z_ofi (cc := cX5_passes) (maxL := 4) (ret := (some .boolean)) (by decide) rfl (Nat.le_of_ble_eq_true rfl) ?_
  intro p e s m below meth c A F hr hlk hnm
  obtain ⟨o1, o2, o3, o4, o5, o6, o7, o8, o9, o10, o11, o12⟩ := id ok
  have hsi := zsum_b (a := a) o8 o3
  have hwe := zsum_b (a := a) o9 o3
  refine z_iload_n F dX5_passes_0 rfl ?_
  refine z_if_le (tgt := 15) F dX5_passes_1 (by decide) (fun c1 => ?_) (fun c1 => ?_)
  · have n1 : t = 0 := by
      rcases Nat.eq_zero_or_pos t with q | q
      · exact q
      · exact absurd c1 (nI_nle q (by omega))
    refine z_iload_n F dX5_passes_15 rfl ?_
    refine z_iconst (v := 1) F dX5_passes_16 (by decide) ?_
    refine z_icmp_le (tgt := 41) F dX5_passes_17 (by decide) (fun c17 => ?_) (fun c17 => ?_)
    · have n17 : t ≤ 1 := (nI_leI (by omega) (by decide)).mp c17
      refine z_iload_n F dX5_passes_41 rfl ?_
      refine z_iconst (v := 3) F dX5_passes_42 (by decide) ?_
      refine z_icmp_lt (tgt := 60) F dX5_passes_43 (by decide) (fun c43 => ?_) (fun c43 => ?_)
      · have n43 : t < 3 := (nI_ltI (by omega) (by decide)).mp c43
        refine z_iconst (v := 1) F dX5_passes_60 (by decide) ?_
        refine z_goto (tgt := 65) F dX5_passes_61 (by decide) ?_
        exact z_iret F hr rfl hlk dX5_passes_65 ⟨by unfold zmp; rw [show (decide (t = 0) || zmk ks ki nu b a) = true from by rw [decide_eq_true n1]; rfl, show (decide (t ≤ 1) || decide (zsum si a nu + sl ≤ ro b)) = true from by rw [decide_eq_true n17]; rfl, decide_eq_true n43]; rfl, rfl⟩ (Nat.le_of_ble_eq_true rfl) (Nat.le_of_ble_eq_true rfl)
      · have n43 : ¬ t < 3 := fun q => c43 ((nI_ltI (by omega) (by decide)).mpr q)
        refine z_aload_n F dX5_passes_46 rfl ?_
        refine z_iload_n F dX5_passes_47 rfl ?_
        refine z_callVi0 F (c_M_weights o3 a ha) 0 rfl rfl (zcwV F.2.2.2.2.1 kcX5_weights kmX5_84 kiX5_weights ksX5_weights knX5 hdX5_weights rfl rfl ⟨(Nat.le_of_ble_eq_true rfl), (Nat.le_of_ble_eq_true rfl)⟩) dX5_passes_48 rfl rfl (Nat.le_of_ble_eq_true rfl) ⟨(Nat.le_of_ble_eq_true rfl), (Nat.le_of_ble_eq_true rfl)⟩ ?_
        rintro r w2 ⟨rfl, rfl⟩
        refine z_aload_n F dX5_passes_51 rfl ?_
        refine z_get (ci := 5) (C := RX5) (T := TX5) (N := 20) F 0 3 dX5_passes_52 inX5 kfX5_13 rfl rfl rfl (by decide) rfl ?_
        refine z_iload_n F dX5_passes_55 rfl ?_
        refine z_ialdN F 2 0 dX5_passes_56 rfl rfl rfl hb (by decide) ?_
        refine z_icmp_gt (tgt := 64) F dX5_passes_57 (by decide) (fun c57 => ?_) (fun c57 => ?_)
        · have n57 : ¬ zsum we a nu ≤ lo b := fun q => zlt_nge c57 ((nI_leI (by omega) (by have := o5 b; omega)).mpr q)
          refine z_iconst (v := 0) F dX5_passes_64 (by decide) ?_
          exact z_iret F hr rfl hlk dX5_passes_65 ⟨by unfold zmp; rw [show (decide (t = 0) || zmk ks ki nu b a) = true from by rw [decide_eq_true n1]; rfl, show (decide (t ≤ 1) || decide (zsum si a nu + sl ≤ ro b)) = true from by rw [decide_eq_true n17]; rfl, decide_eq_false n43, decide_eq_false n57]; rfl, rfl⟩ (Nat.le_of_ble_eq_true rfl) (Nat.le_of_ble_eq_true rfl)
        · have n57 : zsum we a nu ≤ lo b := (nI_leI (by omega) (by have := o5 b; omega)).mp (znlt_ge c57)
          refine z_iconst (v := 1) F dX5_passes_60 (by decide) ?_
          refine z_goto (tgt := 65) F dX5_passes_61 (by decide) ?_
          exact z_iret F hr rfl hlk dX5_passes_65 ⟨by unfold zmp; rw [show (decide (t = 0) || zmk ks ki nu b a) = true from by rw [decide_eq_true n1]; rfl, show (decide (t ≤ 1) || decide (zsum si a nu + sl ≤ ro b)) = true from by rw [decide_eq_true n17]; rfl, decide_eq_false n43, decide_eq_true n57]; rfl, rfl⟩ (Nat.le_of_ble_eq_true rfl) (Nat.le_of_ble_eq_true rfl)
    · have n17 : ¬ t ≤ 1 := fun q => c17 ((nI_leI (by omega) (by decide)).mpr q)
      refine z_aload_n F dX5_passes_20 rfl ?_
      refine z_iload_n F dX5_passes_21 rfl ?_
      refine z_callVi0 F (c_M_sizes o3 a ha) 0 rfl rfl (zcwV F.2.2.2.2.1 kcX5_sizes kmX5_80 kiX5_sizes ksX5_sizes knX5 hdX5_sizes rfl rfl ⟨(Nat.le_of_ble_eq_true rfl), (Nat.le_of_ble_eq_true rfl)⟩) dX5_passes_22 rfl rfl (Nat.le_of_ble_eq_true rfl) ⟨(Nat.le_of_ble_eq_true rfl), (Nat.le_of_ble_eq_true rfl)⟩ ?_
      rintro r w2 ⟨rfl, rfl⟩
      refine z_aload_n F dX5_passes_25 rfl ?_
      refine z_get (ci := 5) (C := RX5) (T := TX5) (N := 20) F 0 2 dX5_passes_26 inX5 kfX5_7 rfl rfl rfl (by decide) rfl ?_
      refine z_iload_n F dX5_passes_29 rfl ?_
      refine z_ialdN F 1 0 dX5_passes_30 rfl rfl rfl hb (by decide) ?_
      refine z_aload_n F dX5_passes_31 rfl ?_
      refine z_get (ci := 5) (C := RX5) (T := TX5) (N := 20) F 0 11 dX5_passes_32 inX5 kfX5_70 rfl rfl rfl (by decide) rfl ?_
      refine z_isub F dX5_passes_35 ?_
      refine z_icmp_le (tgt := 41) F dX5_passes_36 (by decide) (fun c36 => ?_) (fun c36 => ?_)
      · have n36 : zsum si a nu + sl ≤ ro b := (zsub_le hsi (o4 b) o2).mp c36
        refine z_iload_n F dX5_passes_41 rfl ?_
        refine z_iconst (v := 3) F dX5_passes_42 (by decide) ?_
        refine z_icmp_lt (tgt := 60) F dX5_passes_43 (by decide) (fun c43 => ?_) (fun c43 => ?_)
        · have n43 : t < 3 := (nI_ltI (by omega) (by decide)).mp c43
          refine z_iconst (v := 1) F dX5_passes_60 (by decide) ?_
          refine z_goto (tgt := 65) F dX5_passes_61 (by decide) ?_
          exact z_iret F hr rfl hlk dX5_passes_65 ⟨by unfold zmp; rw [show (decide (t = 0) || zmk ks ki nu b a) = true from by rw [decide_eq_true n1]; rfl, show (decide (t ≤ 1) || decide (zsum si a nu + sl ≤ ro b)) = true from by rw [decide_eq_true n36]; exact Bool.or_true _, decide_eq_true n43]; rfl, rfl⟩ (Nat.le_of_ble_eq_true rfl) (Nat.le_of_ble_eq_true rfl)
        · have n43 : ¬ t < 3 := fun q => c43 ((nI_ltI (by omega) (by decide)).mpr q)
          refine z_aload_n F dX5_passes_46 rfl ?_
          refine z_iload_n F dX5_passes_47 rfl ?_
          refine z_callVi0 F (c_M_weights o3 a ha) 0 rfl rfl (zcwV F.2.2.2.2.1 kcX5_weights kmX5_84 kiX5_weights ksX5_weights knX5 hdX5_weights rfl rfl ⟨(Nat.le_of_ble_eq_true rfl), (Nat.le_of_ble_eq_true rfl)⟩) dX5_passes_48 rfl rfl (Nat.le_of_ble_eq_true rfl) ⟨(Nat.le_of_ble_eq_true rfl), (Nat.le_of_ble_eq_true rfl)⟩ ?_
          rintro r w2 ⟨rfl, rfl⟩
          refine z_aload_n F dX5_passes_51 rfl ?_
          refine z_get (ci := 5) (C := RX5) (T := TX5) (N := 20) F 0 3 dX5_passes_52 inX5 kfX5_13 rfl rfl rfl (by decide) rfl ?_
          refine z_iload_n F dX5_passes_55 rfl ?_
          refine z_ialdN F 2 0 dX5_passes_56 rfl rfl rfl hb (by decide) ?_
          refine z_icmp_gt (tgt := 64) F dX5_passes_57 (by decide) (fun c57 => ?_) (fun c57 => ?_)
          · have n57 : ¬ zsum we a nu ≤ lo b := fun q => zlt_nge c57 ((nI_leI (by omega) (by have := o5 b; omega)).mpr q)
            refine z_iconst (v := 0) F dX5_passes_64 (by decide) ?_
            exact z_iret F hr rfl hlk dX5_passes_65 ⟨by unfold zmp; rw [show (decide (t = 0) || zmk ks ki nu b a) = true from by rw [decide_eq_true n1]; rfl, show (decide (t ≤ 1) || decide (zsum si a nu + sl ≤ ro b)) = true from by rw [decide_eq_true n36]; exact Bool.or_true _, decide_eq_false n43, decide_eq_false n57]; rfl, rfl⟩ (Nat.le_of_ble_eq_true rfl) (Nat.le_of_ble_eq_true rfl)
          · have n57 : zsum we a nu ≤ lo b := (nI_leI (by omega) (by have := o5 b; omega)).mp (znlt_ge c57)
            refine z_iconst (v := 1) F dX5_passes_60 (by decide) ?_
            refine z_goto (tgt := 65) F dX5_passes_61 (by decide) ?_
            exact z_iret F hr rfl hlk dX5_passes_65 ⟨by unfold zmp; rw [show (decide (t = 0) || zmk ks ki nu b a) = true from by rw [decide_eq_true n1]; rfl, show (decide (t ≤ 1) || decide (zsum si a nu + sl ≤ ro b)) = true from by rw [decide_eq_true n36]; exact Bool.or_true _, decide_eq_false n43, decide_eq_true n57]; rfl, rfl⟩ (Nat.le_of_ble_eq_true rfl) (Nat.le_of_ble_eq_true rfl)
      · have n36 : ¬ zsum si a nu + sl ≤ ro b := fun q => c36 ((zsub_le hsi (o4 b) o2).mpr q)
        refine z_iconst (v := 0) F dX5_passes_39 (by decide) ?_
        exact z_iret F hr rfl hlk dX5_passes_40 ⟨by unfold zmp; rw [show (decide (t = 0) || zmk ks ki nu b a) = true from by rw [decide_eq_true n1]; rfl, decide_eq_false n17, decide_eq_false n36]; rfl, rfl⟩ (Nat.le_of_ble_eq_true rfl) (Nat.le_of_ble_eq_true rfl)
  · have n1 : ¬ t = 0 := fun q => c1 (by rw [q]; decide)
    refine z_aload_n F dX5_passes_4 rfl ?_
    refine z_iload_n F dX5_passes_5 rfl ?_
    refine z_iload_n F dX5_passes_6 rfl ?_
    refine z_callVi0 F (c_M_takes o3 (zk8 o7 (by decide)) (fun x => Nat.lt_trans (o10 x) (by decide)) b a hb ha) 0 rfl rfl (zcwV F.2.2.2.2.1 kcX5_takesKinds kmX5_77 kiX5_takesKinds ksX5_takesKinds knX5 hdX5_takesKinds rfl rfl ⟨(Nat.le_of_ble_eq_true rfl), (Nat.le_of_ble_eq_true rfl)⟩) dX5_passes_7 rfl rfl (Nat.le_of_ble_eq_true rfl) ⟨(Nat.le_of_ble_eq_true rfl), (Nat.le_of_ble_eq_true rfl)⟩ ?_
    rintro r w2 ⟨rfl, rfl⟩
    refine z_if_ne (tgt := 15) F dX5_passes_10 (by decide) (fun c10 => ?_) (fun c10 => ?_)
    · refine z_iload_n F dX5_passes_15 rfl ?_
      refine z_iconst (v := 1) F dX5_passes_16 (by decide) ?_
      refine z_icmp_le (tgt := 41) F dX5_passes_17 (by decide) (fun c17 => ?_) (fun c17 => ?_)
      · have n17 : t ≤ 1 := (nI_leI (by omega) (by decide)).mp c17
        refine z_iload_n F dX5_passes_41 rfl ?_
        refine z_iconst (v := 3) F dX5_passes_42 (by decide) ?_
        refine z_icmp_lt (tgt := 60) F dX5_passes_43 (by decide) (fun c43 => ?_) (fun c43 => ?_)
        · have n43 : t < 3 := (nI_ltI (by omega) (by decide)).mp c43
          refine z_iconst (v := 1) F dX5_passes_60 (by decide) ?_
          refine z_goto (tgt := 65) F dX5_passes_61 (by decide) ?_
          exact z_iret F hr rfl hlk dX5_passes_65 ⟨by unfold zmp; rw [show (decide (t = 0) || zmk ks ki nu b a) = true from by rw [show zmk ks ki nu b a = true from zB_1.mp c10]; exact Bool.or_true _, show (decide (t ≤ 1) || decide (zsum si a nu + sl ≤ ro b)) = true from by rw [decide_eq_true n17]; rfl, decide_eq_true n43]; rfl, rfl⟩ (Nat.le_of_ble_eq_true rfl) (Nat.le_of_ble_eq_true rfl)
        · have n43 : ¬ t < 3 := fun q => c43 ((nI_ltI (by omega) (by decide)).mpr q)
          refine z_aload_n F dX5_passes_46 rfl ?_
          refine z_iload_n F dX5_passes_47 rfl ?_
          refine z_callVi0 F (c_M_weights o3 a ha) 0 rfl rfl (zcwV F.2.2.2.2.1 kcX5_weights kmX5_84 kiX5_weights ksX5_weights knX5 hdX5_weights rfl rfl ⟨(Nat.le_of_ble_eq_true rfl), (Nat.le_of_ble_eq_true rfl)⟩) dX5_passes_48 rfl rfl (Nat.le_of_ble_eq_true rfl) ⟨(Nat.le_of_ble_eq_true rfl), (Nat.le_of_ble_eq_true rfl)⟩ ?_
          rintro r w2 ⟨rfl, rfl⟩
          refine z_aload_n F dX5_passes_51 rfl ?_
          refine z_get (ci := 5) (C := RX5) (T := TX5) (N := 20) F 0 3 dX5_passes_52 inX5 kfX5_13 rfl rfl rfl (by decide) rfl ?_
          refine z_iload_n F dX5_passes_55 rfl ?_
          refine z_ialdN F 2 0 dX5_passes_56 rfl rfl rfl hb (by decide) ?_
          refine z_icmp_gt (tgt := 64) F dX5_passes_57 (by decide) (fun c57 => ?_) (fun c57 => ?_)
          · have n57 : ¬ zsum we a nu ≤ lo b := fun q => zlt_nge c57 ((nI_leI (by omega) (by have := o5 b; omega)).mpr q)
            refine z_iconst (v := 0) F dX5_passes_64 (by decide) ?_
            exact z_iret F hr rfl hlk dX5_passes_65 ⟨by unfold zmp; rw [show (decide (t = 0) || zmk ks ki nu b a) = true from by rw [show zmk ks ki nu b a = true from zB_1.mp c10]; exact Bool.or_true _, show (decide (t ≤ 1) || decide (zsum si a nu + sl ≤ ro b)) = true from by rw [decide_eq_true n17]; rfl, decide_eq_false n43, decide_eq_false n57]; rfl, rfl⟩ (Nat.le_of_ble_eq_true rfl) (Nat.le_of_ble_eq_true rfl)
          · have n57 : zsum we a nu ≤ lo b := (nI_leI (by omega) (by have := o5 b; omega)).mp (znlt_ge c57)
            refine z_iconst (v := 1) F dX5_passes_60 (by decide) ?_
            refine z_goto (tgt := 65) F dX5_passes_61 (by decide) ?_
            exact z_iret F hr rfl hlk dX5_passes_65 ⟨by unfold zmp; rw [show (decide (t = 0) || zmk ks ki nu b a) = true from by rw [show zmk ks ki nu b a = true from zB_1.mp c10]; exact Bool.or_true _, show (decide (t ≤ 1) || decide (zsum si a nu + sl ≤ ro b)) = true from by rw [decide_eq_true n17]; rfl, decide_eq_false n43, decide_eq_true n57]; rfl, rfl⟩ (Nat.le_of_ble_eq_true rfl) (Nat.le_of_ble_eq_true rfl)
      · have n17 : ¬ t ≤ 1 := fun q => c17 ((nI_leI (by omega) (by decide)).mpr q)
        refine z_aload_n F dX5_passes_20 rfl ?_
        refine z_iload_n F dX5_passes_21 rfl ?_
        refine z_callVi0 F (c_M_sizes o3 a ha) 0 rfl rfl (zcwV F.2.2.2.2.1 kcX5_sizes kmX5_80 kiX5_sizes ksX5_sizes knX5 hdX5_sizes rfl rfl ⟨(Nat.le_of_ble_eq_true rfl), (Nat.le_of_ble_eq_true rfl)⟩) dX5_passes_22 rfl rfl (Nat.le_of_ble_eq_true rfl) ⟨(Nat.le_of_ble_eq_true rfl), (Nat.le_of_ble_eq_true rfl)⟩ ?_
        rintro r w2 ⟨rfl, rfl⟩
        refine z_aload_n F dX5_passes_25 rfl ?_
        refine z_get (ci := 5) (C := RX5) (T := TX5) (N := 20) F 0 2 dX5_passes_26 inX5 kfX5_7 rfl rfl rfl (by decide) rfl ?_
        refine z_iload_n F dX5_passes_29 rfl ?_
        refine z_ialdN F 1 0 dX5_passes_30 rfl rfl rfl hb (by decide) ?_
        refine z_aload_n F dX5_passes_31 rfl ?_
        refine z_get (ci := 5) (C := RX5) (T := TX5) (N := 20) F 0 11 dX5_passes_32 inX5 kfX5_70 rfl rfl rfl (by decide) rfl ?_
        refine z_isub F dX5_passes_35 ?_
        refine z_icmp_le (tgt := 41) F dX5_passes_36 (by decide) (fun c36 => ?_) (fun c36 => ?_)
        · have n36 : zsum si a nu + sl ≤ ro b := (zsub_le hsi (o4 b) o2).mp c36
          refine z_iload_n F dX5_passes_41 rfl ?_
          refine z_iconst (v := 3) F dX5_passes_42 (by decide) ?_
          refine z_icmp_lt (tgt := 60) F dX5_passes_43 (by decide) (fun c43 => ?_) (fun c43 => ?_)
          · have n43 : t < 3 := (nI_ltI (by omega) (by decide)).mp c43
            refine z_iconst (v := 1) F dX5_passes_60 (by decide) ?_
            refine z_goto (tgt := 65) F dX5_passes_61 (by decide) ?_
            exact z_iret F hr rfl hlk dX5_passes_65 ⟨by unfold zmp; rw [show (decide (t = 0) || zmk ks ki nu b a) = true from by rw [show zmk ks ki nu b a = true from zB_1.mp c10]; exact Bool.or_true _, show (decide (t ≤ 1) || decide (zsum si a nu + sl ≤ ro b)) = true from by rw [decide_eq_true n36]; exact Bool.or_true _, decide_eq_true n43]; rfl, rfl⟩ (Nat.le_of_ble_eq_true rfl) (Nat.le_of_ble_eq_true rfl)
          · have n43 : ¬ t < 3 := fun q => c43 ((nI_ltI (by omega) (by decide)).mpr q)
            refine z_aload_n F dX5_passes_46 rfl ?_
            refine z_iload_n F dX5_passes_47 rfl ?_
            refine z_callVi0 F (c_M_weights o3 a ha) 0 rfl rfl (zcwV F.2.2.2.2.1 kcX5_weights kmX5_84 kiX5_weights ksX5_weights knX5 hdX5_weights rfl rfl ⟨(Nat.le_of_ble_eq_true rfl), (Nat.le_of_ble_eq_true rfl)⟩) dX5_passes_48 rfl rfl (Nat.le_of_ble_eq_true rfl) ⟨(Nat.le_of_ble_eq_true rfl), (Nat.le_of_ble_eq_true rfl)⟩ ?_
            rintro r w2 ⟨rfl, rfl⟩
            refine z_aload_n F dX5_passes_51 rfl ?_
            refine z_get (ci := 5) (C := RX5) (T := TX5) (N := 20) F 0 3 dX5_passes_52 inX5 kfX5_13 rfl rfl rfl (by decide) rfl ?_
            refine z_iload_n F dX5_passes_55 rfl ?_
            refine z_ialdN F 2 0 dX5_passes_56 rfl rfl rfl hb (by decide) ?_
            refine z_icmp_gt (tgt := 64) F dX5_passes_57 (by decide) (fun c57 => ?_) (fun c57 => ?_)
            · have n57 : ¬ zsum we a nu ≤ lo b := fun q => zlt_nge c57 ((nI_leI (by omega) (by have := o5 b; omega)).mpr q)
              refine z_iconst (v := 0) F dX5_passes_64 (by decide) ?_
              exact z_iret F hr rfl hlk dX5_passes_65 ⟨by unfold zmp; rw [show (decide (t = 0) || zmk ks ki nu b a) = true from by rw [show zmk ks ki nu b a = true from zB_1.mp c10]; exact Bool.or_true _, show (decide (t ≤ 1) || decide (zsum si a nu + sl ≤ ro b)) = true from by rw [decide_eq_true n36]; exact Bool.or_true _, decide_eq_false n43, decide_eq_false n57]; rfl, rfl⟩ (Nat.le_of_ble_eq_true rfl) (Nat.le_of_ble_eq_true rfl)
            · have n57 : zsum we a nu ≤ lo b := (nI_leI (by omega) (by have := o5 b; omega)).mp (znlt_ge c57)
              refine z_iconst (v := 1) F dX5_passes_60 (by decide) ?_
              refine z_goto (tgt := 65) F dX5_passes_61 (by decide) ?_
              exact z_iret F hr rfl hlk dX5_passes_65 ⟨by unfold zmp; rw [show (decide (t = 0) || zmk ks ki nu b a) = true from by rw [show zmk ks ki nu b a = true from zB_1.mp c10]; exact Bool.or_true _, show (decide (t ≤ 1) || decide (zsum si a nu + sl ≤ ro b)) = true from by rw [decide_eq_true n36]; exact Bool.or_true _, decide_eq_false n43, decide_eq_true n57]; rfl, rfl⟩ (Nat.le_of_ble_eq_true rfl) (Nat.le_of_ble_eq_true rfl)
        · have n36 : ¬ zsum si a nu + sl ≤ ro b := fun q => c36 ((zsub_le hsi (o4 b) o2).mpr q)
          refine z_iconst (v := 0) F dX5_passes_39 (by decide) ?_
          exact z_iret F hr rfl hlk dX5_passes_40 ⟨by unfold zmp; rw [show (decide (t = 0) || zmk ks ki nu b a) = true from by rw [show zmk ks ki nu b a = true from zB_1.mp c10]; exact Bool.or_true _, decide_eq_false n17, decide_eq_false n36]; rfl, rfl⟩ (Nat.le_of_ble_eq_true rfl) (Nat.le_of_ble_eq_true rfl)
    · refine z_iconst (v := 0) F dX5_passes_13 (by decide) ?_
      exact z_iret F hr rfl hlk dX5_passes_14 ⟨by unfold zmp; rw [decide_eq_false n1, show zmk ks ki nu b a = false from zB_0.mp c10]; rfl, rfl⟩ (Nat.le_of_ble_eq_true rfl) (Nat.le_of_ble_eq_true rfl)

set_option maxHeartbeats 4000000 in
set_option maxRecDepth 100000 in
theorem c_M_fitsSet {l : Launch} {D : va_G} {tys : List (ClassId × FieldType)} {am : Nat → Nat} {cA : ClassId} {cd nb : Nat} {ro lo co ks : Nat → Nat} {nu : Nat} {si we ki hw : Nat → Nat} {sl : Nat} {ch : Option Nat} {em : Bool} {bx : Nat → Option Nat} {sx : Nat → Nat} {cn : Nat} {nx : Nat → Option Nat} {ns pt : Nat → Nat} (ok : zok ro lo co ks nb sl si we ki (fun _ => 0) (fun _ => 0) nu) (hh : ∀ x, hw x < 2 ^ 31) (b a : Nat) (hb : b < 6) (ha : a < 2 ^ 31) : zMi l yX5_fitsSet (zws yX5_fitsSet cX5_fitsSet 3 (some .boolean)) { frames := 3, cells := 0, slots := 0, locals := 67 } D zcl ((cA, .int) :: tys) zG [.ref (am 0), .int (nI b), .int (nI a)] (wM am cA cd nb ro lo co ks nu si we ki hw sl ch em bx sx cn nx ns pt) (fun r w2 => r = zB (zmf ro lo ks sl si we ki hw nu b a) ∧ w2 = (wM am cA cd nb ro lo co ks nu si we ki hw sl ch em bx sx cn nx ns pt)) 0 0 := by
  refine z_ofi (cc := cX5_fitsSet) (maxL := 3) (ret := (some .boolean)) (by decide) rfl (Nat.le_of_ble_eq_true rfl) ?_
  intro p e s m below meth c A F hr hlk hnm
  obtain ⟨o1, o2, o3, o4, o5, o6, o7, o8, o9, o10, o11, o12⟩ := id ok
  refine z_aload_n F dX5_fitsSet_0 rfl ?_
  refine z_iload_n F dX5_fitsSet_1 rfl ?_
  refine z_iload_n F dX5_fitsSet_2 rfl ?_
  refine z_iconst (v := 3) F dX5_fitsSet_3 (by decide) ?_
  refine z_callVi0 F (c_M_passes ok hh b a 3 hb ha (by decide)) 0 rfl rfl (zcwV F.2.2.2.2.1 kcX5_passes kmX5_87 kiX5_passes ksX5_passes knX5 hdX5_passes rfl rfl ⟨(Nat.le_of_ble_eq_true rfl), (Nat.le_of_ble_eq_true rfl)⟩) dX5_fitsSet_4 rfl rfl (Nat.le_of_ble_eq_true rfl) ⟨(Nat.le_of_ble_eq_true rfl), (Nat.le_of_ble_eq_true rfl)⟩ ?_
  rintro r w2 ⟨rfl, rfl⟩
  refine z_if_eq (tgt := 30) F dX5_fitsSet_7 (by decide) (fun c7 => ?_) (fun c7 => ?_)
  · refine z_iconst (v := 0) F dX5_fitsSet_30 (by decide) ?_
    exact z_iret F hr rfl hlk dX5_fitsSet_31 ⟨by unfold zmf; rw [zB_0.mp c7]; rfl, rfl⟩ (Nat.le_of_ble_eq_true rfl) (Nat.le_of_ble_eq_true rfl)
  · refine z_aload_n F dX5_fitsSet_10 rfl ?_
    refine z_iload_n F dX5_fitsSet_11 rfl ?_
    refine z_callVi0 F (c_M_apart o3 hh a ha) 0 rfl rfl (zcwV F.2.2.2.2.1 kcX5_hasApart kmX5_90 kiX5_hasApart ksX5_hasApart knX5 hdX5_hasApart rfl rfl ⟨(Nat.le_of_ble_eq_true rfl), (Nat.le_of_ble_eq_true rfl)⟩) dX5_fitsSet_12 rfl rfl (Nat.le_of_ble_eq_true rfl) ⟨(Nat.le_of_ble_eq_true rfl), (Nat.le_of_ble_eq_true rfl)⟩ ?_
    rintro r w2 ⟨rfl, rfl⟩
    refine z_if_ne (tgt := 30) F dX5_fitsSet_15 (by decide) (fun c15 => ?_) (fun c15 => ?_)
    · refine z_iconst (v := 0) F dX5_fitsSet_30 (by decide) ?_
      exact z_iret F hr rfl hlk dX5_fitsSet_31 ⟨by unfold zmf; rw [zB_1.mp c15]; exact (congrArg zB (Bool.and_false _)).symm, rfl⟩ (Nat.le_of_ble_eq_true rfl) (Nat.le_of_ble_eq_true rfl)
    · refine z_aload_n F dX5_fitsSet_18 rfl ?_
      refine z_iload_n F dX5_fitsSet_19 rfl ?_
      refine z_callVi0 F (c_M_whole o3 hh a ha) 0 rfl rfl (zcwV F.2.2.2.2.1 kcX5_isWhole kmX5_93 kiX5_isWhole ksX5_isWhole knX5 hdX5_isWhole rfl rfl ⟨(Nat.le_of_ble_eq_true rfl), (Nat.le_of_ble_eq_true rfl)⟩) dX5_fitsSet_20 rfl rfl (Nat.le_of_ble_eq_true rfl) ⟨(Nat.le_of_ble_eq_true rfl), (Nat.le_of_ble_eq_true rfl)⟩ ?_
      rintro r w2 ⟨rfl, rfl⟩
      refine z_if_eq (tgt := 30) F dX5_fitsSet_23 (by decide) (fun c23 => ?_) (fun c23 => ?_)
      · refine z_iconst (v := 0) F dX5_fitsSet_30 (by decide) ?_
        exact z_iret F hr rfl hlk dX5_fitsSet_31 ⟨by unfold zmf; rw [zB_0.mp c23, Bool.and_false, Bool.and_false]; rfl, rfl⟩ (Nat.le_of_ble_eq_true rfl) (Nat.le_of_ble_eq_true rfl)
      · refine z_iconst (v := 1) F dX5_fitsSet_26 (by decide) ?_
        refine z_goto (tgt := 31) F dX5_fitsSet_27 (by decide) ?_
        exact z_iret F hr rfl hlk dX5_fitsSet_31 ⟨by unfold zmf; rw [zB_1.mp c7, zB_0.mp c15, zB_1.mp c23]; rfl, rfl⟩ (Nat.le_of_ble_eq_true rfl) (Nat.le_of_ble_eq_true rfl)

set_option maxHeartbeats 4000000 in
set_option maxRecDepth 100000 in
theorem c_M_cheapest {l : Launch} {D : va_G} {tys : List (ClassId × FieldType)} {am : Nat → Nat} {cA : ClassId} {cd nb : Nat} {ro lo co ks : Nat → Nat} {nu : Nat} {si we ki hw : Nat → Nat} {sl : Nat} {ch : Option Nat} {em : Bool} {bx : Nat → Option Nat} {sx : Nat → Nat} {cn : Nat} {nx : Nat → Option Nat} {ns pt : Nat → Nat} (ok : zok ro lo co ks nb sl si we ki (fun _ => 0) (fun _ => 0) nu) (hh : ∀ x, hw x < 2 ^ 31) (a : Nat) (ha : a < 2 ^ 31) : zMi l yX5_cheapest (zws yX5_cheapest cX5_cheapest 4 (some .int)) { frames := 4, cells := 0, slots := 0, locals := 89 } D zcl ((cA, .int) :: tys) zG [.ref (am 0), .int (nI a)] (wM am cA cd nb ro lo co ks nu si we ki hw sl ch em bx sx cn nx ns pt) (fun r w2 => r = zo (zche (fun x => zmf ro lo ks sl si we ki hw nu x a) co nb) ∧ w2 = (wM am cA cd nb ro lo co ks nu si we ki hw sl ch em bx sx cn nx ns pt)) 0 0 := by
  refine z_ofi (cc := cX5_cheapest) (maxL := 4) (ret := (some .int)) (by decide) rfl (Nat.le_of_ble_eq_true rfl) ?_
  intro p e s m below meth c A F hr hlk hnm
  obtain ⟨o1, o2, o3, o4, o5, o6, o7, o8, o9, o10, o11, o12⟩ := id ok
  have hc := zk9 o6 (by decide : 1000 < 2 ^ 31)
  have loop : ∀ (n j : Nat), j ≤ nb → nb + 1 ≤ j + n → zW p l e (headSpec (zws yX5_cheapest cX5_cheapest 4 (some .int)) { frames := 4, cells := 0, slots := 0, locals := 89 }).room s m [.ref (am 0), .int (nI a)].toArray below meth c 4 D zcl A 0 0 (MQ below (va_Qi (fun r w2 => r = zo (zche (fun x => zmf ro lo ks sl si we ki hw nu x a) co nb) ∧ w2 = (wM am cA cd nb ro lo co ks nu si we ki hw sl ch em bx sx cn nx ns pt)) (zEnd D zcl A) A) [.ref (am 0), .int (nI a)].toArray s 0 0 A) (wM am cA cd nb ro lo co ks nu si we ki hw sl ch em bx sx cn nx ns pt) [(0, .ref (am 0)), (1, .int (nI a)), (2, .int (zo (zche (fun x => zmf ro lo ks sl si we ki hw nu x a) co j))), (3, .int (nI j))] 4 [] := by
    intro n
    induction n with
    | zero => intro j h1 h2; omega
    | succ n ih =>
      intro j hj1 hj2
      rcases hz : zche (fun x => zmf ro lo ks sl si we ki hw nu x a) co j with _ | b
      · refine z_iload_n F dX5_cheapest_4 rfl ?_
        refine z_aload_n F dX5_cheapest_5 rfl ?_
        refine z_get (ci := 5) (C := RX5) (T := TX5) (N := 20) F 0 1 dX5_cheapest_6 inX5 kfX5_56 rfl rfl rfl (by decide) rfl ?_
        refine z_icmp_ge (tgt := 49) F dX5_cheapest_9 (by decide) (fun c9 => ?_) (fun c9 => ?_)
        · have ej := zge_end hj1 (by omega) c9
          refine z_iload_n F dX5_cheapest_49 rfl ?_
          exact z_iret F hr rfl hlk dX5_cheapest_50 ⟨by rw [← ej, hz], rfl⟩ (Nat.le_of_ble_eq_true rfl) (Nat.le_of_ble_eq_true rfl)
        · have hlt := zge_on (by omega) hj1 c9
          refine z_aload_n F dX5_cheapest_12 rfl ?_
          refine z_iload_n F dX5_cheapest_13 rfl ?_
          refine z_iload_n F dX5_cheapest_14 rfl ?_
          refine z_callVi0 F (c_M_fitsSet ok hh j a (by omega) ha) 0 rfl rfl (zcwV F.2.2.2.2.1 kcX5_fitsSet kmX5_96 kiX5_fitsSet ksX5_fitsSet knX5 hdX5_fitsSet rfl rfl ⟨(Nat.le_of_ble_eq_true rfl), (Nat.le_of_ble_eq_true rfl)⟩) dX5_cheapest_15 rfl rfl (Nat.le_of_ble_eq_true rfl) ⟨(Nat.le_of_ble_eq_true rfl), (Nat.le_of_ble_eq_true rfl)⟩ ?_
          rintro r w2 ⟨rfl, rfl⟩
          refine z_if_eq (tgt := 43) F dX5_cheapest_18 (by decide) (fun c18 => ?_) (fun c18 => ?_)
          · refine z_iinc (v := nI (j + 1)) F dX5_cheapest_43 rfl (nI_1 j) (by decide) ?_
            refine z_goto (tgt := 4) F dX5_cheapest_46 (by decide) ?_
            have h9 := ih (j + 1) (by omega) (by omega)
            rw [zche_f (P := (fun x => zmf ro lo ks sl si we ki hw nu x a)) (zB_0.mp c18)] at h9
            rw [hz] at h9
            exact z_lv rfl h9
          · refine z_iload_n F dX5_cheapest_21 rfl ?_
            refine z_iconst (v := (-1)) F dX5_cheapest_22 (by decide) ?_
            refine z_icmp_eq (tgt := 41) F dX5_cheapest_23 (by decide) (fun c23 => ?_) (fun c23 => ?_)
            · refine z_iload_n F dX5_cheapest_41 rfl ?_
              refine z_istore_n F dX5_cheapest_42 (by decide) ?_
              refine z_iinc (v := nI (j + 1)) F dX5_cheapest_43 rfl (nI_1 j) (by decide) ?_
              refine z_goto (tgt := 4) F dX5_cheapest_46 (by decide) ?_
              have h9 := ih (j + 1) (by omega) (by omega)
              rw [zche_n (P := (fun x => zmf ro lo ks sl si we ki hw nu x a)) (zB_1.mp c18) hz] at h9
              exact z_lv rfl h9
            · exact absurd rfl c23
      · have hbl := (zche_lt hz).1
        refine z_iload_n F dX5_cheapest_4 rfl ?_
        refine z_aload_n F dX5_cheapest_5 rfl ?_
        refine z_get (ci := 5) (C := RX5) (T := TX5) (N := 20) F 0 1 dX5_cheapest_6 inX5 kfX5_56 rfl rfl rfl (by decide) rfl ?_
        refine z_icmp_ge (tgt := 49) F dX5_cheapest_9 (by decide) (fun c9 => ?_) (fun c9 => ?_)
        · have ej := zge_end hj1 (by omega) c9
          refine z_iload_n F dX5_cheapest_49 rfl ?_
          exact z_iret F hr rfl hlk dX5_cheapest_50 ⟨by rw [← ej, hz], rfl⟩ (Nat.le_of_ble_eq_true rfl) (Nat.le_of_ble_eq_true rfl)
        · have hlt := zge_on (by omega) hj1 c9
          refine z_aload_n F dX5_cheapest_12 rfl ?_
          refine z_iload_n F dX5_cheapest_13 rfl ?_
          refine z_iload_n F dX5_cheapest_14 rfl ?_
          refine z_callVi0 F (c_M_fitsSet ok hh j a (by omega) ha) 0 rfl rfl (zcwV F.2.2.2.2.1 kcX5_fitsSet kmX5_96 kiX5_fitsSet ksX5_fitsSet knX5 hdX5_fitsSet rfl rfl ⟨(Nat.le_of_ble_eq_true rfl), (Nat.le_of_ble_eq_true rfl)⟩) dX5_cheapest_15 rfl rfl (Nat.le_of_ble_eq_true rfl) ⟨(Nat.le_of_ble_eq_true rfl), (Nat.le_of_ble_eq_true rfl)⟩ ?_
          rintro r w2 ⟨rfl, rfl⟩
          refine z_if_eq (tgt := 43) F dX5_cheapest_18 (by decide) (fun c18 => ?_) (fun c18 => ?_)
          · refine z_iinc (v := nI (j + 1)) F dX5_cheapest_43 rfl (nI_1 j) (by decide) ?_
            refine z_goto (tgt := 4) F dX5_cheapest_46 (by decide) ?_
            have h9 := ih (j + 1) (by omega) (by omega)
            rw [zche_f (P := (fun x => zmf ro lo ks sl si we ki hw nu x a)) (zB_0.mp c18)] at h9
            rw [hz] at h9
            exact z_lv rfl h9
          · refine z_iload_n F dX5_cheapest_21 rfl ?_
            refine z_iconst (v := (-1)) F dX5_cheapest_22 (by decide) ?_
            refine z_icmp_eq (tgt := 41) F dX5_cheapest_23 (by decide) (fun c23 => ?_) (fun c23 => ?_)
            · exact absurd c23 (zo_ne (by omega))
            · refine z_aload_n F dX5_cheapest_26 rfl ?_
              refine z_get (ci := 5) (C := RX5) (T := TX5) (N := 20) F 0 4 dX5_cheapest_27 inX5 kfX5_16 rfl rfl rfl (by decide) rfl ?_
              refine z_iload_n F dX5_cheapest_30 rfl ?_
              refine z_ialdN F 3 0 dX5_cheapest_31 rfl rfl rfl (by omega) (by decide) ?_
              refine z_aload_n F dX5_cheapest_32 rfl ?_
              refine z_get (ci := 5) (C := RX5) (T := TX5) (N := 20) F 0 4 dX5_cheapest_33 inX5 kfX5_16 rfl rfl rfl (by decide) rfl ?_
              refine z_iload_n F dX5_cheapest_36 rfl ?_
              refine z_ialdN F 3 0 dX5_cheapest_37 rfl rfl rfl (by omega) (by decide) ?_
              refine z_icmp_ge (tgt := 43) F dX5_cheapest_38 (by decide) (fun c38 => ?_) (fun c38 => ?_)
              · refine z_iinc (v := nI (j + 1)) F dX5_cheapest_43 rfl (nI_1 j) (by decide) ?_
                refine z_goto (tgt := 4) F dX5_cheapest_46 (by decide) ?_
                have h9 := ih (j + 1) (by omega) (by omega)
                rw [zche_k (P := (fun x => zmf ro lo ks sl si we ki hw nu x a)) (zB_1.mp c18) hz (fun q => zlt_nge ((nI_ltI (hc _) (hc _)).mpr q) c38)] at h9
                exact z_lv rfl h9
              · refine z_iload_n F dX5_cheapest_41 rfl ?_
                refine z_istore_n F dX5_cheapest_42 (by decide) ?_
                refine z_iinc (v := nI (j + 1)) F dX5_cheapest_43 rfl (nI_1 j) (by decide) ?_
                refine z_goto (tgt := 4) F dX5_cheapest_46 (by decide) ?_
                have h9 := ih (j + 1) (by omega) (by omega)
                rw [zche_l (P := (fun x => zmf ro lo ks sl si we ki hw nu x a)) (zB_1.mp c18) hz ((nI_ltI (hc _) (hc _)).mp (znle_lt c38))] at h9
                exact z_lv rfl h9
  refine z_iconst (v := (-1)) F dX5_cheapest_0 (by decide) ?_
  refine z_istore_n F dX5_cheapest_1 (by decide) ?_
  refine z_iconst (v := 0) F dX5_cheapest_2 (by decide) ?_
  refine z_istore_n F dX5_cheapest_3 (by decide) ?_
  exact z_lv rfl (loop (nb + 1) 0 (by omega) (by omega))

set_option maxHeartbeats 4000000 in
set_option maxRecDepth 100000 in
theorem c_M_wholeOf {l : Launch} {D : va_G} {tys : List (ClassId × FieldType)} {am : Nat → Nat} {cA : ClassId} {cd nb : Nat} {ro lo co ks : Nat → Nat} {nu : Nat} {si we ki hw : Nat → Nat} {sl : Nat} {ch : Option Nat} {em : Bool} {bx : Nat → Option Nat} {sx : Nat → Nat} {cn : Nat} {nx : Nat → Option Nat} {ns pt : Nat → Nat} (hn : nu ≤ 8) (hh : ∀ x, hw x < 2 ^ 31) (u : Nat) (hu : u < 8) : zMi l yX5_wholeOf (zws yX5_wholeOf cX5_wholeOf 6 (some .int)) { frames := 1, cells := 0, slots := 0, locals := 21 } D zcl ((cA, .int) :: tys) zG [.ref (am 0), .int (nI u)] (wM am cA cd nb ro lo co ks nu si we ki hw sl ch em bx sx cn nx ns pt) (fun r w2 => r = nI (zwr hw nu u 8) ∧ w2 = (wM am cA cd nb ro lo co ks nu si we ki hw sl ch em bx sx cn nx ns pt)) 0 0 := by
  refine z_ofi (cc := cX5_wholeOf) (maxL := 6) (ret := (some .int)) (by decide) rfl (Nat.le_of_ble_eq_true rfl) ?_
  intro p e s m below meth c A F hr hlk hnm
  have loop : ∀ (n i : Nat), i ≤ 8 → 8 + 1 ≤ i + n → zW p l e (headSpec (zws yX5_wholeOf cX5_wholeOf 6 (some .int)) { frames := 1, cells := 0, slots := 0, locals := 21 }).room s m [.ref (am 0), .int (nI u)].toArray below meth c 6 D zcl A 0 0 (MQ below (va_Qi (fun r w2 => r = nI (zwr hw nu u 8) ∧ w2 = (wM am cA cd nb ro lo co ks nu si we ki hw sl ch em bx sx cn nx ns pt)) (zEnd D zcl A) A) [.ref (am 0), .int (nI u)].toArray s 0 0 A) (wM am cA cd nb ro lo co ks nu si we ki hw sl ch em bx sx cn nx ns pt) [(0, .ref (am 0)), (1, .int (nI u)), (2, .int (nI (zwr hw nu u i))), (3, .int (nI i))] 6 [] := by
    intro n
    induction n with
    | zero => intro i h1 h2; omega
    | succ n ih =>
      intro i hi1 hi2
      refine z_iload_n F dX5_wholeOf_6 rfl ?_
      refine z_bipush (v := 8) F dX5_wholeOf_7 (by decide) ?_
      refine z_icmp_ge (tgt := 87) F dX5_wholeOf_9 (by decide) (fun c9 => ?_) (fun c9 => ?_)
      · have ei : i = 8 := zge_end hi1 (by omega) c9
        refine z_iload_n F dX5_wholeOf_87 rfl ?_
        exact z_iret F hr rfl hlk dX5_wholeOf_88 ⟨by rw [ei], rfl⟩ (Nat.le_of_ble_eq_true rfl) (Nat.le_of_ble_eq_true rfl)
      · have hli : i < 8 := zge_on (by omega) hi1 c9
        refine z_iconst (v := 0) F dX5_wholeOf_12 (by decide) ?_
        refine z_istore F dX5_wholeOf_13 (by decide) ?_
        have inner2 : ∀ (n2 x : Nat), x ≤ nu → nu + 1 ≤ x + n2 → zW p l e (headSpec (zws yX5_wholeOf cX5_wholeOf 6 (some .int)) { frames := 1, cells := 0, slots := 0, locals := 21 }).room s m [.ref (am 0), .int (nI u)].toArray below meth c 6 D zcl A 0 0 (MQ below (va_Qi (fun r w2 => r = nI (zwr hw nu u 8) ∧ w2 = (wM am cA cd nb ro lo co ks nu si we ki hw sl ch em bx sx cn nx ns pt)) (zEnd D zcl A) A) [.ref (am 0), .int (nI u)].toArray s 0 0 A) (wM am cA cd nb ro lo co ks nu si we ki hw sl ch em bx sx cn nx ns pt) [(0, .ref (am 0)), (1, .int (nI u)), (2, .int (nI (zwa hw nu (zwr hw nu u i) x))), (3, .int (nI i)), (4, .int (nI x))] 15 [] := by
          intro n2
          induction n2 with
          | zero => intro x h1 h2; omega
          | succ n2 ih2 =>
            intro x hx1 hx2
            refine z_iload F dX5_wholeOf_15 rfl ?_
            refine z_aload_n F dX5_wholeOf_17 rfl ?_
            refine z_get (ci := 5) (C := RX5) (T := TX5) (N := 20) F 0 6 dX5_wholeOf_18 inX5 kfX5_63 rfl rfl rfl (by decide) rfl ?_
            refine z_icmp_ge (tgt := 81) F dX5_wholeOf_21 (by decide) (fun c21 => ?_) (fun c21 => ?_)
            · have ex := zge_end hx1 (by omega) c21
              subst ex
              refine z_iinc (v := nI (i + 1)) F dX5_wholeOf_81 rfl (nI_1 i) (by decide) ?_
              refine z_goto (tgt := 6) F dX5_wholeOf_84 (by decide) ?_
              exact z_lv rfl (ih (i + 1) (by omega) (by omega))
            · have hlx := zge_on (by omega) hx1 c21
              refine z_iconst (v := 0) F dX5_wholeOf_24 (by decide) ?_
              refine z_istore F dX5_wholeOf_25 (by decide) ?_
              have inner3 : ∀ (n3 y : Nat), y ≤ nu → nu + 1 ≤ y + n3 → zW p l e (headSpec (zws yX5_wholeOf cX5_wholeOf 6 (some .int)) { frames := 1, cells := 0, slots := 0, locals := 21 }).room s m [.ref (am 0), .int (nI u)].toArray below meth c 6 D zcl A 0 0 (MQ below (va_Qi (fun r w2 => r = nI (zwr hw nu u 8) ∧ w2 = (wM am cA cd nb ro lo co ks nu si we ki hw sl ch em bx sx cn nx ns pt)) (zEnd D zcl A) A) [.ref (am 0), .int (nI u)].toArray s 0 0 A) (wM am cA cd nb ro lo co ks nu si we ki hw sl ch em bx sx cn nx ns pt) [(0, .ref (am 0)), (1, .int (nI u)), (2, .int (nI (zwb hw x (zwa hw nu (zwr hw nu u i) x) y))), (3, .int (nI i)), (4, .int (nI x)), (5, .int (nI y))] 27 [] := by
                intro n3
                induction n3 with
                | zero => intro y h1 h2; omega
                | succ n3 ih3 =>
                  intro y hy1 hy2
                  refine z_iload F dX5_wholeOf_27 rfl ?_
                  refine z_aload_n F dX5_wholeOf_29 rfl ?_
                  refine z_get (ci := 5) (C := RX5) (T := TX5) (N := 20) F 0 6 dX5_wholeOf_30 inX5 kfX5_63 rfl rfl rfl (by decide) rfl ?_
                  refine z_icmp_ge (tgt := 75) F dX5_wholeOf_33 (by decide) (fun c33 => ?_) (fun c33 => ?_)
                  · have ey := zge_end hy1 (by omega) c33
                    subst ey
                    refine z_iinc (v := nI (x + 1)) F dX5_wholeOf_75 rfl (nI_1 x) (by decide) ?_
                    refine z_goto (tgt := 15) F dX5_wholeOf_78 (by decide) ?_
                    exact z_lv rfl (ih2 (x + 1) (by omega) (by omega))
                  · have hly := zge_on (by omega) hy1 c33
                    refine z_iload_n F dX5_wholeOf_36 rfl ?_
                    refine z_iload F dX5_wholeOf_37 rfl ?_
                    refine z_callSi0 F (c_M_has (zwb hw x (zwa hw nu (zwr hw nu u i) x) y) x (Nat.lt_trans (zwb_lt (zwa_lt hn (zwr_lt hn hu i) x) y (by omega)) (by decide)) (by omega)) (zcwS F.2.2.2.2.1 kcX5_has kmX5_73 ktX5_has knX5 hdX5_has rfl rfl ⟨(Nat.le_of_ble_eq_true rfl), (Nat.le_of_ble_eq_true rfl)⟩) dX5_wholeOf_39 rfl rfl (Nat.le_of_ble_eq_true rfl) ⟨(Nat.le_of_ble_eq_true rfl), (Nat.le_of_ble_eq_true rfl)⟩ ?_
                    rintro r w2 ⟨rfl, rfl⟩
                    refine z_if_eq (tgt := 69) F dX5_wholeOf_42 (by decide) (fun c42 => ?_) (fun c42 => ?_)
                    · refine z_iinc (v := nI (y + 1)) F dX5_wholeOf_69 rfl (nI_1 y) (by decide) ?_
                      refine z_goto (tgt := 27) F dX5_wholeOf_72 (by decide) ?_
                      have h9 := ih3 (y + 1) (by omega) (by omega)
                      rw [zwb_f (zB_0.mp c42)] at h9
                      exact z_lv rfl h9
                    · refine z_aload_n F dX5_wholeOf_45 rfl ?_
                      refine z_get (ci := 5) (C := RX5) (T := TX5) (N := 20) F 0 10 dX5_wholeOf_46 inX5 kfX5_31 rfl rfl rfl (by decide) rfl ?_
                      refine z_bipush (v := 8) F dX5_wholeOf_49 (by decide) ?_
                      refine z_iload F dX5_wholeOf_51 rfl ?_
                      refine z_imul F dX5_wholeOf_53 ?_
                      refine z_topi (y := nI (8 * x)) (pk_mul 8 x) ?_
                      refine z_iload F dX5_wholeOf_54 rfl ?_
                      refine z_iadd F dX5_wholeOf_56 ?_
                      refine z_topi (y := nI (8 * x + y)) (nI_add _ _) ?_
                      refine z_ialdN F 8 0 dX5_wholeOf_57 rfl rfl rfl (by omega) (by decide) ?_
                      refine z_iconst (v := 2) F dX5_wholeOf_58 (by decide) ?_
                      refine z_icmp_ne (tgt := 69) F dX5_wholeOf_59 (by decide) (fun c59 => ?_) (fun c59 => ?_)
                      · refine z_iinc (v := nI (y + 1)) F dX5_wholeOf_69 rfl (nI_1 y) (by decide) ?_
                        refine z_goto (tgt := 27) F dX5_wholeOf_72 (by decide) ?_
                        have h9 := ih3 (y + 1) (by omega) (by omega)
                        rw [zwb_g (fun q => c59 (by rw [q]; rfl))] at h9
                        exact z_lv rfl h9
                      · refine z_iload_n F dX5_wholeOf_62 rfl ?_
                        refine z_iconst (v := 1) F dX5_wholeOf_63 (by decide) ?_
                        refine z_iload F dX5_wholeOf_64 rfl ?_
                        refine z_ishl F dX5_wholeOf_66 ?_
                        refine z_topi (y := nI (2 ^ y)) (zb_shl1 y (by omega)) ?_
                        refine z_ior F dX5_wholeOf_67 ?_
                        refine z_topi (y := nI ((zwb hw x (zwa hw nu (zwr hw nu u i) x) y) ||| 2 ^ y)) (zb_or _ _) ?_
                        refine z_istore_n F dX5_wholeOf_68 (by decide) ?_
                        refine z_iinc (v := nI (y + 1)) F dX5_wholeOf_69 rfl (nI_1 y) (by decide) ?_
                        refine z_goto (tgt := 27) F dX5_wholeOf_72 (by decide) ?_
                        have h9 := ih3 (y + 1) (by omega) (by omega)
                        rw [zwb_t (zB_1.mp c42) ((nI_eq (hh _) (by decide)).mp c59)] at h9
                        exact z_lv rfl h9
              exact z_lv rfl (inner3 (nu + 1) 0 (by omega) (by omega))
        exact z_lv rfl (inner2 (nu + 1) 0 (by omega) (by omega))
  refine z_iconst (v := 1) F dX5_wholeOf_0 (by decide) ?_
  refine z_iload_n F dX5_wholeOf_1 rfl ?_
  refine z_ishl F dX5_wholeOf_2 ?_
  refine z_topi (y := nI (2 ^ u)) (zb_shl1 u (by omega)) ?_
  refine z_istore_n F dX5_wholeOf_3 (by decide) ?_
  refine z_iconst (v := 0) F dX5_wholeOf_4 (by decide) ?_
  refine z_istore_n F dX5_wholeOf_5 (by decide) ?_
  exact z_lv rfl (loop 9 0 (by omega) (by omega))
