set_option maxHeartbeats 4000000 in
set_option maxRecDepth 100000 in
theorem c_M_in {l : Launch} {D : va_G} {cA : ClassId} {tys : List (ClassId × FieldType)} {w : va_W} (v a b : Int32) : zMi l yX5_in (zws yX5_in cX5_in 3 (some .boolean)) { frames := 0, cells := 0, slots := 0, locals := 0 } D zcl ((cA, .int) :: tys) zG [.int v, .int a, .int b] w (fun r w2 => r = zB (decide (a ≤ v ∧ v ≤ b)) ∧ w2 = w) 0 0 := by
  refine z_ofi (cc := cX5_in) (maxL := 3) (ret := (some .boolean)) (by decide) rfl (Nat.le_of_ble_eq_true rfl) ?_
  intro p e s m below meth c A F hr hlk hnm
  refine z_iload_n F dX5_in_0 rfl ?_
  refine z_iload_n F dX5_in_1 rfl ?_
  refine z_icmp_lt (tgt := 14) F dX5_in_2 (by decide) (fun c2 => ?_) (fun c2 => ?_)
  · refine z_iconst (v := 0) F dX5_in_14 (by decide) ?_
    exact z_iret F hr rfl hlk dX5_in_15 ⟨zhas_f (fun q => zlt_nge c2 q.1), rfl⟩ (Nat.le_of_ble_eq_true rfl) (Nat.le_of_ble_eq_true rfl)
  · refine z_iload_n F dX5_in_5 rfl ?_
    refine z_iload_n F dX5_in_6 rfl ?_
    refine z_icmp_gt (tgt := 14) F dX5_in_7 (by decide) (fun c7 => ?_) (fun c7 => ?_)
    · refine z_iconst (v := 0) F dX5_in_14 (by decide) ?_
      exact z_iret F hr rfl hlk dX5_in_15 ⟨zhas_f (fun q => zlt_nge c7 q.2), rfl⟩ (Nat.le_of_ble_eq_true rfl) (Nat.le_of_ble_eq_true rfl)
    · refine z_iconst (v := 1) F dX5_in_10 (by decide) ?_
      refine z_goto (tgt := 15) F dX5_in_11 (by decide) ?_
      exact z_iret F hr rfl hlk dX5_in_15 ⟨zhas_t ⟨znlt_ge c2, znlt_ge c7⟩, rfl⟩ (Nat.le_of_ble_eq_true rfl) (Nat.le_of_ble_eq_true rfl)

set_option maxHeartbeats 4000000 in
set_option maxRecDepth 100000 in
theorem c_M_has {l : Launch} {D : va_G} {cA : ClassId} {tys : List (ClassId × FieldType)} {w : va_W} (a j : Nat) (ha : a < 2 ^ 31) (hj : j < 32) : zMi l yX5_has (zws yX5_has cX5_has 2 (some .boolean)) { frames := 0, cells := 0, slots := 0, locals := 0 } D zcl ((cA, .int) :: tys) zG [.int (nI a), .int (nI j)] w (fun r w2 => r = zB (a.testBit j) ∧ w2 = w) 0 0 := by
  refine z_ofi (cc := cX5_has) (maxL := 2) (ret := (some .boolean)) (by decide) rfl (Nat.le_of_ble_eq_true rfl) ?_
  intro p e s m below meth c A F hr hlk hnm
  refine z_iload_n F dX5_has_0 rfl ?_
  refine z_iload_n F dX5_has_1 rfl ?_
  refine z_ishr F dX5_has_2 ?_
  refine z_iconst (v := 1) F dX5_has_3 (by decide) ?_
  refine z_iand F dX5_has_4 ?_
  refine z_iconst (v := 1) F dX5_has_5 (by decide) ?_
  refine z_icmp_ne (tgt := 13) F dX5_has_6 (by decide) (fun c6 => ?_) (fun c6 => ?_)
  · refine z_iconst (v := 0) F dX5_has_13 (by decide) ?_
    exact z_iret F hr rfl hlk dX5_has_14 ⟨by rw [zb_bit1 ha hj] at c6; rw [zntt c6]; rfl, rfl⟩ (Nat.le_of_ble_eq_true rfl) (Nat.le_of_ble_eq_true rfl)
  · refine z_iconst (v := 1) F dX5_has_9 (by decide) ?_
    refine z_goto (tgt := 14) F dX5_has_10 (by decide) ?_
    exact z_iret F hr rfl hlk dX5_has_14 ⟨by rw [zb_bit1 ha hj] at c6; rw [c6]; rfl, rfl⟩ (Nat.le_of_ble_eq_true rfl) (Nat.le_of_ble_eq_true rfl)

set_option maxHeartbeats 4000000 in
set_option maxRecDepth 100000 in
theorem c_M_isBox {l : Launch} {D : va_G} {tys : List (ClassId × FieldType)} {am : Nat → Nat} {cA : ClassId} {cd nb : Nat} {ro lo co ks : Nat → Nat} {nu : Nat} {si we ki hw : Nat → Nat} {sl : Nat} {ch : Option Nat} {em : Bool} {bx : Nat → Option Nat} {sx : Nat → Nat} {cn : Nat} {nx : Nat → Option Nat} {ns pt : Nat → Nat} (hn : nb < 2 ^ 31) (b : Int32) : zMi l yX5_isBox (zws yX5_isBox cX5_isBox 2 (some .boolean)) { frames := 1, cells := 0, slots := 0, locals := 22 } D zcl ((cA, .int) :: tys) zG [.ref (am 0), .int b] (wM am cA cd nb ro lo co ks nu si we ki hw sl ch em bx sx cn nx ns pt) (fun r w2 => r = zB (decide (0 ≤ b ∧ b < nI nb)) ∧ w2 = (wM am cA cd nb ro lo co ks nu si we ki hw sl ch em bx sx cn nx ns pt)) 0 0 := by
  refine z_ofi (cc := cX5_isBox) (maxL := 2) (ret := (some .boolean)) (by decide) rfl (Nat.le_of_ble_eq_true rfl) ?_
  intro p e s m below meth c A F hr hlk hnm
  refine z_iload_n F dX5_isBox_0 rfl ?_
  refine z_iconst (v := 0) F dX5_isBox_1 (by decide) ?_
  refine z_aload_n F dX5_isBox_2 rfl ?_
  refine z_get (ci := 5) (C := RX5) (T := TX5) (N := 20) F 0 1 dX5_isBox_3 inX5 kfX5_56 rfl rfl rfl (by decide) rfl ?_
  refine z_iconst (v := 1) F dX5_isBox_6 (by decide) ?_
  refine z_isub F dX5_isBox_7 ?_
  refine z_callSi0 F (c_M_in b 0 (nI nb - 1)) (zcwS F.2.2.2.2.1 kcX5_in kmX5_59 ktX5_in knX5 hdX5_in rfl rfl ⟨(Nat.le_of_ble_eq_true rfl), (Nat.le_of_ble_eq_true rfl)⟩) dX5_isBox_8 rfl rfl (Nat.le_of_ble_eq_true rfl) ⟨(Nat.le_of_ble_eq_true rfl), (Nat.le_of_ble_eq_true rfl)⟩ ?_
  rintro r w2 ⟨rfl, rfl⟩
  exact z_iret F hr (zB_nar _) hlk dX5_isBox_11 ⟨by simp only [zle_m1 hn], rfl⟩ (Nat.le_of_ble_eq_true rfl) (Nat.le_of_ble_eq_true rfl)

set_option maxHeartbeats 4000000 in
set_option maxRecDepth 100000 in
theorem c_M_isUnit {l : Launch} {D : va_G} {tys : List (ClassId × FieldType)} {am : Nat → Nat} {cA : ClassId} {cd nb : Nat} {ro lo co ks : Nat → Nat} {nu : Nat} {si we ki hw : Nat → Nat} {sl : Nat} {ch : Option Nat} {em : Bool} {bx : Nat → Option Nat} {sx : Nat → Nat} {cn : Nat} {nx : Nat → Option Nat} {ns pt : Nat → Nat} (hn : nu < 2 ^ 31) (b : Int32) : zMi l yX5_isUnit (zws yX5_isUnit cX5_isUnit 2 (some .boolean)) { frames := 1, cells := 0, slots := 0, locals := 22 } D zcl ((cA, .int) :: tys) zG [.ref (am 0), .int b] (wM am cA cd nb ro lo co ks nu si we ki hw sl ch em bx sx cn nx ns pt) (fun r w2 => r = zB (decide (0 ≤ b ∧ b < nI nu)) ∧ w2 = (wM am cA cd nb ro lo co ks nu si we ki hw sl ch em bx sx cn nx ns pt)) 0 0 := by
  refine z_ofi (cc := cX5_isUnit) (maxL := 2) (ret := (some .boolean)) (by decide) rfl (Nat.le_of_ble_eq_true rfl) ?_
  intro p e s m below meth c A F hr hlk hnm
  refine z_iload_n F dX5_isUnit_0 rfl ?_
  refine z_iconst (v := 0) F dX5_isUnit_1 (by decide) ?_
  refine z_aload_n F dX5_isUnit_2 rfl ?_
  refine z_get (ci := 5) (C := RX5) (T := TX5) (N := 20) F 0 6 dX5_isUnit_3 inX5 kfX5_63 rfl rfl rfl (by decide) rfl ?_
  refine z_iconst (v := 1) F dX5_isUnit_6 (by decide) ?_
  refine z_isub F dX5_isUnit_7 ?_
  refine z_callSi0 F (c_M_in b 0 (nI nu - 1)) (zcwS F.2.2.2.2.1 kcX5_in kmX5_59 ktX5_in knX5 hdX5_in rfl rfl ⟨(Nat.le_of_ble_eq_true rfl), (Nat.le_of_ble_eq_true rfl)⟩) dX5_isUnit_8 rfl rfl (Nat.le_of_ble_eq_true rfl) ⟨(Nat.le_of_ble_eq_true rfl), (Nat.le_of_ble_eq_true rfl)⟩ ?_
  rintro r w2 ⟨rfl, rfl⟩
  exact z_iret F hr (zB_nar _) hlk dX5_isUnit_11 ⟨by simp only [zle_m1 hn], rfl⟩ (Nat.le_of_ble_eq_true rfl) (Nat.le_of_ble_eq_true rfl)

set_option maxHeartbeats 4000000 in
set_option maxRecDepth 100000 in
theorem c_M_sizes {l : Launch} {D : va_G} {tys : List (ClassId × FieldType)} {am : Nat → Nat} {cA : ClassId} {cd nb : Nat} {ro lo co ks : Nat → Nat} {nu : Nat} {si we ki hw : Nat → Nat} {sl : Nat} {ch : Option Nat} {em : Bool} {bx : Nat → Option Nat} {sx : Nat → Nat} {cn : Nat} {nx : Nat → Option Nat} {ns pt : Nat → Nat} (hn : nu ≤ 8) (a : Nat) (ha : a < 2 ^ 31) : zMi l yX5_sizes (zws yX5_sizes cX5_sizes 4 (some .int)) { frames := 1, cells := 0, slots := 0, locals := 21 } D zcl ((cA, .int) :: tys) zG [.ref (am 0), .int (nI a)] (wM am cA cd nb ro lo co ks nu si we ki hw sl ch em bx sx cn nx ns pt) (fun r w2 => r = nI (zsum si a nu) ∧ w2 = (wM am cA cd nb ro lo co ks nu si we ki hw sl ch em bx sx cn nx ns pt)) 0 0 := by
  refine z_ofi (cc := cX5_sizes) (maxL := 4) (ret := (some .int)) (by decide) rfl (Nat.le_of_ble_eq_true rfl) ?_
  intro p e s m below meth c A F hr hlk hnm
  have loop : ∀ (n j : Nat), j ≤ nu → nu + 1 ≤ j + n → zW p l e (headSpec (zws yX5_sizes cX5_sizes 4 (some .int)) { frames := 1, cells := 0, slots := 0, locals := 21 }).room s m [.ref (am 0), .int (nI a)].toArray below meth c 4 D zcl A 0 0 (MQ below (va_Qi (fun r w2 => r = nI (zsum si a nu) ∧ w2 = (wM am cA cd nb ro lo co ks nu si we ki hw sl ch em bx sx cn nx ns pt)) (zEnd D zcl A) A) [.ref (am 0), .int (nI a)].toArray s 0 0 A) (wM am cA cd nb ro lo co ks nu si we ki hw sl ch em bx sx cn nx ns pt) [(0, .ref (am 0)), (1, .int (nI a)), (2, .int (nI (zsum si a j))), (3, .int (nI j))] 4 [] := by
    intro n
    induction n with
    | zero => intro j h1 h2; omega
    | succ n ih =>
      intro j hj1 hj2
      refine z_iload_n F dX5_sizes_4 rfl ?_
      refine z_aload_n F dX5_sizes_5 rfl ?_
      refine z_get (ci := 5) (C := RX5) (T := TX5) (N := 20) F 0 6 dX5_sizes_6 inX5 kfX5_63 rfl rfl rfl (by decide) rfl ?_
      refine z_icmp_ge (tgt := 39) F dX5_sizes_9 (by decide) (fun c9 => ?_) (fun c9 => ?_)
      · have ej := zge_end hj1 (by omega) c9
        refine z_iload_n F dX5_sizes_39 rfl ?_
        exact z_iret F hr rfl hlk dX5_sizes_40 ⟨by rw [ej], rfl⟩ (Nat.le_of_ble_eq_true rfl) (Nat.le_of_ble_eq_true rfl)
      · have hlt := zge_on (by omega) hj1 c9
        refine z_iload_n F dX5_sizes_12 rfl ?_
        refine z_iload_n F dX5_sizes_13 rfl ?_
        refine z_iload_n F dX5_sizes_14 rfl ?_
        refine z_callSi0 F (c_M_has a j ha (by omega)) (zcwS F.2.2.2.2.1 kcX5_has kmX5_73 ktX5_has knX5 hdX5_has rfl rfl ⟨(Nat.le_of_ble_eq_true rfl), (Nat.le_of_ble_eq_true rfl)⟩) dX5_sizes_15 rfl rfl (Nat.le_of_ble_eq_true rfl) ⟨(Nat.le_of_ble_eq_true rfl), (Nat.le_of_ble_eq_true rfl)⟩ ?_
        rintro r w2 ⟨rfl, rfl⟩
        refine z_if_eq (tgt := 30) F dX5_sizes_18 (by decide) (fun c18 => ?_) (fun c18 => ?_)
        · refine z_iconst (v := 0) F dX5_sizes_30 (by decide) ?_
          refine z_iadd F dX5_sizes_31 ?_
          refine z_topi (y := nI (zsum si a (j + 1))) (by rw [zsum_f (zB_0.mp c18)]; exact nI_add _ 0) ?_
          refine z_istore_n F dX5_sizes_32 (by decide) ?_
          refine z_iinc (v := nI (j + 1)) F dX5_sizes_33 rfl (nI_1 j) (by decide) ?_
          refine z_goto (tgt := 4) F dX5_sizes_36 (by decide) ?_
          exact z_lv rfl (ih (j + 1) (by omega) (by omega))
        · refine z_aload_n F dX5_sizes_21 rfl ?_
          refine z_get (ci := 5) (C := RX5) (T := TX5) (N := 20) F 0 7 dX5_sizes_22 inX5 kfX5_22 rfl rfl rfl (by decide) rfl ?_
          refine z_iload_n F dX5_sizes_25 rfl ?_
          refine z_ialdN F 5 0 dX5_sizes_26 rfl rfl rfl (Nat.lt_of_lt_of_le hlt hn) (by decide) ?_
          refine z_goto (tgt := 31) F dX5_sizes_27 (by decide) ?_
          refine z_iadd F dX5_sizes_31 ?_
          refine z_topi (y := nI (zsum si a (j + 1))) (by rw [zsum_t (zB_1.mp c18)]; exact nI_add _ _) ?_
          refine z_istore_n F dX5_sizes_32 (by decide) ?_
          refine z_iinc (v := nI (j + 1)) F dX5_sizes_33 rfl (nI_1 j) (by decide) ?_
          refine z_goto (tgt := 4) F dX5_sizes_36 (by decide) ?_
          exact z_lv rfl (ih (j + 1) (by omega) (by omega))
  refine z_iconst (v := 0) F dX5_sizes_0 (by decide) ?_
  refine z_istore_n F dX5_sizes_1 (by decide) ?_
  refine z_iconst (v := 0) F dX5_sizes_2 (by decide) ?_
  refine z_istore_n F dX5_sizes_3 (by decide) ?_
  exact z_lv rfl (loop (nu + 1) 0 (by omega) (by omega))

set_option maxHeartbeats 4000000 in
set_option maxRecDepth 100000 in
theorem c_M_weights {l : Launch} {D : va_G} {tys : List (ClassId × FieldType)} {am : Nat → Nat} {cA : ClassId} {cd nb : Nat} {ro lo co ks : Nat → Nat} {nu : Nat} {si we ki hw : Nat → Nat} {sl : Nat} {ch : Option Nat} {em : Bool} {bx : Nat → Option Nat} {sx : Nat → Nat} {cn : Nat} {nx : Nat → Option Nat} {ns pt : Nat → Nat} (hn : nu ≤ 8) (a : Nat) (ha : a < 2 ^ 31) : zMi l yX5_weights (zws yX5_weights cX5_weights 4 (some .int)) { frames := 1, cells := 0, slots := 0, locals := 21 } D zcl ((cA, .int) :: tys) zG [.ref (am 0), .int (nI a)] (wM am cA cd nb ro lo co ks nu si we ki hw sl ch em bx sx cn nx ns pt) (fun r w2 => r = nI (zsum we a nu) ∧ w2 = (wM am cA cd nb ro lo co ks nu si we ki hw sl ch em bx sx cn nx ns pt)) 0 0 := by
  refine z_ofi (cc := cX5_weights) (maxL := 4) (ret := (some .int)) (by decide) rfl (Nat.le_of_ble_eq_true rfl) ?_
  intro p e s m below meth c A F hr hlk hnm
  have loop : ∀ (n j : Nat), j ≤ nu → nu + 1 ≤ j + n → zW p l e (headSpec (zws yX5_weights cX5_weights 4 (some .int)) { frames := 1, cells := 0, slots := 0, locals := 21 }).room s m [.ref (am 0), .int (nI a)].toArray below meth c 4 D zcl A 0 0 (MQ below (va_Qi (fun r w2 => r = nI (zsum we a nu) ∧ w2 = (wM am cA cd nb ro lo co ks nu si we ki hw sl ch em bx sx cn nx ns pt)) (zEnd D zcl A) A) [.ref (am 0), .int (nI a)].toArray s 0 0 A) (wM am cA cd nb ro lo co ks nu si we ki hw sl ch em bx sx cn nx ns pt) [(0, .ref (am 0)), (1, .int (nI a)), (2, .int (nI (zsum we a j))), (3, .int (nI j))] 4 [] := by
    intro n
    induction n with
    | zero => intro j h1 h2; omega
    | succ n ih =>
      intro j hj1 hj2
      refine z_iload_n F dX5_weights_4 rfl ?_
      refine z_aload_n F dX5_weights_5 rfl ?_
      refine z_get (ci := 5) (C := RX5) (T := TX5) (N := 20) F 0 6 dX5_weights_6 inX5 kfX5_63 rfl rfl rfl (by decide) rfl ?_
      refine z_icmp_ge (tgt := 39) F dX5_weights_9 (by decide) (fun c9 => ?_) (fun c9 => ?_)
      · have ej := zge_end hj1 (by omega) c9
        refine z_iload_n F dX5_weights_39 rfl ?_
        exact z_iret F hr rfl hlk dX5_weights_40 ⟨by rw [ej], rfl⟩ (Nat.le_of_ble_eq_true rfl) (Nat.le_of_ble_eq_true rfl)
      · have hlt := zge_on (by omega) hj1 c9
        refine z_iload_n F dX5_weights_12 rfl ?_
        refine z_iload_n F dX5_weights_13 rfl ?_
        refine z_iload_n F dX5_weights_14 rfl ?_
        refine z_callSi0 F (c_M_has a j ha (by omega)) (zcwS F.2.2.2.2.1 kcX5_has kmX5_73 ktX5_has knX5 hdX5_has rfl rfl ⟨(Nat.le_of_ble_eq_true rfl), (Nat.le_of_ble_eq_true rfl)⟩) dX5_weights_15 rfl rfl (Nat.le_of_ble_eq_true rfl) ⟨(Nat.le_of_ble_eq_true rfl), (Nat.le_of_ble_eq_true rfl)⟩ ?_
        rintro r w2 ⟨rfl, rfl⟩
        refine z_if_eq (tgt := 30) F dX5_weights_18 (by decide) (fun c18 => ?_) (fun c18 => ?_)
        · refine z_iconst (v := 0) F dX5_weights_30 (by decide) ?_
          refine z_iadd F dX5_weights_31 ?_
          refine z_topi (y := nI (zsum we a (j + 1))) (by rw [zsum_f (zB_0.mp c18)]; exact nI_add _ 0) ?_
          refine z_istore_n F dX5_weights_32 (by decide) ?_
          refine z_iinc (v := nI (j + 1)) F dX5_weights_33 rfl (nI_1 j) (by decide) ?_
          refine z_goto (tgt := 4) F dX5_weights_36 (by decide) ?_
          exact z_lv rfl (ih (j + 1) (by omega) (by omega))
        · refine z_aload_n F dX5_weights_21 rfl ?_
          refine z_get (ci := 5) (C := RX5) (T := TX5) (N := 20) F 0 8 dX5_weights_22 inX5 kfX5_25 rfl rfl rfl (by decide) rfl ?_
          refine z_iload_n F dX5_weights_25 rfl ?_
          refine z_ialdN F 6 0 dX5_weights_26 rfl rfl rfl (Nat.lt_of_lt_of_le hlt hn) (by decide) ?_
          refine z_goto (tgt := 31) F dX5_weights_27 (by decide) ?_
          refine z_iadd F dX5_weights_31 ?_
          refine z_topi (y := nI (zsum we a (j + 1))) (by rw [zsum_t (zB_1.mp c18)]; exact nI_add _ _) ?_
          refine z_istore_n F dX5_weights_32 (by decide) ?_
          refine z_iinc (v := nI (j + 1)) F dX5_weights_33 rfl (nI_1 j) (by decide) ?_
          refine z_goto (tgt := 4) F dX5_weights_36 (by decide) ?_
          exact z_lv rfl (ih (j + 1) (by omega) (by omega))
  refine z_iconst (v := 0) F dX5_weights_0 (by decide) ?_
  refine z_istore_n F dX5_weights_1 (by decide) ?_
  refine z_iconst (v := 0) F dX5_weights_2 (by decide) ?_
  refine z_istore_n F dX5_weights_3 (by decide) ?_
  exact z_lv rfl (loop (nu + 1) 0 (by omega) (by omega))

set_option maxHeartbeats 4000000 in
set_option maxRecDepth 100000 in
theorem c_M_takes {l : Launch} {D : va_G} {tys : List (ClassId × FieldType)} {am : Nat → Nat} {cA : ClassId} {cd nb : Nat} {ro lo co ks : Nat → Nat} {nu : Nat} {si we ki hw : Nat → Nat} {sl : Nat} {ch : Option Nat} {em : Bool} {bx : Nat → Option Nat} {sx : Nat → Nat} {cn : Nat} {nx : Nat → Option Nat} {ns pt : Nat → Nat} (hn : nu ≤ 8) (hk : ∀ x, ks x < 2 ^ 31) (hk2 : ∀ x, ki x < 32) (b a : Nat) (hb : b < 6) (ha : a < 2 ^ 31) : zMi l yX5_takesKinds (zws yX5_takesKinds cX5_takesKinds 4 (some .boolean)) { frames := 1, cells := 0, slots := 0, locals := 21 } D zcl ((cA, .int) :: tys) zG [.ref (am 0), .int (nI b), .int (nI a)] (wM am cA cd nb ro lo co ks nu si we ki hw sl ch em bx sx cn nx ns pt) (fun r w2 => r = zB (zmk ks ki nu b a) ∧ w2 = (wM am cA cd nb ro lo co ks nu si we ki hw sl ch em bx sx cn nx ns pt)) 0 0 := by
  refine z_ofi (cc := cX5_takesKinds) (maxL := 4) (ret := (some .boolean)) (by decide) rfl (Nat.le_of_ble_eq_true rfl) ?_
  intro p e s m below meth c A F hr hlk hnm
  have loop : ∀ (n j : Nat), j ≤ nu → nu + 1 ≤ j + n → zany (fun x => a.testBit x && !(ks b).testBit (ki x)) j = false → zW p l e (headSpec (zws yX5_takesKinds cX5_takesKinds 4 (some .boolean)) { frames := 1, cells := 0, slots := 0, locals := 21 }).room s m [.ref (am 0), .int (nI b), .int (nI a)].toArray below meth c 4 D zcl A 0 0 (MQ below (va_Qi (fun r w2 => r = zB (zmk ks ki nu b a) ∧ w2 = (wM am cA cd nb ro lo co ks nu si we ki hw sl ch em bx sx cn nx ns pt)) (zEnd D zcl A) A) [.ref (am 0), .int (nI b), .int (nI a)].toArray s 0 0 A) (wM am cA cd nb ro lo co ks nu si we ki hw sl ch em bx sx cn nx ns pt) [(0, .ref (am 0)), (1, .int (nI b)), (2, .int (nI a)), (3, .int (nI j))] 2 [] := by
    intro n
    induction n with
    | zero => intro j h1 h2; omega
    | succ n ih =>
      intro j hj1 hj2 hz
      refine z_iload_n F dX5_takesKinds_2 rfl ?_
      refine z_aload_n F dX5_takesKinds_3 rfl ?_
      refine z_get (ci := 5) (C := RX5) (T := TX5) (N := 20) F 0 6 dX5_takesKinds_4 inX5 kfX5_63 rfl rfl rfl (by decide) rfl ?_
      refine z_icmp_ge (tgt := 44) F dX5_takesKinds_7 (by decide) (fun c7 => ?_) (fun c7 => ?_)
      · have ej := zge_end hj1 (by omega) c7
        refine z_iconst (v := 1) F dX5_takesKinds_44 (by decide) ?_
        exact z_iret F hr rfl hlk dX5_takesKinds_45 ⟨by unfold zmk; rw [← ej, hz]; rfl, rfl⟩ (Nat.le_of_ble_eq_true rfl) (Nat.le_of_ble_eq_true rfl)
      · have hlt := zge_on (by omega) hj1 c7
        refine z_iload_n F dX5_takesKinds_10 rfl ?_
        refine z_iload_n F dX5_takesKinds_11 rfl ?_
        refine z_callSi0 F (c_M_has a j ha (by omega)) (zcwS F.2.2.2.2.1 kcX5_has kmX5_73 ktX5_has knX5 hdX5_has rfl rfl ⟨(Nat.le_of_ble_eq_true rfl), (Nat.le_of_ble_eq_true rfl)⟩) dX5_takesKinds_12 rfl rfl (Nat.le_of_ble_eq_true rfl) ⟨(Nat.le_of_ble_eq_true rfl), (Nat.le_of_ble_eq_true rfl)⟩ ?_
        rintro r w2 ⟨rfl, rfl⟩
        refine z_if_eq (tgt := 38) F dX5_takesKinds_15 (by decide) (fun c15 => ?_) (fun c15 => ?_)
        · refine z_iinc (v := nI (j + 1)) F dX5_takesKinds_38 rfl (nI_1 j) (by decide) ?_
          refine z_goto (tgt := 2) F dX5_takesKinds_41 (by decide) ?_
          exact z_lv rfl (ih (j + 1) (by omega) (by omega) (zany_s hz (by rw [zB_0.mp c15]; rfl)))
        · refine z_aload_n F dX5_takesKinds_18 rfl ?_
          refine z_get (ci := 5) (C := RX5) (T := TX5) (N := 20) F 0 5 dX5_takesKinds_19 inX5 kfX5_19 rfl rfl rfl (by decide) rfl ?_
          refine z_iload_n F dX5_takesKinds_22 rfl ?_
          refine z_ialdN F 4 0 dX5_takesKinds_23 rfl rfl rfl hb (by decide) ?_
          refine z_aload_n F dX5_takesKinds_24 rfl ?_
          refine z_get (ci := 5) (C := RX5) (T := TX5) (N := 20) F 0 9 dX5_takesKinds_25 inX5 kfX5_28 rfl rfl rfl (by decide) rfl ?_
          refine z_iload_n F dX5_takesKinds_28 rfl ?_
          refine z_ialdN F 7 0 dX5_takesKinds_29 rfl rfl rfl (Nat.lt_of_lt_of_le hlt hn) (by decide) ?_
          refine z_ishr F dX5_takesKinds_30 ?_
          refine z_iconst (v := 1) F dX5_takesKinds_31 (by decide) ?_
          refine z_iand F dX5_takesKinds_32 ?_
          refine z_if_ne (tgt := 38) F dX5_takesKinds_33 (by decide) (fun c33 => ?_) (fun c33 => ?_)
          · have n33 : (ks b).testBit (ki j) = true := znff (fun q => c33 ((zb_bit (hk b) (hk2 j)).mpr q))
            refine z_iinc (v := nI (j + 1)) F dX5_takesKinds_38 rfl (nI_1 j) (by decide) ?_
            refine z_goto (tgt := 2) F dX5_takesKinds_41 (by decide) ?_
            exact z_lv rfl (ih (j + 1) (by omega) (by omega) (zany_s hz (by rw [n33]; exact Bool.and_false _)))
          · have n33 : (ks b).testBit (ki j) = false := (zb_bit (hk b) (hk2 j)).mp c33
            refine z_iconst (v := 0) F dX5_takesKinds_36 (by decide) ?_
            exact z_iret F hr rfl hlk dX5_takesKinds_37 ⟨by unfold zmk; rw [zany_t hlt (by rw [zB_1.mp c15, n33]; rfl)]; rfl, rfl⟩ (Nat.le_of_ble_eq_true rfl) (Nat.le_of_ble_eq_true rfl)
  refine z_iconst (v := 0) F dX5_takesKinds_0 (by decide) ?_
  refine z_istore_n F dX5_takesKinds_1 (by decide) ?_
  exact z_lv rfl (loop (nu + 1) 0 (by omega) (by omega) rfl)

set_option maxHeartbeats 4000000 in
set_option maxRecDepth 100000 in
theorem c_M_apart {l : Launch} {D : va_G} {tys : List (ClassId × FieldType)} {am : Nat → Nat} {cA : ClassId} {cd nb : Nat} {ro lo co ks : Nat → Nat} {nu : Nat} {si we ki hw : Nat → Nat} {sl : Nat} {ch : Option Nat} {em : Bool} {bx : Nat → Option Nat} {sx : Nat → Nat} {cn : Nat} {nx : Nat → Option Nat} {ns pt : Nat → Nat} (hn : nu ≤ 8) (hh : ∀ x, hw x < 2 ^ 31) (a : Nat) (ha : a < 2 ^ 31) : zMi l yX5_hasApart (zws yX5_hasApart cX5_hasApart 4 (some .boolean)) { frames := 1, cells := 0, slots := 0, locals := 21 } D zcl ((cA, .int) :: tys) zG [.ref (am 0), .int (nI a)] (wM am cA cd nb ro lo co ks nu si we ki hw sl ch em bx sx cn nx ns pt) (fun r w2 => r = zB (zma hw nu a) ∧ w2 = (wM am cA cd nb ro lo co ks nu si we ki hw sl ch em bx sx cn nx ns pt)) 0 0 := by
  refine z_ofi (cc := cX5_hasApart) (maxL := 4) (ret := (some .boolean)) (by decide) rfl (Nat.le_of_ble_eq_true rfl) ?_
  intro p e s m below meth c A F hr hlk hnm
  have loop : ∀ (n x : Nat), x ≤ nu → nu + 1 ≤ x + n → zany (fun x => zany (fun y => a.testBit x && (a.testBit y && decide (hw (8 * x + y) = 1))) x) x = false → zW p l e (headSpec (zws yX5_hasApart cX5_hasApart 4 (some .boolean)) { frames := 1, cells := 0, slots := 0, locals := 21 }).room s m [.ref (am 0), .int (nI a)].toArray below meth c 4 D zcl A 0 0 (MQ below (va_Qi (fun r w2 => r = zB (zma hw nu a) ∧ w2 = (wM am cA cd nb ro lo co ks nu si we ki hw sl ch em bx sx cn nx ns pt)) (zEnd D zcl A) A) [.ref (am 0), .int (nI a)].toArray s 0 0 A) (wM am cA cd nb ro lo co ks nu si we ki hw sl ch em bx sx cn nx ns pt) [(0, .ref (am 0)), (1, .int (nI a)), (2, .int (nI x))] 2 [] := by
    intro n
    induction n with
    | zero => intro x h1 h2; omega
    | succ n ih =>
      intro x hx1 hx2 hz
      refine z_iload_n F dX5_hasApart_2 rfl ?_
      refine z_aload_n F dX5_hasApart_3 rfl ?_
      refine z_get (ci := 5) (C := RX5) (T := TX5) (N := 20) F 0 6 dX5_hasApart_4 inX5 kfX5_63 rfl rfl rfl (by decide) rfl ?_
      refine z_icmp_ge (tgt := 62) F dX5_hasApart_7 (by decide) (fun c7 => ?_) (fun c7 => ?_)
      · have ej := zge_end hx1 (by omega) c7
        refine z_iconst (v := 0) F dX5_hasApart_62 (by decide) ?_
        exact z_iret F hr rfl hlk dX5_hasApart_63 ⟨by unfold zma; have e := hz; rw [ej] at e; rw [e]; rfl, rfl⟩ (Nat.le_of_ble_eq_true rfl) (Nat.le_of_ble_eq_true rfl)
      · have hlt := zge_on (by omega) hx1 c7
        refine z_iconst (v := 0) F dX5_hasApart_10 (by decide) ?_
        refine z_istore_n F dX5_hasApart_11 (by decide) ?_
        have inner : ∀ (n2 y : Nat), y ≤ x → x + 1 ≤ y + n2 → zany (fun y => a.testBit x && (a.testBit y && decide (hw (8 * x + y) = 1))) y = false → zW p l e (headSpec (zws yX5_hasApart cX5_hasApart 4 (some .boolean)) { frames := 1, cells := 0, slots := 0, locals := 21 }).room s m [.ref (am 0), .int (nI a)].toArray below meth c 4 D zcl A 0 0 (MQ below (va_Qi (fun r w2 => r = zB (zma hw nu a) ∧ w2 = (wM am cA cd nb ro lo co ks nu si we ki hw sl ch em bx sx cn nx ns pt)) (zEnd D zcl A) A) [.ref (am 0), .int (nI a)].toArray s 0 0 A) (wM am cA cd nb ro lo co ks nu si we ki hw sl ch em bx sx cn nx ns pt) [(0, .ref (am 0)), (1, .int (nI a)), (2, .int (nI x)), (3, .int (nI y))] 12 [] := by
          intro n2
          induction n2 with
          | zero => intro y h1 h2; omega
          | succ n2 ih2 =>
            intro y hy1 hy2 hz2
            refine z_iload_n F dX5_hasApart_12 rfl ?_
            refine z_iload_n F dX5_hasApart_13 rfl ?_
            refine z_icmp_ge (tgt := 56) F dX5_hasApart_14 (by decide) (fun c14 => ?_) (fun c14 => ?_)
            · have ey := zge_end hy1 (by omega) c14
              rw [ey] at hz2
              refine z_iinc (v := nI (x + 1)) F dX5_hasApart_56 rfl (nI_1 x) (by decide) ?_
              refine z_goto (tgt := 2) F dX5_hasApart_59 (by decide) ?_
              exact z_lv rfl (ih (x + 1) (by omega) (by omega) (zany_s hz hz2))
            · have hly := zge_on (by omega) hy1 c14
              refine z_iload_n F dX5_hasApart_17 rfl ?_
              refine z_iload_n F dX5_hasApart_18 rfl ?_
              refine z_callSi0 F (c_M_has a x ha (by omega)) (zcwS F.2.2.2.2.1 kcX5_has kmX5_73 ktX5_has knX5 hdX5_has rfl rfl ⟨(Nat.le_of_ble_eq_true rfl), (Nat.le_of_ble_eq_true rfl)⟩) dX5_hasApart_19 rfl rfl (Nat.le_of_ble_eq_true rfl) ⟨(Nat.le_of_ble_eq_true rfl), (Nat.le_of_ble_eq_true rfl)⟩ ?_
              rintro r w2 ⟨rfl, rfl⟩
              refine z_if_eq (tgt := 50) F dX5_hasApart_22 (by decide) (fun c22 => ?_) (fun c22 => ?_)
              · refine z_iinc (v := nI (y + 1)) F dX5_hasApart_50 rfl (nI_1 y) (by decide) ?_
                refine z_goto (tgt := 12) F dX5_hasApart_53 (by decide) ?_
                exact z_lv rfl (ih2 (y + 1) (by omega) (by omega) (zany_s hz2 (by rw [zB_0.mp c22]; rfl)))
              · refine z_iload_n F dX5_hasApart_25 rfl ?_
                refine z_iload_n F dX5_hasApart_26 rfl ?_
                refine z_callSi0 F (c_M_has a y ha (by omega)) (zcwS F.2.2.2.2.1 kcX5_has kmX5_73 ktX5_has knX5 hdX5_has rfl rfl ⟨(Nat.le_of_ble_eq_true rfl), (Nat.le_of_ble_eq_true rfl)⟩) dX5_hasApart_27 rfl rfl (Nat.le_of_ble_eq_true rfl) ⟨(Nat.le_of_ble_eq_true rfl), (Nat.le_of_ble_eq_true rfl)⟩ ?_
                rintro r w2 ⟨rfl, rfl⟩
                refine z_if_eq (tgt := 50) F dX5_hasApart_30 (by decide) (fun c30 => ?_) (fun c30 => ?_)
                · refine z_iinc (v := nI (y + 1)) F dX5_hasApart_50 rfl (nI_1 y) (by decide) ?_
                  refine z_goto (tgt := 12) F dX5_hasApart_53 (by decide) ?_
                  exact z_lv rfl (ih2 (y + 1) (by omega) (by omega) (zany_s hz2 (by rw [zB_0.mp c30]; exact Bool.and_false _)))
                · refine z_aload_n F dX5_hasApart_33 rfl ?_
                  refine z_get (ci := 5) (C := RX5) (T := TX5) (N := 20) F 0 10 dX5_hasApart_34 inX5 kfX5_31 rfl rfl rfl (by decide) rfl ?_
                  refine z_bipush (v := 8) F dX5_hasApart_37 (by decide) ?_
                  refine z_iload_n F dX5_hasApart_39 rfl ?_
                  refine z_imul F dX5_hasApart_40 ?_
                  refine z_topi (y := nI (8 * x)) (pk_mul 8 x) ?_
                  refine z_iload_n F dX5_hasApart_41 rfl ?_
                  refine z_iadd F dX5_hasApart_42 ?_
                  refine z_topi (y := nI (8 * x + y)) (nI_add _ _) ?_
                  refine z_ialdN F 8 0 dX5_hasApart_43 rfl rfl rfl (by omega) (by decide) ?_
                  refine z_iconst (v := 1) F dX5_hasApart_44 (by decide) ?_
                  refine z_icmp_ne (tgt := 50) F dX5_hasApart_45 (by decide) (fun c45 => ?_) (fun c45 => ?_)
                  · refine z_iinc (v := nI (y + 1)) F dX5_hasApart_50 rfl (nI_1 y) (by decide) ?_
                    refine z_goto (tgt := 12) F dX5_hasApart_53 (by decide) ?_
                    exact z_lv rfl (ih2 (y + 1) (by omega) (by omega) (zany_s hz2 (by rw [decide_eq_false (fun q => c45 (by rw [q]; rfl)), Bool.and_false, Bool.and_false])))
                  · refine z_iconst (v := 1) F dX5_hasApart_48 (by decide) ?_
                    exact z_iret F hr rfl hlk dX5_hasApart_49 ⟨by unfold zma; rw [zany_t (P := (fun x => zany (fun y => a.testBit x && (a.testBit y && decide (hw (8 * x + y) = 1))) x)) hlt (zany_t (P := (fun y => a.testBit x && (a.testBit y && decide (hw (8 * x + y) = 1)))) hly (by rw [zB_1.mp c22, zB_1.mp c30, decide_eq_true ((nI_eq (hh _) (by decide)).mp c45)]; rfl))]; rfl, rfl⟩ (Nat.le_of_ble_eq_true rfl) (Nat.le_of_ble_eq_true rfl)
        exact z_lv rfl (inner (x + 1) 0 (by omega) (by omega) rfl)
  refine z_iconst (v := 0) F dX5_hasApart_0 (by decide) ?_
  refine z_istore_n F dX5_hasApart_1 (by decide) ?_
  exact z_lv rfl (loop (nu + 1) 0 (by omega) (by omega) rfl)

set_option maxHeartbeats 4000000 in
set_option maxRecDepth 100000 in
theorem c_M_whole {l : Launch} {D : va_G} {tys : List (ClassId × FieldType)} {am : Nat → Nat} {cA : ClassId} {cd nb : Nat} {ro lo co ks : Nat → Nat} {nu : Nat} {si we ki hw : Nat → Nat} {sl : Nat} {ch : Option Nat} {em : Bool} {bx : Nat → Option Nat} {sx : Nat → Nat} {cn : Nat} {nx : Nat → Option Nat} {ns pt : Nat → Nat} (hn : nu ≤ 8) (hh : ∀ x, hw x < 2 ^ 31) (a : Nat) (ha : a < 2 ^ 31) : zMi l yX5_isWhole (zws yX5_isWhole cX5_isWhole 4 (some .boolean)) { frames := 1, cells := 0, slots := 0, locals := 21 } D zcl ((cA, .int) :: tys) zG [.ref (am 0), .int (nI a)] (wM am cA cd nb ro lo co ks nu si we ki hw sl ch em bx sx cn nx ns pt) (fun r w2 => r = zB (zmw hw nu a) ∧ w2 = (wM am cA cd nb ro lo co ks nu si we ki hw sl ch em bx sx cn nx ns pt)) 0 0 := by
  refine z_ofi (cc := cX5_isWhole) (maxL := 4) (ret := (some .boolean)) (by decide) rfl (Nat.le_of_ble_eq_true rfl) ?_
  intro p e s m below meth c A F hr hlk hnm
  have loop : ∀ (n x : Nat), x ≤ nu → nu + 1 ≤ x + n → zany (fun x => zany (fun y => a.testBit x && (!a.testBit y && decide (hw (8 * x + y) = 2))) nu) x = false → zW p l e (headSpec (zws yX5_isWhole cX5_isWhole 4 (some .boolean)) { frames := 1, cells := 0, slots := 0, locals := 21 }).room s m [.ref (am 0), .int (nI a)].toArray below meth c 4 D zcl A 0 0 (MQ below (va_Qi (fun r w2 => r = zB (zmw hw nu a) ∧ w2 = (wM am cA cd nb ro lo co ks nu si we ki hw sl ch em bx sx cn nx ns pt)) (zEnd D zcl A) A) [.ref (am 0), .int (nI a)].toArray s 0 0 A) (wM am cA cd nb ro lo co ks nu si we ki hw sl ch em bx sx cn nx ns pt) [(0, .ref (am 0)), (1, .int (nI a)), (2, .int (nI x))] 2 [] := by
    intro n
    induction n with
    | zero => intro x h1 h2; omega
    | succ n ih =>
      intro x hx1 hx2 hz
      refine z_iload_n F dX5_isWhole_2 rfl ?_
      refine z_aload_n F dX5_isWhole_3 rfl ?_
      refine z_get (ci := 5) (C := RX5) (T := TX5) (N := 20) F 0 6 dX5_isWhole_4 inX5 kfX5_63 rfl rfl rfl (by decide) rfl ?_
      refine z_icmp_ge (tgt := 65) F dX5_isWhole_7 (by decide) (fun c7 => ?_) (fun c7 => ?_)
      · have ej := zge_end hx1 (by omega) c7
        refine z_iconst (v := 1) F dX5_isWhole_65 (by decide) ?_
        exact z_iret F hr rfl hlk dX5_isWhole_66 ⟨by unfold zmw; have e := hz; rw [ej] at e; rw [e]; rfl, rfl⟩ (Nat.le_of_ble_eq_true rfl) (Nat.le_of_ble_eq_true rfl)
      · have hlt := zge_on (by omega) hx1 c7
        refine z_iconst (v := 0) F dX5_isWhole_10 (by decide) ?_
        refine z_istore_n F dX5_isWhole_11 (by decide) ?_
        have inner : ∀ (n2 y : Nat), y ≤ nu → nu + 1 ≤ y + n2 → zany (fun y => a.testBit x && (!a.testBit y && decide (hw (8 * x + y) = 2))) y = false → zW p l e (headSpec (zws yX5_isWhole cX5_isWhole 4 (some .boolean)) { frames := 1, cells := 0, slots := 0, locals := 21 }).room s m [.ref (am 0), .int (nI a)].toArray below meth c 4 D zcl A 0 0 (MQ below (va_Qi (fun r w2 => r = zB (zmw hw nu a) ∧ w2 = (wM am cA cd nb ro lo co ks nu si we ki hw sl ch em bx sx cn nx ns pt)) (zEnd D zcl A) A) [.ref (am 0), .int (nI a)].toArray s 0 0 A) (wM am cA cd nb ro lo co ks nu si we ki hw sl ch em bx sx cn nx ns pt) [(0, .ref (am 0)), (1, .int (nI a)), (2, .int (nI x)), (3, .int (nI y))] 12 [] := by
          intro n2
          induction n2 with
          | zero => intro y h1 h2; omega
          | succ n2 ih2 =>
            intro y hy1 hy2 hz2
            refine z_iload_n F dX5_isWhole_12 rfl ?_
            refine z_aload_n F dX5_isWhole_13 rfl ?_
            refine z_get (ci := 5) (C := RX5) (T := TX5) (N := 20) F 0 6 dX5_isWhole_14 inX5 kfX5_63 rfl rfl rfl (by decide) rfl ?_
            refine z_icmp_ge (tgt := 59) F dX5_isWhole_17 (by decide) (fun c17 => ?_) (fun c17 => ?_)
            · have ey := zge_end hy1 (by omega) c17
              rw [ey] at hz2
              refine z_iinc (v := nI (x + 1)) F dX5_isWhole_59 rfl (nI_1 x) (by decide) ?_
              refine z_goto (tgt := 2) F dX5_isWhole_62 (by decide) ?_
              exact z_lv rfl (ih (x + 1) (by omega) (by omega) (zany_s hz hz2))
            · have hly := zge_on (by omega) hy1 c17
              refine z_iload_n F dX5_isWhole_20 rfl ?_
              refine z_iload_n F dX5_isWhole_21 rfl ?_
              refine z_callSi0 F (c_M_has a x ha (by omega)) (zcwS F.2.2.2.2.1 kcX5_has kmX5_73 ktX5_has knX5 hdX5_has rfl rfl ⟨(Nat.le_of_ble_eq_true rfl), (Nat.le_of_ble_eq_true rfl)⟩) dX5_isWhole_22 rfl rfl (Nat.le_of_ble_eq_true rfl) ⟨(Nat.le_of_ble_eq_true rfl), (Nat.le_of_ble_eq_true rfl)⟩ ?_
              rintro r w2 ⟨rfl, rfl⟩
              refine z_if_eq (tgt := 53) F dX5_isWhole_25 (by decide) (fun c25 => ?_) (fun c25 => ?_)
              · refine z_iinc (v := nI (y + 1)) F dX5_isWhole_53 rfl (nI_1 y) (by decide) ?_
                refine z_goto (tgt := 12) F dX5_isWhole_56 (by decide) ?_
                exact z_lv rfl (ih2 (y + 1) (by omega) (by omega) (zany_s hz2 (by rw [zB_0.mp c25]; rfl)))
              · refine z_iload_n F dX5_isWhole_28 rfl ?_
                refine z_iload_n F dX5_isWhole_29 rfl ?_
                refine z_callSi0 F (c_M_has a y ha (by omega)) (zcwS F.2.2.2.2.1 kcX5_has kmX5_73 ktX5_has knX5 hdX5_has rfl rfl ⟨(Nat.le_of_ble_eq_true rfl), (Nat.le_of_ble_eq_true rfl)⟩) dX5_isWhole_30 rfl rfl (Nat.le_of_ble_eq_true rfl) ⟨(Nat.le_of_ble_eq_true rfl), (Nat.le_of_ble_eq_true rfl)⟩ ?_
                rintro r w2 ⟨rfl, rfl⟩
                refine z_if_ne (tgt := 53) F dX5_isWhole_33 (by decide) (fun c33 => ?_) (fun c33 => ?_)
                · refine z_iinc (v := nI (y + 1)) F dX5_isWhole_53 rfl (nI_1 y) (by decide) ?_
                  refine z_goto (tgt := 12) F dX5_isWhole_56 (by decide) ?_
                  exact z_lv rfl (ih2 (y + 1) (by omega) (by omega) (zany_s hz2 (by rw [zB_1.mp c33]; exact Bool.and_false _)))
                · refine z_aload_n F dX5_isWhole_36 rfl ?_
                  refine z_get (ci := 5) (C := RX5) (T := TX5) (N := 20) F 0 10 dX5_isWhole_37 inX5 kfX5_31 rfl rfl rfl (by decide) rfl ?_
                  refine z_bipush (v := 8) F dX5_isWhole_40 (by decide) ?_
                  refine z_iload_n F dX5_isWhole_42 rfl ?_
                  refine z_imul F dX5_isWhole_43 ?_
                  refine z_topi (y := nI (8 * x)) (pk_mul 8 x) ?_
                  refine z_iload_n F dX5_isWhole_44 rfl ?_
                  refine z_iadd F dX5_isWhole_45 ?_
                  refine z_topi (y := nI (8 * x + y)) (nI_add _ _) ?_
                  refine z_ialdN F 8 0 dX5_isWhole_46 rfl rfl rfl (by omega) (by decide) ?_
                  refine z_iconst (v := 2) F dX5_isWhole_47 (by decide) ?_
                  refine z_icmp_ne (tgt := 53) F dX5_isWhole_48 (by decide) (fun c48 => ?_) (fun c48 => ?_)
                  · refine z_iinc (v := nI (y + 1)) F dX5_isWhole_53 rfl (nI_1 y) (by decide) ?_
                    refine z_goto (tgt := 12) F dX5_isWhole_56 (by decide) ?_
                    exact z_lv rfl (ih2 (y + 1) (by omega) (by omega) (zany_s hz2 (by rw [decide_eq_false (fun q => c48 (by rw [q]; rfl)), Bool.and_false, Bool.and_false])))
                  · refine z_iconst (v := 0) F dX5_isWhole_51 (by decide) ?_
                    exact z_iret F hr rfl hlk dX5_isWhole_52 ⟨by unfold zmw; rw [zany_t (P := (fun x => zany (fun y => a.testBit x && (!a.testBit y && decide (hw (8 * x + y) = 2))) nu)) hlt (zany_t (P := (fun y => a.testBit x && (!a.testBit y && decide (hw (8 * x + y) = 2)))) hly (by rw [zB_1.mp c25, zB_0.mp c33, decide_eq_true ((nI_eq (hh _) (by decide)).mp c48)]; rfl))]; rfl, rfl⟩ (Nat.le_of_ble_eq_true rfl) (Nat.le_of_ble_eq_true rfl)
        exact z_lv rfl (inner (nu + 1) 0 (by omega) (by omega) rfl)
  refine z_iconst (v := 0) F dX5_isWhole_0 (by decide) ?_
  refine z_istore_n F dX5_isWhole_1 (by decide) ?_
  exact z_lv rfl (loop (nu + 1) 0 (by omega) (by omega) rfl)
