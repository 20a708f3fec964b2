set_option maxHeartbeats 4000000 in
set_option maxRecDepth 100000 in
theorem c_M_keep {l : Launch} {D : va_G} {tys : List (ClassId × FieldType)} {am : Nat → Nat} {cA : ClassId} {cd nb : Nat} {ro lo co ks : Nat → Nat} {nu : Nat} {si we ki hw : Nat → Nat} {sl : Nat} {ch : Option Nat} {em : Bool} {bx : Nat → Option Nat} {sx : Nat → Nat} {cn : Nat} {nx : Nat → Option Nat} {ns pt : Nat → Nat} (hc : cn ≤ 8) : zMv l yX5_keep (zws yX5_keep cX5_keep 2 none) { frames := 0, cells := 0, slots := 0, locals := 0 } D zcl ((cA, .int) :: tys) zG [.ref (am 0)] (wM am cA cd nb ro lo co ks nu si we ki hw sl ch em bx sx cn nx ns pt) (fun w2 => w2 = (wM am cA cd nb ro lo co ks nu si we ki hw sl (some cn) em (zcpo bx nx cn) (zcpn sx ns cn) cn nx ns pt)) 0 0 := by
  refine z_ofv (cc := cX5_keep) (maxL := 2) (ret := none) (by decide) rfl (Nat.le_of_ble_eq_true rfl) ?_
  intro p e s m below meth c A F hr hlk hnm
  have loop : ∀ (n j : Nat), j ≤ cn → cn + 1 ≤ j + n → zW p l e (headSpec (zws yX5_keep cX5_keep 2 none) { frames := 0, cells := 0, slots := 0, locals := 0 }).room s m [.ref (am 0)].toArray below meth c 2 D zcl A 0 0 (MQ below (va_Qv (fun w2 => w2 = (wM am cA cd nb ro lo co ks nu si we ki hw sl (some cn) em (zcpo bx nx cn) (zcpn sx ns cn) cn nx ns pt)) (zEnd D zcl A) A) [.ref (am 0)].toArray s 0 0 A) (wM am cA cd nb ro lo co ks nu si we ki hw sl (some cn) em (zcpo bx nx j) (zcpn sx ns j) cn nx ns pt) [(0, .ref (am 0)), (1, .int (nI j))] 10 [] := by
    intro n
    induction n with
    | zero => intro j h1 h2; omega
    | succ n ih =>
      intro j hj1 hj2
      refine z_iload_n F dX5_keep_10 rfl ?_
      refine z_aload_n F dX5_keep_11 rfl ?_
      refine z_get (ci := 5) (C := RX5) (T := TX5) (N := 20) F 0 16 dX5_keep_12 inX5 kfX5_99 rfl rfl rfl (by decide) rfl ?_
      refine z_icmp_ge (tgt := 48) F dX5_keep_15 (by decide) (fun c15 => ?_) (fun c15 => ?_)
      · have ej := zge_end hj1 (by omega) c15
        exact z_vret F hr hlk dX5_keep_48 (by rw [ej]) (Nat.le_of_ble_eq_true rfl) (Nat.le_of_ble_eq_true rfl)
      · have hlt := zge_on (by omega) hj1 c15
        refine z_aload_n F dX5_keep_18 rfl ?_
        refine z_get (ci := 5) (C := RX5) (T := TX5) (N := 20) F 0 14 dX5_keep_19 inX5 kfX5_38 rfl rfl rfl (by decide) rfl ?_
        refine z_iload_n F dX5_keep_22 rfl ?_
        refine z_aload_n F dX5_keep_23 rfl ?_
        refine z_get (ci := 5) (C := RX5) (T := TX5) (N := 20) F 0 17 dX5_keep_24 inX5 kfX5_44 rfl rfl rfl (by decide) rfl ?_
        refine z_iload_n F dX5_keep_27 rfl ?_
        refine z_iald F 11 0 dX5_keep_28 rfl rfl rfl (by omega) (by decide) ?_
        refine z_iastO F 9 0 (nx j) dX5_keep_29 rfl rfl rfl (by omega) (by decide) rfl ?_
        refine z_aload_n F dX5_keep_30 rfl ?_
        refine z_get (ci := 5) (C := RX5) (T := TX5) (N := 20) F 0 15 dX5_keep_31 inX5 kfX5_41 rfl rfl rfl (by decide) rfl ?_
        refine z_iload_n F dX5_keep_34 rfl ?_
        refine z_aload_n F dX5_keep_35 rfl ?_
        refine z_get (ci := 5) (C := RX5) (T := TX5) (N := 20) F 0 18 dX5_keep_36 inX5 kfX5_47 rfl rfl rfl (by decide) rfl ?_
        refine z_iload_n F dX5_keep_39 rfl ?_
        refine z_ialdN F 12 0 dX5_keep_40 rfl rfl rfl (by omega) (by decide) ?_
        refine z_iastN F 10 0 _ dX5_keep_41 rfl rfl rfl (by omega) (by decide) rfl ?_
        refine z_iinc (v := nI (j + 1)) F dX5_keep_42 rfl (nI_1 j) (by decide) ?_
        refine z_goto (tgt := 10) F dX5_keep_45 (by decide) ?_
        have h9 := ih (j + 1) (by omega) (by omega)
        rw [← zcpo_s bx nx j, ← zcpn_s sx ns j] at h9
        exact z_lv rfl h9
  refine z_aload_n F dX5_keep_0 rfl ?_
  refine z_aload_n F dX5_keep_1 rfl ?_
  refine z_get (ci := 5) (C := RX5) (T := TX5) (N := 20) F 0 16 dX5_keep_2 inX5 kfX5_99 rfl rfl rfl (by decide) rfl ?_
  refine z_put (ci := 5) (C := RX5) (T := TX5) (N := 20) (ty := .int) F 0 12 dX5_keep_5 inX5 tyX5 tyX5_ok nmX5 kfX5_34 rfl rfl rfl (by decide) rfl (by decide +kernel) rfl rfl (Nat.le_of_ble_eq_true rfl) ?_
  refine z_iconst (v := 0) F dX5_keep_8 (by decide) ?_
  refine z_istore_n F dX5_keep_9 (by decide) ?_
  have h9 := loop (cn + 1) 0 (by omega) (by omega)
  rw [zcpo_0, zcpn_0] at h9
  exact z_lv rfl h9

set_option maxHeartbeats 4000000 in
set_option maxRecDepth 100000 in
theorem c_M_cost_b {l : Launch} {D : va_G} {tys : List (ClassId × FieldType)} {am : Nat → Nat} {cA : ClassId} {cd nb : Nat} {ro lo co ks : Nat → Nat} {nu : Nat} {si we ki hw : Nat → Nat} {sl : Nat} {ch : Option Nat} {em : Bool} {bx : Nat → Option Nat} {sx : Nat → Nat} {cn : Nat} {nx : Nat → Option Nat} {ns pt : Nat → Nat} (q : Nat) (hq : q ≤ 8) (hf : ∀ k, k < q → ∃ b, bx k = some b ∧ b < 6) : zMi l yX5_costOf (zws yX5_costOf cX5_costOf 5 (some .int)) { frames := 0, cells := 0, slots := 0, locals := 0 } D zcl ((cA, .int) :: tys) zG [.ref (am 0), .ref (am 9), .int (nI q)] (wM am cA cd nb ro lo co ks nu si we ki hw sl ch em bx sx cn nx ns pt) (fun r w2 => r = nI (zct co bx q) ∧ w2 = (wM am cA cd nb ro lo co ks nu si we ki hw sl ch em bx sx cn nx ns pt)) 0 0 := by
  refine z_ofi (cc := cX5_costOf) (maxL := 5) (ret := (some .int)) (by decide) rfl (Nat.le_of_ble_eq_true rfl) ?_
  intro p e s m below meth c A F hr hlk hnm
  have loop : ∀ (n j : Nat), j ≤ q → q + 1 ≤ j + n → zW p l e (headSpec (zws yX5_costOf cX5_costOf 5 (some .int)) { frames := 0, cells := 0, slots := 0, locals := 0 }).room s m [.ref (am 0), .ref (am 9), .int (nI q)].toArray below meth c 5 D zcl A 0 0 (MQ below (va_Qi (fun r w2 => r = nI (zct co bx q) ∧ w2 = (wM am cA cd nb ro lo co ks nu si we ki hw sl ch em bx sx cn nx ns pt)) (zEnd D zcl A) A) [.ref (am 0), .ref (am 9), .int (nI q)].toArray s 0 0 A) (wM am cA cd nb ro lo co ks nu si we ki hw sl ch em bx sx cn nx ns pt) [(0, .ref (am 0)), (1, .ref (am 9)), (2, .int (nI q)), (3, .int (nI (zct co bx j))), (4, .int (nI j))] 5 [] := by
    intro n
    induction n with
    | zero => intro j h1 h2; omega
    | succ n ih =>
      intro j hj1 hj2
      refine z_iload F dX5_costOf_5 rfl ?_
      refine z_iload_n F dX5_costOf_7 rfl ?_
      refine z_icmp_ge (tgt := 29) F dX5_costOf_8 (by decide) (fun c8 => ?_) (fun c8 => ?_)
      · have ej := zge_end hj1 (by omega) c8
        refine z_iload_n F dX5_costOf_29 rfl ?_
        exact z_iret F hr rfl hlk dX5_costOf_30 ⟨by rw [ej], rfl⟩ (Nat.le_of_ble_eq_true rfl) (Nat.le_of_ble_eq_true rfl)
      · have hlt := zge_on (by omega) hj1 c8
        obtain ⟨b, hb, hb6⟩ := hf j hlt
        refine z_iload_n F dX5_costOf_11 rfl ?_
        refine z_aload_n F dX5_costOf_12 rfl ?_
        refine z_get (ci := 5) (C := RX5) (T := TX5) (N := 20) F 0 4 dX5_costOf_13 inX5 kfX5_16 rfl rfl rfl (by decide) rfl ?_
        refine z_aload_n F dX5_costOf_16 rfl ?_
        refine z_iload F dX5_costOf_17 rfl ?_
        refine z_iald F 9 0 dX5_costOf_19 rfl rfl rfl (by omega) (by decide) ?_
        refine z_topi (y := nI b) (zo_s1 hb) ?_
        refine z_ialdN F 3 0 dX5_costOf_20 rfl rfl rfl hb6 (by decide) ?_
        refine z_iadd F dX5_costOf_21 ?_
        refine z_topi (y := nI (zct co bx (j + 1))) (by show _ = nI (zct co bx j + co ((bx j).getD 0)); rw [hb]; exact nI_add _ _) ?_
        refine z_istore_n F dX5_costOf_22 (by decide) ?_
        refine z_iinc (v := nI (j + 1)) F dX5_costOf_23 rfl (nI_1 j) (by decide) ?_
        refine z_goto (tgt := 5) F dX5_costOf_26 (by decide) ?_
        exact z_lv rfl (ih (j + 1) (by omega) (by omega))
  refine z_iconst (v := 0) F dX5_costOf_0 (by decide) ?_
  refine z_istore_n F dX5_costOf_1 (by decide) ?_
  refine z_iconst (v := 0) F dX5_costOf_2 (by decide) ?_
  refine z_istore F dX5_costOf_3 (by decide) ?_
  exact z_lv rfl (loop (q + 1) 0 (by omega) (by omega))

set_option maxHeartbeats 4000000 in
set_option maxRecDepth 100000 in
theorem c_M_cost_n {l : Launch} {D : va_G} {tys : List (ClassId × FieldType)} {am : Nat → Nat} {cA : ClassId} {cd nb : Nat} {ro lo co ks : Nat → Nat} {nu : Nat} {si we ki hw : Nat → Nat} {sl : Nat} {ch : Option Nat} {em : Bool} {bx : Nat → Option Nat} {sx : Nat → Nat} {cn : Nat} {nx : Nat → Option Nat} {ns pt : Nat → Nat} (q : Nat) (hq : q ≤ 8) (hf : ∀ k, k < q → ∃ b, nx k = some b ∧ b < 6) : zMi l yX5_costOf (zws yX5_costOf cX5_costOf 5 (some .int)) { frames := 0, cells := 0, slots := 0, locals := 0 } D zcl ((cA, .int) :: tys) zG [.ref (am 0), .ref (am 11), .int (nI q)] (wM am cA cd nb ro lo co ks nu si we ki hw sl ch em bx sx cn nx ns pt) (fun r w2 => r = nI (zct co nx q) ∧ w2 = (wM am cA cd nb ro lo co ks nu si we ki hw sl ch em bx sx cn nx ns pt)) 0 0 := by
  refine z_ofi (cc := cX5_costOf) (maxL := 5) (ret := (some .int)) (by decide) rfl (Nat.le_of_ble_eq_true rfl) ?_
  intro p e s m below meth c A F hr hlk hnm
  have loop : ∀ (n j : Nat), j ≤ q → q + 1 ≤ j + n → zW p l e (headSpec (zws yX5_costOf cX5_costOf 5 (some .int)) { frames := 0, cells := 0, slots := 0, locals := 0 }).room s m [.ref (am 0), .ref (am 11), .int (nI q)].toArray below meth c 5 D zcl A 0 0 (MQ below (va_Qi (fun r w2 => r = nI (zct co nx q) ∧ w2 = (wM am cA cd nb ro lo co ks nu si we ki hw sl ch em bx sx cn nx ns pt)) (zEnd D zcl A) A) [.ref (am 0), .ref (am 11), .int (nI q)].toArray s 0 0 A) (wM am cA cd nb ro lo co ks nu si we ki hw sl ch em bx sx cn nx ns pt) [(0, .ref (am 0)), (1, .ref (am 11)), (2, .int (nI q)), (3, .int (nI (zct co nx j))), (4, .int (nI j))] 5 [] := by
    intro n
    induction n with
    | zero => intro j h1 h2; omega
    | succ n ih =>
      intro j hj1 hj2
      refine z_iload F dX5_costOf_5 rfl ?_
      refine z_iload_n F dX5_costOf_7 rfl ?_
      refine z_icmp_ge (tgt := 29) F dX5_costOf_8 (by decide) (fun c8 => ?_) (fun c8 => ?_)
      · have ej := zge_end hj1 (by omega) c8
        refine z_iload_n F dX5_costOf_29 rfl ?_
        exact z_iret F hr rfl hlk dX5_costOf_30 ⟨by rw [ej], rfl⟩ (Nat.le_of_ble_eq_true rfl) (Nat.le_of_ble_eq_true rfl)
      · have hlt := zge_on (by omega) hj1 c8
        obtain ⟨b, hb, hb6⟩ := hf j hlt
        refine z_iload_n F dX5_costOf_11 rfl ?_
        refine z_aload_n F dX5_costOf_12 rfl ?_
        refine z_get (ci := 5) (C := RX5) (T := TX5) (N := 20) F 0 4 dX5_costOf_13 inX5 kfX5_16 rfl rfl rfl (by decide) rfl ?_
        refine z_aload_n F dX5_costOf_16 rfl ?_
        refine z_iload F dX5_costOf_17 rfl ?_
        refine z_iald F 11 0 dX5_costOf_19 rfl rfl rfl (by omega) (by decide) ?_
        refine z_topi (y := nI b) (zo_s1 hb) ?_
        refine z_ialdN F 3 0 dX5_costOf_20 rfl rfl rfl hb6 (by decide) ?_
        refine z_iadd F dX5_costOf_21 ?_
        refine z_topi (y := nI (zct co nx (j + 1))) (by show _ = nI (zct co nx j + co ((nx j).getD 0)); rw [hb]; exact nI_add _ _) ?_
        refine z_istore_n F dX5_costOf_22 (by decide) ?_
        refine z_iinc (v := nI (j + 1)) F dX5_costOf_23 rfl (nI_1 j) (by decide) ?_
        refine z_goto (tgt := 5) F dX5_costOf_26 (by decide) ?_
        exact z_lv rfl (ih (j + 1) (by omega) (by omega))
  refine z_iconst (v := 0) F dX5_costOf_0 (by decide) ?_
  refine z_istore_n F dX5_costOf_1 (by decide) ?_
  refine z_iconst (v := 0) F dX5_costOf_2 (by decide) ?_
  refine z_istore F dX5_costOf_3 (by decide) ?_
  exact z_lv rfl (loop (q + 1) 0 (by omega) (by omega))

set_option maxHeartbeats 4000000 in
set_option maxRecDepth 100000 in
theorem c_M_isBetter {l : Launch} {D : va_G} {tys : List (ClassId × FieldType)} {am : Nat → Nat} {cA : ClassId} {cd nb : Nat} {ro lo co ks : Nat → Nat} {nu : Nat} {si we ki hw : Nat → Nat} {sl : Nat} {ch : Option Nat} {em : Bool} {bx : Nat → Option Nat} {sx : Nat → Nat} {cn : Nat} {nx : Nat → Option Nat} {ns pt : Nat → Nat} (hc : cn ≤ 8) (hco : ∀ x, co x ≤ 1000) (hnx : ∀ k, k < cn → ∃ b, nx k = some b ∧ b < 6) (hns : ∀ k, ns k < 256) (hsx : ∀ k, sx k < 256) (hch : ∀ q, ch = some q → q ≤ 8 ∧ ∀ k, k < q → ∃ b, bx k = some b ∧ b < 6) : zMi l yX5_isBetter (zws yX5_isBetter cX5_isBetter 4 (some .boolean)) { frames := 1, cells := 0, slots := 0, locals := 24 } D zcl ((cA, .int) :: tys) zG [.ref (am 0)] (wM am cA cd nb ro lo co ks nu si we ki hw sl ch em bx sx cn nx ns pt) (fun r w2 => r = zB (zmb co ch bx sx cn nx ns) ∧ w2 = (wM am cA cd nb ro lo co ks nu si we ki hw sl ch em bx sx cn nx ns pt)) 0 0 := by
  refine z_ofi (cc := cX5_isBetter) (maxL := 4) (ret := (some .boolean)) (by decide) rfl (Nat.le_of_ble_eq_true rfl) ?_
  intro p e s m below meth c A F hr hlk hnm
  cases ch with
  | none =>
    refine z_aload_n F dX5_isBetter_0 rfl ?_
    refine z_get (ci := 5) (C := RX5) (T := TX5) (N := 20) F 0 12 dX5_isBetter_1 inX5 kfX5_34 rfl rfl rfl (by decide) rfl ?_
    refine z_iconst (v := (-1)) F dX5_isBetter_4 (by decide) ?_
    refine z_icmp_ne (tgt := 10) F dX5_isBetter_5 (by decide) (fun c5 => ?_) (fun c5 => ?_)
    · exact absurd rfl c5
    · refine z_iconst (v := 1) F dX5_isBetter_8 (by decide) ?_
      exact z_iret F hr rfl hlk dX5_isBetter_9 ⟨rfl, rfl⟩ (Nat.le_of_ble_eq_true rfl) (Nat.le_of_ble_eq_true rfl)
  | some q =>
    obtain ⟨hq8, hbq⟩ := hch q rfl
    have hA : zct co nx cn ≤ 8000 := zct_le hco hc
    have hB : zct co bx q ≤ 8000 := zct_le hco hq8
    refine z_aload_n F dX5_isBetter_0 rfl ?_
    refine z_get (ci := 5) (C := RX5) (T := TX5) (N := 20) F 0 12 dX5_isBetter_1 inX5 kfX5_34 rfl rfl rfl (by decide) rfl ?_
    refine z_iconst (v := (-1)) F dX5_isBetter_4 (by decide) ?_
    refine z_icmp_ne (tgt := 10) F dX5_isBetter_5 (by decide) (fun c5 => ?_) (fun c5 => ?_)
    · refine z_aload_n F dX5_isBetter_10 rfl ?_
      refine z_aload_n F dX5_isBetter_11 rfl ?_
      refine z_get (ci := 5) (C := RX5) (T := TX5) (N := 20) F 0 17 dX5_isBetter_12 inX5 kfX5_44 rfl rfl rfl (by decide) rfl ?_
      refine z_aload_n F dX5_isBetter_15 rfl ?_
      refine z_get (ci := 5) (C := RX5) (T := TX5) (N := 20) F 0 16 dX5_isBetter_16 inX5 kfX5_99 rfl rfl rfl (by decide) rfl ?_
      refine z_callVi0 F (c_M_cost_n (ch := some q) cn hc hnx) 0 rfl rfl (zcwV F.2.2.2.2.1 kcX5_costOf kmX5_102 kiX5_costOf ksX5_costOf knX5 hdX5_costOf rfl rfl ⟨(Nat.le_of_ble_eq_true rfl), (Nat.le_of_ble_eq_true rfl)⟩) dX5_isBetter_19 rfl rfl (Nat.le_of_ble_eq_true rfl) ⟨(Nat.le_of_ble_eq_true rfl), (Nat.le_of_ble_eq_true rfl)⟩ ?_
      rintro r w2 ⟨rfl, rfl⟩
      refine z_istore_n F dX5_isBetter_22 (by decide) ?_
      refine z_aload_n F dX5_isBetter_23 rfl ?_
      refine z_aload_n F dX5_isBetter_24 rfl ?_
      refine z_get (ci := 5) (C := RX5) (T := TX5) (N := 20) F 0 14 dX5_isBetter_25 inX5 kfX5_38 rfl rfl rfl (by decide) rfl ?_
      refine z_aload_n F dX5_isBetter_28 rfl ?_
      refine z_get (ci := 5) (C := RX5) (T := TX5) (N := 20) F 0 12 dX5_isBetter_29 inX5 kfX5_34 rfl rfl rfl (by decide) rfl ?_
      refine z_callVi0 F (c_M_cost_b (ch := some q) q hq8 hbq) 0 rfl rfl (zcwV F.2.2.2.2.1 kcX5_costOf kmX5_102 kiX5_costOf ksX5_costOf knX5 hdX5_costOf rfl rfl ⟨(Nat.le_of_ble_eq_true rfl), (Nat.le_of_ble_eq_true rfl)⟩) dX5_isBetter_32 rfl rfl (Nat.le_of_ble_eq_true rfl) ⟨(Nat.le_of_ble_eq_true rfl), (Nat.le_of_ble_eq_true rfl)⟩ ?_
      rintro r w2 ⟨rfl, rfl⟩
      refine z_istore_n F dX5_isBetter_35 (by decide) ?_
      refine z_iload_n F dX5_isBetter_36 rfl ?_
      refine z_iload_n F dX5_isBetter_37 rfl ?_
      refine z_icmp_eq (tgt := 52) F dX5_isBetter_38 (by decide) (fun c38 => ?_) (fun c38 => ?_)
      · have n38 : zct co nx cn = zct co bx q := (nI_eq (by omega) (by omega)).mp c38
        refine z_aload_n F dX5_isBetter_52 rfl ?_
        refine z_get (ci := 5) (C := RX5) (T := TX5) (N := 20) F 0 16 dX5_isBetter_53 inX5 kfX5_99 rfl rfl rfl (by decide) rfl ?_
        refine z_aload_n F dX5_isBetter_56 rfl ?_
        refine z_get (ci := 5) (C := RX5) (T := TX5) (N := 20) F 0 12 dX5_isBetter_57 inX5 kfX5_34 rfl rfl rfl (by decide) rfl ?_
        refine z_icmp_eq (tgt := 80) F dX5_isBetter_60 (by decide) (fun c60 => ?_) (fun c60 => ?_)
        · have n60 : cn = q := (nI_eq (by omega) (by omega)).mp c60
          refine z_iconst (v := 0) F dX5_isBetter_80 (by decide) ?_
          refine z_istore_n F dX5_isBetter_81 (by decide) ?_
          have loop : ∀ (n j : Nat), j ≤ cn → cn + 1 ≤ j + n → zlx nx bx ns sx (cn - j) j = zlx nx bx ns sx cn 0 → zW p l e (headSpec (zws yX5_isBetter cX5_isBetter 4 (some .boolean)) { frames := 1, cells := 0, slots := 0, locals := 24 }).room s m [.ref (am 0)].toArray below meth c 4 D zcl A 0 0 (MQ below (va_Qi (fun r w2 => r = zB (zmb co (some q) bx sx cn nx ns) ∧ w2 = (wM am cA cd nb ro lo co ks nu si we ki hw sl (some q) em bx sx cn nx ns pt)) (zEnd D zcl A) A) [.ref (am 0)].toArray s 0 0 A) (wM am cA cd nb ro lo co ks nu si we ki hw sl (some q) em bx sx cn nx ns pt) [(0, .ref (am 0)), (1, .int (nI (zct co nx cn))), (2, .int (nI (zct co bx q))), (3, .int (nI j))] 82 [] := by
            intro n
            induction n with
            | zero => intro j h1 h2; omega
            | succ n ih =>
              intro j hj1 hj2 hg
              refine z_iload_n F dX5_isBetter_82 rfl ?_
              refine z_aload_n F dX5_isBetter_83 rfl ?_
              refine z_get (ci := 5) (C := RX5) (T := TX5) (N := 20) F 0 16 dX5_isBetter_84 inX5 kfX5_99 rfl rfl rfl (by decide) rfl ?_
              refine z_icmp_ge (tgt := 168) F dX5_isBetter_87 (by decide) (fun c87 => ?_) (fun c87 => ?_)
              · have ej := zge_end hj1 (by omega) c87
                refine z_iconst (v := 0) F dX5_isBetter_168 (by decide) ?_
                exact z_iret F hr rfl hlk dX5_isBetter_169 ⟨by rw [zmb_l n38 n60, ← hg, ej, Nat.sub_self]; rfl, rfl⟩ (Nat.le_of_ble_eq_true rfl) (Nat.le_of_ble_eq_true rfl)
              · have hlt := zge_on (by omega) hj1 c87
                obtain ⟨b1, hb1, hl1⟩ := hnx j hlt
                obtain ⟨b2, hb2, hl2⟩ := hbq j (by omega)
                refine z_aload_n F dX5_isBetter_90 rfl ?_
                refine z_get (ci := 5) (C := RX5) (T := TX5) (N := 20) F 0 17 dX5_isBetter_91 inX5 kfX5_44 rfl rfl rfl (by decide) rfl ?_
                refine z_iload_n F dX5_isBetter_94 rfl ?_
                refine z_iald F 11 0 dX5_isBetter_95 rfl rfl rfl (by omega) (by decide) ?_
                refine z_topi (y := nI b1) (zo_s1 hb1) ?_
                refine z_aload_n F dX5_isBetter_96 rfl ?_
                refine z_get (ci := 5) (C := RX5) (T := TX5) (N := 20) F 0 14 dX5_isBetter_97 inX5 kfX5_38 rfl rfl rfl (by decide) rfl ?_
                refine z_iload_n F dX5_isBetter_100 rfl ?_
                refine z_iald F 9 0 dX5_isBetter_101 rfl rfl rfl (by omega) (by decide) ?_
                refine z_topi (y := nI b2) (zo_s1 hb2) ?_
                refine z_icmp_eq (tgt := 126) F dX5_isBetter_102 (by decide) (fun c102 => ?_) (fun c102 => ?_)
                · have n102 : b1 = b2 := (nI_eq (by omega) (by omega)).mp c102
                  refine z_aload_n F dX5_isBetter_126 rfl ?_
                  refine z_get (ci := 5) (C := RX5) (T := TX5) (N := 20) F 0 18 dX5_isBetter_127 inX5 kfX5_47 rfl rfl rfl (by decide) rfl ?_
                  refine z_iload_n F dX5_isBetter_130 rfl ?_
                  refine z_ialdN F 12 0 dX5_isBetter_131 rfl rfl rfl (by omega) (by decide) ?_
                  refine z_aload_n F dX5_isBetter_132 rfl ?_
                  refine z_get (ci := 5) (C := RX5) (T := TX5) (N := 20) F 0 15 dX5_isBetter_133 inX5 kfX5_41 rfl rfl rfl (by decide) rfl ?_
                  refine z_iload_n F dX5_isBetter_136 rfl ?_
                  refine z_ialdN F 10 0 dX5_isBetter_137 rfl rfl rfl (by omega) (by decide) ?_
                  refine z_icmp_eq (tgt := 162) F dX5_isBetter_138 (by decide) (fun c138 => ?_) (fun c138 => ?_)
                  · have n138 : ns j = sx j := (nI_eq (by have := hns j; omega) (by have := hsx j; omega)).mp c138
                    refine z_iinc (v := nI (j + 1)) F dX5_isBetter_162 rfl (nI_1 j) (by decide) ?_
                    refine z_goto (tgt := 82) F dX5_isBetter_165 (by decide) ?_
                    exact z_lv rfl (ih (j + 1) (by omega) (by omega) (by rw [← hg, show cn - j = (cn - (j + 1)) + 1 by omega, zlx_k (by rw [hb1, hb2, n102]) n138]))
                  · have n138 : ¬ ns j = sx j := fun e => c138 (by rw [e])
                    refine z_aload_n F dX5_isBetter_141 rfl ?_
                    refine z_get (ci := 5) (C := RX5) (T := TX5) (N := 20) F 0 18 dX5_isBetter_142 inX5 kfX5_47 rfl rfl rfl (by decide) rfl ?_
                    refine z_iload_n F dX5_isBetter_145 rfl ?_
                    refine z_ialdN F 12 0 dX5_isBetter_146 rfl rfl rfl (by omega) (by decide) ?_
                    refine z_aload_n F dX5_isBetter_147 rfl ?_
                    refine z_get (ci := 5) (C := RX5) (T := TX5) (N := 20) F 0 15 dX5_isBetter_148 inX5 kfX5_41 rfl rfl rfl (by decide) rfl ?_
                    refine z_iload_n F dX5_isBetter_151 rfl ?_
                    refine z_ialdN F 10 0 dX5_isBetter_152 rfl rfl rfl (by omega) (by decide) ?_
                    refine z_icmp_ge (tgt := 160) F dX5_isBetter_153 (by decide) (fun c153 => ?_) (fun c153 => ?_)
                    · have n153 : sx j ≤ ns j := (nI_leI (by have := hsx j; omega) (by have := hns j; omega)).mp c153
                      refine z_iconst (v := 0) F dX5_isBetter_160 (by decide) ?_
                      exact z_iret F hr rfl hlk dX5_isBetter_161 ⟨by rw [zmb_l n38 n60, ← hg, show cn - j = (cn - (j + 1)) + 1 by omega, zlx_s (by rw [hb1, hb2, n102]) n138]; exact zhas_f (by omega), rfl⟩ (Nat.le_of_ble_eq_true rfl) (Nat.le_of_ble_eq_true rfl)
                    · have n153 : ¬ sx j ≤ ns j := fun e => c153 ((nI_leI (by have := hsx j; omega) (by have := hns j; omega)).mpr e)
                      refine z_iconst (v := 1) F dX5_isBetter_156 (by decide) ?_
                      refine z_goto (tgt := 161) F dX5_isBetter_157 (by decide) ?_
                      exact z_iret F hr rfl hlk dX5_isBetter_161 ⟨by rw [zmb_l n38 n60, ← hg, show cn - j = (cn - (j + 1)) + 1 by omega, zlx_s (by rw [hb1, hb2, n102]) n138]; exact zhas_t (by omega), rfl⟩ (Nat.le_of_ble_eq_true rfl) (Nat.le_of_ble_eq_true rfl)
                · have n102 : ¬ b1 = b2 := fun e => c102 (by rw [e])
                  refine z_aload_n F dX5_isBetter_105 rfl ?_
                  refine z_get (ci := 5) (C := RX5) (T := TX5) (N := 20) F 0 17 dX5_isBetter_106 inX5 kfX5_44 rfl rfl rfl (by decide) rfl ?_
                  refine z_iload_n F dX5_isBetter_109 rfl ?_
                  refine z_iald F 11 0 dX5_isBetter_110 rfl rfl rfl (by omega) (by decide) ?_
                  refine z_topi (y := nI b1) (zo_s1 hb1) ?_
                  refine z_aload_n F dX5_isBetter_111 rfl ?_
                  refine z_get (ci := 5) (C := RX5) (T := TX5) (N := 20) F 0 14 dX5_isBetter_112 inX5 kfX5_38 rfl rfl rfl (by decide) rfl ?_
                  refine z_iload_n F dX5_isBetter_115 rfl ?_
                  refine z_iald F 9 0 dX5_isBetter_116 rfl rfl rfl (by omega) (by decide) ?_
                  refine z_topi (y := nI b2) (zo_s1 hb2) ?_
                  refine z_icmp_ge (tgt := 124) F dX5_isBetter_117 (by decide) (fun c117 => ?_) (fun c117 => ?_)
                  · have n117 : b2 ≤ b1 := (nI_leI (by omega) (by omega)).mp c117
                    refine z_iconst (v := 0) F dX5_isBetter_124 (by decide) ?_
                    exact z_iret F hr rfl hlk dX5_isBetter_125 ⟨by rw [zmb_l n38 n60, ← hg, show cn - j = (cn - (j + 1)) + 1 by omega, zlx_b (by rw [hb1, hb2]; exact n102), hb1, hb2]; exact zhas_f (by show ¬ b1 < b2; omega), rfl⟩ (Nat.le_of_ble_eq_true rfl) (Nat.le_of_ble_eq_true rfl)
                  · have n117 : ¬ b2 ≤ b1 := fun e => c117 ((nI_leI (by omega) (by omega)).mpr e)
                    refine z_iconst (v := 1) F dX5_isBetter_120 (by decide) ?_
                    refine z_goto (tgt := 125) F dX5_isBetter_121 (by decide) ?_
                    exact z_iret F hr rfl hlk dX5_isBetter_125 ⟨by rw [zmb_l n38 n60, ← hg, show cn - j = (cn - (j + 1)) + 1 by omega, zlx_b (by rw [hb1, hb2]; exact n102), hb1, hb2]; exact zhas_t (by show b1 < b2; omega), rfl⟩ (Nat.le_of_ble_eq_true rfl) (Nat.le_of_ble_eq_true rfl)
          exact z_lv rfl (loop (cn + 1) 0 (by omega) (by omega) rfl)
        · have n60 : ¬ cn = q := fun e => c60 (by rw [e]; rfl)
          refine z_aload_n F dX5_isBetter_63 rfl ?_
          refine z_get (ci := 5) (C := RX5) (T := TX5) (N := 20) F 0 16 dX5_isBetter_64 inX5 kfX5_99 rfl rfl rfl (by decide) rfl ?_
          refine z_aload_n F dX5_isBetter_67 rfl ?_
          refine z_get (ci := 5) (C := RX5) (T := TX5) (N := 20) F 0 12 dX5_isBetter_68 inX5 kfX5_34 rfl rfl rfl (by decide) rfl ?_
          refine z_icmp_ge (tgt := 78) F dX5_isBetter_71 (by decide) (fun c71 => ?_) (fun c71 => ?_)
          · have n71 : q ≤ cn := (nI_leI (by omega) (by omega)).mp c71
            refine z_iconst (v := 0) F dX5_isBetter_78 (by decide) ?_
            exact z_iret F hr rfl hlk dX5_isBetter_79 ⟨by rw [zmb_n n38 n60]; exact zhas_f (by omega), rfl⟩ (Nat.le_of_ble_eq_true rfl) (Nat.le_of_ble_eq_true rfl)
          · have n71 : ¬ q ≤ cn := fun e => c71 ((nI_leI (by omega) (by omega)).mpr e)
            refine z_iconst (v := 1) F dX5_isBetter_74 (by decide) ?_
            refine z_goto (tgt := 79) F dX5_isBetter_75 (by decide) ?_
            exact z_iret F hr rfl hlk dX5_isBetter_79 ⟨by rw [zmb_n n38 n60]; exact zhas_t (by omega), rfl⟩ (Nat.le_of_ble_eq_true rfl) (Nat.le_of_ble_eq_true rfl)
      · have n38 : ¬ zct co nx cn = zct co bx q := fun e => c38 (by rw [e])
        refine z_iload_n F dX5_isBetter_41 rfl ?_
        refine z_iload_n F dX5_isBetter_42 rfl ?_
        refine z_icmp_ge (tgt := 50) F dX5_isBetter_43 (by decide) (fun c43 => ?_) (fun c43 => ?_)
        · have n43 : zct co bx q ≤ zct co nx cn := (nI_leI (by omega) (by omega)).mp c43
          refine z_iconst (v := 0) F dX5_isBetter_50 (by decide) ?_
          exact z_iret F hr rfl hlk dX5_isBetter_51 ⟨by rw [zmb_c n38]; exact zhas_f (by omega), rfl⟩ (Nat.le_of_ble_eq_true rfl) (Nat.le_of_ble_eq_true rfl)
        · have n43 : ¬ zct co bx q ≤ zct co nx cn := fun e => c43 ((nI_leI (by omega) (by omega)).mpr e)
          refine z_iconst (v := 1) F dX5_isBetter_46 (by decide) ?_
          refine z_goto (tgt := 51) F dX5_isBetter_47 (by decide) ?_
          exact z_iret F hr rfl hlk dX5_isBetter_51 ⟨by rw [zmb_c n38]; exact zhas_t (by omega), rfl⟩ (Nat.le_of_ble_eq_true rfl) (Nat.le_of_ble_eq_true rfl)
    · exact absurd c5 (zo_ne (by omega))
