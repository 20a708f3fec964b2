set_option maxHeartbeats 4000000 in
set_option maxRecDepth 100000 in
/-- whether a set has a number -/
theorem c_holds {l : Launch} {D : va_G} {cA : ClassId} {tys : List (ClassId × FieldType)} {w : va_W} (a j : Nat) (ha : a < 2 ^ 31) (hj : j < 32) : zMi l yX4_holds (zws yX4_holds cX4_holds 2 (some .boolean)) { frames := 0, cells := 0, slots := 0, locals := 0 } D zcl ((cA, .int) :: tys) zG [.int (nI a), .int (nI j)] w (fun r w2 => r = zB (a.testBit j) ∧ w2 = w) 0 0 := by
  refine z_ofi (cc := cX4_holds) (maxL := 2) (ret := (some .boolean)) (by decide) rfl (Nat.le_of_ble_eq_true rfl) ?_
  intro p e s m below meth c A F hr hlk hnm
  refine z_iload_n F dX4_holds_0 rfl ?_
  refine z_iload_n F dX4_holds_1 rfl ?_
  refine z_ishr F dX4_holds_2 ?_
  refine z_iconst (v := 1) F dX4_holds_3 (by decide) ?_
  refine z_iand F dX4_holds_4 ?_
  refine z_if_eq (tgt := 12) F dX4_holds_5 (by decide) (fun c5 => ?_) (fun c5 => ?_)
  · refine z_iconst (v := 0) F dX4_holds_12 (by decide) ?_
    exact z_iret F hr rfl hlk dX4_holds_13 ⟨by rw [zb_bit ha hj] at c5; rw [c5]; rfl, rfl⟩ (Nat.le_of_ble_eq_true rfl) (Nat.le_of_ble_eq_true rfl)
  · refine z_iconst (v := 1) F dX4_holds_8 (by decide) ?_
    refine z_goto (tgt := 13) F dX4_holds_9 (by decide) ?_
    exact z_iret F hr rfl hlk dX4_holds_13 ⟨by rw [zb_bit ha hj] at c5; rw [Bool.not_eq_false _ |>.mp c5]; rfl, rfl⟩ (Nat.le_of_ble_eq_true rfl) (Nat.le_of_ble_eq_true rfl)

theorem zlt_nge {x y : Int32} (h : x < y) (k : y ≤ x) : False := by
  rw [Int32.lt_iff_toInt_lt] at h; rw [Int32.le_iff_toInt_le] at k; omega
theorem znlt_ge {x y : Int32} (h : ¬ x < y) : y ≤ x := by
  rw [Int32.lt_iff_toInt_lt] at h; rw [Int32.le_iff_toInt_le]; omega
theorem znle_lt {x y : Int32} (h : ¬ x ≤ y) : y < x := by
  rw [Int32.le_iff_toInt_le] at h; rw [Int32.lt_iff_toInt_lt]; omega
theorem zhas_t {P : Prop} {q : Decidable P} (h : P) : (1 : Int32) = zB (@decide P q) := by rw [decide_eq_true h]; rfl
theorem zhas_f {P : Prop} {q : Decidable P} (h : ¬ P) : (0 : Int32) = zB (@decide P q) := by rw [decide_eq_false h]; rfl

set_option maxHeartbeats 4000000 in
set_option maxRecDepth 100000 in
/-- Catalogue.has -/
theorem c_C_has {l : Launch} {D : va_G} {tys : List (ClassId × FieldType)} {hc c1 c2 c3 c4 : Nat} {cA : ClassId} {ro lo co ks : Nat → Nat} {nb sl : Nat} (b : Int32) : zMi l yX0_has (zws yX0_has cX0_has 2 (some .boolean)) { frames := 0, cells := 0, slots := 0, locals := 0 } D zcl ((cA, .int) :: tys) zG [.ref hc, .int b] (wC hc c1 c2 c3 c4 cA ro lo co ks nb sl) (fun r w2 => r = zB (decide (0 ≤ b ∧ b < nI nb)) ∧ w2 = (wC hc c1 c2 c3 c4 cA ro lo co ks nb sl)) 0 0 := by
  refine z_ofi (cc := cX0_has) (maxL := 2) (ret := (some .boolean)) (by decide) rfl (Nat.le_of_ble_eq_true rfl) ?_
  intro p e s m below meth c A F hr hlk hnm
  refine z_iload_n F dX0_has_0 rfl ?_
  refine z_if_lt (tgt := 16) F dX0_has_1 (by decide) (fun c1 => ?_) (fun c1 => ?_)
  · refine z_iconst (v := 0) F dX0_has_16 (by decide) ?_
    exact z_iret F hr rfl hlk dX0_has_17 ⟨zhas_f (fun q => zlt_nge c1 q.1), rfl⟩ (Nat.le_of_ble_eq_true rfl) (Nat.le_of_ble_eq_true rfl)
  · refine z_iload_n F dX0_has_4 rfl ?_
    refine z_aload_n F dX0_has_5 rfl ?_
    refine z_get (ci := 0) (C := RX0) (T := TX0) (N := 6) F 0 4 dX0_has_6 inX0 kfX0_24 rfl rfl rfl (by decide) rfl ?_
    refine z_icmp_ge (tgt := 16) F dX0_has_9 (by decide) (fun c9 => ?_) (fun c9 => ?_)
    · refine z_iconst (v := 0) F dX0_has_16 (by decide) ?_
      exact z_iret F hr rfl hlk dX0_has_17 ⟨zhas_f (fun q => zlt_nge q.2 c9), rfl⟩ (Nat.le_of_ble_eq_true rfl) (Nat.le_of_ble_eq_true rfl)
    · refine z_iconst (v := 1) F dX0_has_12 (by decide) ?_
      refine z_goto (tgt := 17) F dX0_has_13 (by decide) ?_
      exact z_iret F hr rfl hlk dX0_has_17 ⟨zhas_t ⟨znlt_ge c1, znle_lt c9⟩, rfl⟩ (Nat.le_of_ble_eq_true rfl) (Nat.le_of_ble_eq_true rfl)

set_option maxHeartbeats 4000000 in
set_option maxRecDepth 100000 in
/-- Catalogue.isFull -/
theorem c_C_isFull {l : Launch} {D : va_G} {tys : List (ClassId × FieldType)} {hc c1 c2 c3 c4 : Nat} {cA : ClassId} {ro lo co ks : Nat → Nat} {nb sl : Nat} (hn : nb ≤ 6) : zMi l yX0_isFull (zws yX0_isFull cX0_isFull 1 (some .boolean)) { frames := 0, cells := 0, slots := 0, locals := 0 } D zcl ((cA, .int) :: tys) zG [.ref hc] (wC hc c1 c2 c3 c4 cA ro lo co ks nb sl) (fun r w2 => r = zB (decide (6 ≤ nb)) ∧ w2 = (wC hc c1 c2 c3 c4 cA ro lo co ks nb sl)) 0 0 := by
  refine z_ofi (cc := cX0_isFull) (maxL := 1) (ret := (some .boolean)) (by decide) rfl (Nat.le_of_ble_eq_true rfl) ?_
  intro p e s m below meth c A F hr hlk hnm
  refine z_aload_n F dX0_isFull_0 rfl ?_
  refine z_get (ci := 0) (C := RX0) (T := TX0) (N := 6) F 0 4 dX0_isFull_1 inX0 kfX0_24 rfl rfl rfl (by decide) rfl ?_
  refine z_bipush (v := 6) F dX0_isFull_4 (by decide) ?_
  refine z_icmp_lt (tgt := 13) F dX0_isFull_6 (by decide) (fun c6 => ?_) (fun c6 => ?_)
  · refine z_iconst (v := 0) F dX0_isFull_13 (by decide) ?_
    exact z_iret F hr rfl hlk dX0_isFull_14 ⟨zhas_f (fun q => by rw [show (6 : Int32) = nI 6 from rfl, nI_ltI (by omega) (by omega)] at c6; omega), rfl⟩ (Nat.le_of_ble_eq_true rfl) (Nat.le_of_ble_eq_true rfl)
  · refine z_iconst (v := 1) F dX0_isFull_9 (by decide) ?_
    refine z_goto (tgt := 14) F dX0_isFull_10 (by decide) ?_
    exact z_iret F hr rfl hlk dX0_isFull_14 ⟨zhas_t (by rw [show (6 : Int32) = nI 6 from rfl, nI_ltI (by omega) (by omega)] at c6; omega), rfl⟩ (Nat.le_of_ble_eq_true rfl) (Nat.le_of_ble_eq_true rfl)

set_option maxHeartbeats 4000000 in
set_option maxRecDepth 100000 in
/-- Catalogue.keepSlack -/
theorem c_C_keepSlack {l : Launch} {D : va_G} {tys : List (ClassId × FieldType)} {hc c1 c2 c3 c4 : Nat} {cA : ClassId} {ro lo co ks : Nat → Nat} {nb sl : Nat} (v : Nat) : zMv l yX0_keepSlack (zws yX0_keepSlack cX0_keepSlack 2 none) { frames := 0, cells := 0, slots := 0, locals := 0 } D zcl ((cA, .int) :: tys) zG [.ref hc, .int (nI v)] (wC hc c1 c2 c3 c4 cA ro lo co ks nb sl) (fun w2 => w2 = wC hc c1 c2 c3 c4 cA ro lo co ks nb v) 0 0 := by
  refine z_ofv (cc := cX0_keepSlack) (maxL := 2) (ret := none) (by decide) rfl (Nat.le_of_ble_eq_true rfl) ?_
  intro p e s m below meth c A F hr hlk hnm
  refine z_aload_n F dX0_keepSlack_0 rfl ?_
  refine z_iload_n F dX0_keepSlack_1 rfl ?_
  refine z_put (ci := 0) (C := RX0) (T := TX0) (N := 6) (ty := .int) F 0 5 dX0_keepSlack_2 inX0 tyX0 tyX0_ok nmX0 kfX0_32 rfl rfl rfl (by decide) rfl (by decide +kernel) rfl rfl (Nat.le_of_ble_eq_true rfl) ?_
  exact z_vret F hr hlk dX0_keepSlack_5 rfl (Nat.le_of_ble_eq_true rfl) (Nat.le_of_ble_eq_true rfl)

set_option maxHeartbeats 4000000 in
set_option maxRecDepth 100000 in
/-- Catalogue.roomOf -/
theorem c_C_roomOf {l : Launch} {D : va_G} {tys : List (ClassId × FieldType)} {hc c1 c2 c3 c4 : Nat} {cA : ClassId} {ro lo co ks : Nat → Nat} {nb sl : Nat} (hn : nb ≤ 6) (k : Nat) (hk : k < nb) : zMi l yX0_roomOf (zws yX0_roomOf cX0_roomOf 2 (some .int)) { frames := 1, cells := 0, slots := 0, locals := 21 } D zcl ((cA, .int) :: tys) zG [.ref hc, .int (nI k)] (wC hc c1 c2 c3 c4 cA ro lo co ks nb sl) (fun r w2 => r = nI (ro k) ∧ w2 = (wC hc c1 c2 c3 c4 cA ro lo co ks nb sl)) 0 0 := by
  refine z_ofi (cc := cX0_roomOf) (maxL := 2) (ret := (some .int)) (by decide) rfl (Nat.le_of_ble_eq_true rfl) ?_
  intro p e s m below meth c A F hr hlk hnm
  refine z_aload_n F dX0_roomOf_0 rfl ?_
  refine z_iload_n F dX0_roomOf_1 rfl ?_
  refine z_callVi0 F (c_C_has (nI k)) 0 rfl rfl (zcwV F.2.2.2.2.1 kcX0_has kmX0_35 kiX0_has ksX0_has knX0 hdX0_has rfl rfl ⟨(Nat.le_of_ble_eq_true rfl), (Nat.le_of_ble_eq_true rfl)⟩) dX0_roomOf_2 rfl rfl (Nat.le_of_ble_eq_true rfl) ⟨(Nat.le_of_ble_eq_true rfl), (Nat.le_of_ble_eq_true rfl)⟩ ?_
  rintro r w2 ⟨rfl, rfl⟩
  refine z_if_eq (tgt := 17) F dX0_roomOf_5 (by decide) (fun c5 => ?_) (fun c5 => ?_)
  · exact absurd (zB_0.mp c5) (by rw [decide_eq_true ((zhas (by omega)).mpr ⟨k, hk, rfl⟩)]; decide)
  · refine z_aload_n F dX0_roomOf_8 rfl ?_
    refine z_get (ci := 0) (C := RX0) (T := TX0) (N := 6) F 0 0 dX0_roomOf_9 inX0 kfX0_9 rfl rfl rfl (by decide) rfl ?_
    refine z_iload_n F dX0_roomOf_12 rfl ?_
    refine z_ialdN F 1 0 dX0_roomOf_13 rfl rfl rfl (Nat.lt_of_lt_of_le hk hn) (by decide) ?_
    refine z_goto (tgt := 18) F dX0_roomOf_14 (by decide) ?_
    exact z_iret F hr rfl hlk dX0_roomOf_18 ⟨rfl, rfl⟩ (Nat.le_of_ble_eq_true rfl) (Nat.le_of_ble_eq_true rfl)

set_option maxHeartbeats 4000000 in
set_option maxRecDepth 100000 in
/-- Catalogue.costOf -/
theorem c_C_costOf {l : Launch} {D : va_G} {tys : List (ClassId × FieldType)} {hc c1 c2 c3 c4 : Nat} {cA : ClassId} {ro lo co ks : Nat → Nat} {nb sl : Nat} (hn : nb ≤ 6) (k : Nat) (hk : k < nb) : zMi l yX0_costOf (zws yX0_costOf cX0_costOf 2 (some .int)) { frames := 1, cells := 0, slots := 0, locals := 21 } D zcl ((cA, .int) :: tys) zG [.ref hc, .int (nI k)] (wC hc c1 c2 c3 c4 cA ro lo co ks nb sl) (fun r w2 => r = nI (co k) ∧ w2 = (wC hc c1 c2 c3 c4 cA ro lo co ks nb sl)) 0 0 := by
  refine z_ofi (cc := cX0_costOf) (maxL := 2) (ret := (some .int)) (by decide) rfl (Nat.le_of_ble_eq_true rfl) ?_
  intro p e s m below meth c A F hr hlk hnm
  refine z_aload_n F dX0_costOf_0 rfl ?_
  refine z_iload_n F dX0_costOf_1 rfl ?_
  refine z_callVi0 F (c_C_has (nI k)) 0 rfl rfl (zcwV F.2.2.2.2.1 kcX0_has kmX0_35 kiX0_has ksX0_has knX0 hdX0_has rfl rfl ⟨(Nat.le_of_ble_eq_true rfl), (Nat.le_of_ble_eq_true rfl)⟩) dX0_costOf_2 rfl rfl (Nat.le_of_ble_eq_true rfl) ⟨(Nat.le_of_ble_eq_true rfl), (Nat.le_of_ble_eq_true rfl)⟩ ?_
  rintro r w2 ⟨rfl, rfl⟩
  refine z_if_eq (tgt := 17) F dX0_costOf_5 (by decide) (fun c5 => ?_) (fun c5 => ?_)
  · exact absurd (zB_0.mp c5) (by rw [decide_eq_true ((zhas (by omega)).mpr ⟨k, hk, rfl⟩)]; decide)
  · refine z_aload_n F dX0_costOf_8 rfl ?_
    refine z_get (ci := 0) (C := RX0) (T := TX0) (N := 6) F 0 2 dX0_costOf_9 inX0 kfX0_18 rfl rfl rfl (by decide) rfl ?_
    refine z_iload_n F dX0_costOf_12 rfl ?_
    refine z_ialdN F 3 0 dX0_costOf_13 rfl rfl rfl (Nat.lt_of_lt_of_le hk hn) (by decide) ?_
    refine z_goto (tgt := 18) F dX0_costOf_14 (by decide) ?_
    exact z_iret F hr rfl hlk dX0_costOf_18 ⟨rfl, rfl⟩ (Nat.le_of_ble_eq_true rfl) (Nat.le_of_ble_eq_true rfl)

set_option maxHeartbeats 4000000 in
set_option maxRecDepth 100000 in
/-- Catalogue.thatTake: the boxes that take a set of kinds -/
theorem c_C_thatTake {l : Launch} {D : va_G} {tys : List (ClassId × FieldType)} {hc c1 c2 c3 c4 : Nat} {cA : ClassId} {ro lo co ks : Nat → Nat} {nb sl : Nat} (hn : nb ≤ 6) (k : Nat) (hk : k < 2 ^ 31) : zMi l yX0_thatTake (zws yX0_thatTake cX0_thatTake 4 (some .int)) { frames := 0, cells := 0, slots := 0, locals := 0 } D zcl ((cA, .int) :: tys) zG [.ref hc, .int (nI k)] (wC hc c1 c2 c3 c4 cA ro lo co ks nb sl) (fun r w2 => r = nI (zset (fun x => decide (zd k (ks x) = 0)) nb) ∧ w2 = (wC hc c1 c2 c3 c4 cA ro lo co ks nb sl)) 0 0 := by
  refine z_ofi (cc := cX0_thatTake) (maxL := 4) (ret := (some .int)) (by decide) rfl (Nat.le_of_ble_eq_true rfl) ?_
  intro p e s m below meth c A F hr hlk hnm
  have loop : ∀ (n j : Nat), j ≤ nb → nb + 1 ≤ j + n → zW p l e (headSpec (zws yX0_thatTake cX0_thatTake 4 (some .int)) { frames := 0, cells := 0, slots := 0, locals := 0 }).room s m [.ref hc, .int (nI k)].toArray below meth c 4 D zcl A 0 0 (MQ below (va_Qi (fun r w2 => r = nI (zset (fun x => decide (zd k (ks x) = 0)) nb) ∧ w2 = (wC hc c1 c2 c3 c4 cA ro lo co ks nb sl)) (zEnd D zcl A) A) [.ref hc, .int (nI k)].toArray s 0 0 A) (wC hc c1 c2 c3 c4 cA ro lo co ks nb sl) [(0, .ref hc), (1, .int (nI k)), (2, .int (nI (zset (fun x => decide (zd k (ks x) = 0)) j))), (3, .int (nI j))] 4 [] := by
    intro n
    induction n with
    | zero => intro j h1 h2; omega
    | succ n ih =>
      intro j hj1 hj2
      refine z_iload_n F dX0_thatTake_4 rfl ?_
      refine z_aload_n F dX0_thatTake_5 rfl ?_
      refine z_get (ci := 0) (C := RX0) (T := TX0) (N := 6) F 0 4 dX0_thatTake_6 inX0 kfX0_24 rfl rfl rfl (by decide) rfl ?_
      refine z_icmp_ge (tgt := 37) F dX0_thatTake_9 (by decide) (fun c9 => ?_) (fun c9 => ?_)
      · have ej := zge_end hj1 (by omega) c9
        refine z_iload_n F dX0_thatTake_37 rfl ?_
        exact z_iret F hr rfl hlk dX0_thatTake_38 ⟨by rw [ej], rfl⟩ (Nat.le_of_ble_eq_true rfl) (Nat.le_of_ble_eq_true rfl)
      · have hlt := zge_on (by omega) hj1 c9
        refine z_iload_n F dX0_thatTake_12 rfl ?_
        refine z_aload_n F dX0_thatTake_13 rfl ?_
        refine z_get (ci := 0) (C := RX0) (T := TX0) (N := 6) F 0 3 dX0_thatTake_14 inX0 kfX0_21 rfl rfl rfl (by decide) rfl ?_
        refine z_iload_n F dX0_thatTake_17 rfl ?_
        refine z_ialdN F 4 0 dX0_thatTake_18 rfl rfl rfl (Nat.lt_of_lt_of_le hlt hn) (by decide) ?_
        refine z_iconst (v := (-1)) F dX0_thatTake_19 (by decide) ?_
        refine z_ixor F dX0_thatTake_20 ?_
        refine z_iand F dX0_thatTake_21 ?_
        refine z_topi (y := nI (zd k (ks j))) (zb_nand _ _) ?_
        refine z_if_ne (tgt := 31) F dX0_thatTake_22 (by decide) (fun c22 => ?_) (fun c22 => ?_)
        · refine z_iinc (v := nI (j + 1)) F dX0_thatTake_31 rfl (nI_1 j) (by decide) ?_
          refine z_goto (tgt := 4) F dX0_thatTake_34 (by decide) ?_
          have h9 := ih (j + 1) (by omega) (by omega)
          rw [zset_f (decide_eq_false (fun q => c22 ((zb_eq0 (Nat.lt_of_le_of_lt (zd_le _ _) hk)).mpr q)))] at h9
          exact z_lv rfl h9
        · refine z_iload_n F dX0_thatTake_25 rfl ?_
          refine z_iconst (v := 1) F dX0_thatTake_26 (by decide) ?_
          refine z_iload_n F dX0_thatTake_27 rfl ?_
          refine z_ishl F dX0_thatTake_28 ?_
          refine z_topi (y := nI (2 ^ j)) (zb_shl1 j (by omega)) ?_
          refine z_ior F dX0_thatTake_29 ?_
          refine z_topi (y := nI (zset (fun x => decide (zd k (ks x) = 0)) j ||| 2 ^ j)) (zb_or _ _) ?_
          refine z_istore_n F dX0_thatTake_30 (by decide) ?_
          refine z_iinc (v := nI (j + 1)) F dX0_thatTake_31 rfl (nI_1 j) (by decide) ?_
          refine z_goto (tgt := 4) F dX0_thatTake_34 (by decide) ?_
          have h9 := ih (j + 1) (by omega) (by omega)
          rw [zset_t (decide_eq_true ((zb_eq0 (Nat.lt_of_le_of_lt (zd_le _ _) hk)).mp c22))] at h9
          exact z_lv rfl h9
  refine z_iconst (v := 0) F dX0_thatTake_0 (by decide) ?_
  refine z_istore_n F dX0_thatTake_1 (by decide) ?_
  refine z_iconst (v := 0) F dX0_thatTake_2 (by decide) ?_
  refine z_istore_n F dX0_thatTake_3 (by decide) ?_
  exact z_lv rfl (loop (nb + 1) 0 (by omega) (by omega))

set_option maxHeartbeats 4000000 in
set_option maxRecDepth 100000 in
/-- Catalogue.withAtLeast -/
theorem c_C_wal_r {l : Launch} {D : va_G} {tys : List (ClassId × FieldType)} {hc c1 c2 c3 c4 : Nat} {cA : ClassId} {ro lo co ks : Nat → Nat} {nb sl : Nat} (hn : nb ≤ 6) (hb : ∀ j, ro j < 2 ^ 31) (v : Nat) (hv : v < 2 ^ 31) : zMi l yX0_withAtLeast (zws yX0_withAtLeast cX0_withAtLeast 5 (some .int)) { frames := 0, cells := 0, slots := 0, locals := 0 } D zcl ((cA, .int) :: tys) zG [.ref hc, .ref c1, .int (nI v)] (wC hc c1 c2 c3 c4 cA ro lo co ks nb sl) (fun r w2 => r = nI (zset (fun x => decide (v ≤ ro x)) nb) ∧ w2 = (wC hc c1 c2 c3 c4 cA ro lo co ks nb sl)) 0 0 := by
  refine z_ofi (cc := cX0_withAtLeast) (maxL := 5) (ret := (some .int)) (by decide) rfl (Nat.le_of_ble_eq_true rfl) ?_
  intro p e s m below meth c A F hr hlk hnm
  have loop : ∀ (n j : Nat), j ≤ nb → nb + 1 ≤ j + n → zW p l e (headSpec (zws yX0_withAtLeast cX0_withAtLeast 5 (some .int)) { frames := 0, cells := 0, slots := 0, locals := 0 }).room s m [.ref hc, .ref c1, .int (nI v)].toArray below meth c 5 D zcl A 0 0 (MQ below (va_Qi (fun r w2 => r = nI (zset (fun x => decide (v ≤ ro x)) nb) ∧ w2 = (wC hc c1 c2 c3 c4 cA ro lo co ks nb sl)) (zEnd D zcl A) A) [.ref hc, .ref c1, .int (nI v)].toArray s 0 0 A) (wC hc c1 c2 c3 c4 cA ro lo co ks nb sl) [(0, .ref hc), (1, .ref c1), (2, .int (nI v)), (3, .int (nI (zset (fun x => decide (v ≤ ro x)) j))), (4, .int (nI j))] 5 [] := by
    intro n
    induction n with
    | zero => intro j h1 h2; omega
    | succ n ih =>
      intro j hj1 hj2
      refine z_iload F dX0_withAtLeast_5 rfl ?_
      refine z_aload_n F dX0_withAtLeast_7 rfl ?_
      refine z_get (ci := 0) (C := RX0) (T := TX0) (N := 6) F 0 4 dX0_withAtLeast_8 inX0 kfX0_24 rfl rfl rfl (by decide) rfl ?_
      refine z_icmp_ge (tgt := 35) F dX0_withAtLeast_11 (by decide) (fun c11 => ?_) (fun c11 => ?_)
      · have ej := zge_end hj1 (by omega) c11
        refine z_iload_n F dX0_withAtLeast_35 rfl ?_
        exact z_iret F hr rfl hlk dX0_withAtLeast_36 ⟨by rw [ej], rfl⟩ (Nat.le_of_ble_eq_true rfl) (Nat.le_of_ble_eq_true rfl)
      · have hlt := zge_on (by omega) hj1 c11
        refine z_aload_n F dX0_withAtLeast_14 rfl ?_
        refine z_iload F dX0_withAtLeast_15 rfl ?_
        refine z_ialdN F 1 0 dX0_withAtLeast_17 rfl rfl rfl (Nat.lt_of_lt_of_le hlt hn) (by decide) ?_
        refine z_iload_n F dX0_withAtLeast_18 rfl ?_
        refine z_icmp_lt (tgt := 29) F dX0_withAtLeast_19 (by decide) (fun c19 => ?_) (fun c19 => ?_)
        · refine z_iinc (v := nI (j + 1)) F dX0_withAtLeast_29 rfl (nI_1 j) (by decide) ?_
          refine z_goto (tgt := 5) F dX0_withAtLeast_32 (by decide) ?_
          have h9 := ih (j + 1) (by omega) (by omega)
          rw [zset_f (decide_eq_false (by rw [nI_ltI (hb j) hv] at c19; omega))] at h9
          exact z_lv rfl h9
        · refine z_iload_n F dX0_withAtLeast_22 rfl ?_
          refine z_iconst (v := 1) F dX0_withAtLeast_23 (by decide) ?_
          refine z_iload F dX0_withAtLeast_24 rfl ?_
          refine z_ishl F dX0_withAtLeast_26 ?_
          refine z_topi (y := nI (2 ^ j)) (zb_shl1 j (by omega)) ?_
          refine z_ior F dX0_withAtLeast_27 ?_
          refine z_topi (y := nI (zset (fun x => decide (v ≤ ro x)) j ||| 2 ^ j)) (zb_or _ _) ?_
          refine z_istore_n F dX0_withAtLeast_28 (by decide) ?_
          refine z_iinc (v := nI (j + 1)) F dX0_withAtLeast_29 rfl (nI_1 j) (by decide) ?_
          refine z_goto (tgt := 5) F dX0_withAtLeast_32 (by decide) ?_
          have h9 := ih (j + 1) (by omega) (by omega)
          rw [zset_t (decide_eq_true (by rw [nI_ltI (hb j) hv] at c19; omega))] at h9
          exact z_lv rfl h9
  refine z_iconst (v := 0) F dX0_withAtLeast_0 (by decide) ?_
  refine z_istore_n F dX0_withAtLeast_1 (by decide) ?_
  refine z_iconst (v := 0) F dX0_withAtLeast_2 (by decide) ?_
  refine z_istore F dX0_withAtLeast_3 (by decide) ?_
  exact z_lv rfl (loop (nb + 1) 0 (by omega) (by omega))

set_option maxHeartbeats 4000000 in
set_option maxRecDepth 100000 in
/-- Catalogue.withAtLeast -/
theorem c_C_wal_l {l : Launch} {D : va_G} {tys : List (ClassId × FieldType)} {hc c1 c2 c3 c4 : Nat} {cA : ClassId} {ro lo co ks : Nat → Nat} {nb sl : Nat} (hn : nb ≤ 6) (hb : ∀ j, lo j < 2 ^ 31) (v : Nat) (hv : v < 2 ^ 31) : zMi l yX0_withAtLeast (zws yX0_withAtLeast cX0_withAtLeast 5 (some .int)) { frames := 0, cells := 0, slots := 0, locals := 0 } D zcl ((cA, .int) :: tys) zG [.ref hc, .ref c2, .int (nI v)] (wC hc c1 c2 c3 c4 cA ro lo co ks nb sl) (fun r w2 => r = nI (zset (fun x => decide (v ≤ lo x)) nb) ∧ w2 = (wC hc c1 c2 c3 c4 cA ro lo co ks nb sl)) 0 0 := by
  refine z_ofi (cc := cX0_withAtLeast) (maxL := 5) (ret := (some .int)) (by decide) rfl (Nat.le_of_ble_eq_true rfl) ?_
  intro p e s m below meth c A F hr hlk hnm
  have loop : ∀ (n j : Nat), j ≤ nb → nb + 1 ≤ j + n → zW p l e (headSpec (zws yX0_withAtLeast cX0_withAtLeast 5 (some .int)) { frames := 0, cells := 0, slots := 0, locals := 0 }).room s m [.ref hc, .ref c2, .int (nI v)].toArray below meth c 5 D zcl A 0 0 (MQ below (va_Qi (fun r w2 => r = nI (zset (fun x => decide (v ≤ lo x)) nb) ∧ w2 = (wC hc c1 c2 c3 c4 cA ro lo co ks nb sl)) (zEnd D zcl A) A) [.ref hc, .ref c2, .int (nI v)].toArray s 0 0 A) (wC hc c1 c2 c3 c4 cA ro lo co ks nb sl) [(0, .ref hc), (1, .ref c2), (2, .int (nI v)), (3, .int (nI (zset (fun x => decide (v ≤ lo x)) j))), (4, .int (nI j))] 5 [] := by
    intro n
    induction n with
    | zero => intro j h1 h2; omega
    | succ n ih =>
      intro j hj1 hj2
      refine z_iload F dX0_withAtLeast_5 rfl ?_
      refine z_aload_n F dX0_withAtLeast_7 rfl ?_
      refine z_get (ci := 0) (C := RX0) (T := TX0) (N := 6) F 0 4 dX0_withAtLeast_8 inX0 kfX0_24 rfl rfl rfl (by decide) rfl ?_
      refine z_icmp_ge (tgt := 35) F dX0_withAtLeast_11 (by decide) (fun c11 => ?_) (fun c11 => ?_)
      · have ej := zge_end hj1 (by omega) c11
        refine z_iload_n F dX0_withAtLeast_35 rfl ?_
        exact z_iret F hr rfl hlk dX0_withAtLeast_36 ⟨by rw [ej], rfl⟩ (Nat.le_of_ble_eq_true rfl) (Nat.le_of_ble_eq_true rfl)
      · have hlt := zge_on (by omega) hj1 c11
        refine z_aload_n F dX0_withAtLeast_14 rfl ?_
        refine z_iload F dX0_withAtLeast_15 rfl ?_
        refine z_ialdN F 2 0 dX0_withAtLeast_17 rfl rfl rfl (Nat.lt_of_lt_of_le hlt hn) (by decide) ?_
        refine z_iload_n F dX0_withAtLeast_18 rfl ?_
        refine z_icmp_lt (tgt := 29) F dX0_withAtLeast_19 (by decide) (fun c19 => ?_) (fun c19 => ?_)
        · refine z_iinc (v := nI (j + 1)) F dX0_withAtLeast_29 rfl (nI_1 j) (by decide) ?_
          refine z_goto (tgt := 5) F dX0_withAtLeast_32 (by decide) ?_
          have h9 := ih (j + 1) (by omega) (by omega)
          rw [zset_f (decide_eq_false (by rw [nI_ltI (hb j) hv] at c19; omega))] at h9
          exact z_lv rfl h9
        · refine z_iload_n F dX0_withAtLeast_22 rfl ?_
          refine z_iconst (v := 1) F dX0_withAtLeast_23 (by decide) ?_
          refine z_iload F dX0_withAtLeast_24 rfl ?_
          refine z_ishl F dX0_withAtLeast_26 ?_
          refine z_topi (y := nI (2 ^ j)) (zb_shl1 j (by omega)) ?_
          refine z_ior F dX0_withAtLeast_27 ?_
          refine z_topi (y := nI (zset (fun x => decide (v ≤ lo x)) j ||| 2 ^ j)) (zb_or _ _) ?_
          refine z_istore_n F dX0_withAtLeast_28 (by decide) ?_
          refine z_iinc (v := nI (j + 1)) F dX0_withAtLeast_29 rfl (nI_1 j) (by decide) ?_
          refine z_goto (tgt := 5) F dX0_withAtLeast_32 (by decide) ?_
          have h9 := ih (j + 1) (by omega) (by omega)
          rw [zset_t (decide_eq_true (by rw [nI_ltI (hb j) hv] at c19; omega))] at h9
          exact z_lv rfl h9
  refine z_iconst (v := 0) F dX0_withAtLeast_0 (by decide) ?_
  refine z_istore_n F dX0_withAtLeast_1 (by decide) ?_
  refine z_iconst (v := 0) F dX0_withAtLeast_2 (by decide) ?_
  refine z_istore F dX0_withAtLeast_3 (by decide) ?_
  exact z_lv rfl (loop (nb + 1) 0 (by omega) (by omega))

set_option maxHeartbeats 4000000 in
set_option maxRecDepth 100000 in
/-- Catalogue.withRoomFor -/
theorem c_C_withRoomFor {l : Launch} {D : va_G} {tys : List (ClassId × FieldType)} {hc c1 c2 c3 c4 : Nat} {cA : ClassId} {ro lo co ks : Nat → Nat} {nb sl : Nat} (hn : nb ≤ 6) (hb : ∀ j, ro j < 2 ^ 31) (a : Nat) (hv : a + sl < 2 ^ 31) : zMi l yX0_withRoomFor (zws yX0_withRoomFor cX0_withRoomFor 2 (some .int)) { frames := 1, cells := 0, slots := 0, locals := 24 } D zcl ((cA, .int) :: tys) zG [.ref hc, .int (nI a)] (wC hc c1 c2 c3 c4 cA ro lo co ks nb sl) (fun r w2 => r = nI (zset (fun x => decide (a + sl ≤ ro x)) nb) ∧ w2 = (wC hc c1 c2 c3 c4 cA ro lo co ks nb sl)) 0 0 := by
  refine z_ofi (cc := cX0_withRoomFor) (maxL := 2) (ret := (some .int)) (by decide) rfl (Nat.le_of_ble_eq_true rfl) ?_
  intro p e s m below meth c A F hr hlk hnm
  refine z_aload_n F dX0_withRoomFor_0 rfl ?_
  refine z_aload_n F dX0_withRoomFor_1 rfl ?_
  refine z_get (ci := 0) (C := RX0) (T := TX0) (N := 6) F 0 0 dX0_withRoomFor_2 inX0 kfX0_9 rfl rfl rfl (by decide) rfl ?_
  refine z_iload_n F dX0_withRoomFor_5 rfl ?_
  refine z_aload_n F dX0_withRoomFor_6 rfl ?_
  refine z_get (ci := 0) (C := RX0) (T := TX0) (N := 6) F 0 5 dX0_withRoomFor_7 inX0 kfX0_32 rfl rfl rfl (by decide) rfl ?_
  refine z_iadd F dX0_withRoomFor_10 ?_
  refine z_topi (y := nI (a + sl)) (nI_add _ _) ?_
  refine z_callVi0 F (c_C_wal_r hn hb (a + sl) hv) 0 rfl rfl (zcwV F.2.2.2.2.1 kcX0_withAtLeast kmX0_39 kiX0_withAtLeast ksX0_withAtLeast knX0 hdX0_withAtLeast rfl rfl ⟨(Nat.le_of_ble_eq_true rfl), (Nat.le_of_ble_eq_true rfl)⟩) dX0_withRoomFor_11 rfl rfl (Nat.le_of_ble_eq_true rfl) ⟨(Nat.le_of_ble_eq_true rfl), (Nat.le_of_ble_eq_true rfl)⟩ ?_
  rintro r w2 ⟨rfl, rfl⟩
  exact z_iret F hr rfl hlk dX0_withRoomFor_14 ⟨rfl, rfl⟩ (Nat.le_of_ble_eq_true rfl) (Nat.le_of_ble_eq_true rfl)

set_option maxHeartbeats 4000000 in
set_option maxRecDepth 100000 in
/-- Catalogue.thatBear -/
theorem c_C_thatBear {l : Launch} {D : va_G} {tys : List (ClassId × FieldType)} {hc c1 c2 c3 c4 : Nat} {cA : ClassId} {ro lo co ks : Nat → Nat} {nb sl : Nat} (hn : nb ≤ 6) (hb : ∀ j, lo j < 2 ^ 31) (a : Nat) (hv : a < 2 ^ 31) : zMi l yX0_thatBear (zws yX0_thatBear cX0_thatBear 2 (some .int)) { frames := 1, cells := 0, slots := 0, locals := 24 } D zcl ((cA, .int) :: tys) zG [.ref hc, .int (nI a)] (wC hc c1 c2 c3 c4 cA ro lo co ks nb sl) (fun r w2 => r = nI (zset (fun x => decide (a ≤ lo x)) nb) ∧ w2 = (wC hc c1 c2 c3 c4 cA ro lo co ks nb sl)) 0 0 := by
  refine z_ofi (cc := cX0_thatBear) (maxL := 2) (ret := (some .int)) (by decide) rfl (Nat.le_of_ble_eq_true rfl) ?_
  intro p e s m below meth c A F hr hlk hnm
  refine z_aload_n F dX0_thatBear_0 rfl ?_
  refine z_aload_n F dX0_thatBear_1 rfl ?_
  refine z_get (ci := 0) (C := RX0) (T := TX0) (N := 6) F 0 1 dX0_thatBear_2 inX0 kfX0_15 rfl rfl rfl (by decide) rfl ?_
  refine z_iload_n F dX0_thatBear_5 rfl ?_
  refine z_callVi0 F (c_C_wal_l hn hb a hv) 0 rfl rfl (zcwV F.2.2.2.2.1 kcX0_withAtLeast kmX0_39 kiX0_withAtLeast ksX0_withAtLeast knX0 hdX0_withAtLeast rfl rfl ⟨(Nat.le_of_ble_eq_true rfl), (Nat.le_of_ble_eq_true rfl)⟩) dX0_thatBear_6 rfl rfl (Nat.le_of_ble_eq_true rfl) ⟨(Nat.le_of_ble_eq_true rfl), (Nat.le_of_ble_eq_true rfl)⟩ ?_
  rintro r w2 ⟨rfl, rfl⟩
  exact z_iret F hr rfl hlk dX0_thatBear_9 ⟨rfl, rfl⟩ (Nat.le_of_ble_eq_true rfl) (Nat.le_of_ble_eq_true rfl)

set_option maxHeartbeats 4000000 in
set_option maxRecDepth 100000 in
/-- Catalogue.cheapestOf -/
theorem c_C_cheapestOf {l : Launch} {D : va_G} {tys : List (ClassId × FieldType)} {hc c1 c2 c3 c4 : Nat} {cA : ClassId} {ro lo co ks : Nat → Nat} {nb sl : Nat} (hn : nb ≤ 6) (hb : ∀ j, co j < 2 ^ 31) (a : Nat) (ha : a < 2 ^ 31) : zMi l yX0_cheapestOf (zws yX0_cheapestOf cX0_cheapestOf 4 (some .int)) { frames := 2, cells := 0, slots := 0, locals := 42 } D zcl ((cA, .int) :: tys) zG [.ref hc, .int (nI a)] (wC hc c1 c2 c3 c4 cA ro lo co ks nb sl) (fun r w2 => r = zo (zche (fun x => a.testBit x) co nb) ∧ w2 = (wC hc c1 c2 c3 c4 cA ro lo co ks nb sl)) 0 0 := by
  refine z_ofi (cc := cX0_cheapestOf) (maxL := 4) (ret := (some .int)) (by decide) rfl (Nat.le_of_ble_eq_true rfl) ?_
  intro p e s m below meth c A F hr hlk hnm
  have loop : ∀ (n j : Nat), j ≤ nb → nb + 1 ≤ j + n → zW p l e (headSpec (zws yX0_cheapestOf cX0_cheapestOf 4 (some .int)) { frames := 2, cells := 0, slots := 0, locals := 42 }).room s m [.ref hc, .int (nI a)].toArray below meth c 4 D zcl A 0 0 (MQ below (va_Qi (fun r w2 => r = zo (zche (fun x => a.testBit x) co nb) ∧ w2 = (wC hc c1 c2 c3 c4 cA ro lo co ks nb sl)) (zEnd D zcl A) A) [.ref hc, .int (nI a)].toArray s 0 0 A) (wC hc c1 c2 c3 c4 cA ro lo co ks nb sl) [(0, .ref hc), (1, .int (nI a)), (2, .int (zo (zche (fun x => a.testBit x) co j))), (3, .int (nI j))] 4 [] := by
    intro n
    induction n with
    | zero => intro j h1 h2; omega
    | succ n ih =>
      intro j hj1 hj2
      rcases hz : zche (fun x => a.testBit x) co j with _ | b
      · refine z_iload_n F dX0_cheapestOf_4 rfl ?_
        refine z_aload_n F dX0_cheapestOf_5 rfl ?_
        refine z_get (ci := 0) (C := RX0) (T := TX0) (N := 6) F 0 4 dX0_cheapestOf_6 inX0 kfX0_24 rfl rfl rfl (by decide) rfl ?_
        refine z_icmp_ge (tgt := 47) F dX0_cheapestOf_9 (by decide) (fun c9 => ?_) (fun c9 => ?_)
        · have ej := zge_end hj1 (by omega) c9
          refine z_iload_n F dX0_cheapestOf_47 rfl ?_
          exact z_iret F hr rfl hlk dX0_cheapestOf_48 ⟨by rw [← ej, hz], rfl⟩ (Nat.le_of_ble_eq_true rfl) (Nat.le_of_ble_eq_true rfl)
        · have hlt := zge_on (by omega) hj1 c9
          refine z_iload_n F dX0_cheapestOf_12 rfl ?_
          refine z_iload_n F dX0_cheapestOf_13 rfl ?_
          refine z_callSNi0 F (c_holds a j ha (by omega)) (zcnS F.2.2.2.2.1 kcX4_holds (nlX0_43 F.2.2.2.2.2.2.2.1) ktX4_holds knX4 hdX4_holds rfl rfl ⟨(Nat.le_of_ble_eq_true rfl), (Nat.le_of_ble_eq_true rfl)⟩) dX0_cheapestOf_14 rfl rfl (Nat.le_of_ble_eq_true rfl) ⟨(Nat.le_of_ble_eq_true rfl), (Nat.le_of_ble_eq_true rfl)⟩ ?_
          rintro r w2 ⟨rfl, rfl⟩
          refine z_if_eq (tgt := 41) F dX0_cheapestOf_17 (by decide) (fun c17 => ?_) (fun c17 => ?_)
          · refine z_iinc (v := nI (j + 1)) F dX0_cheapestOf_41 rfl (nI_1 j) (by decide) ?_
            refine z_goto (tgt := 4) F dX0_cheapestOf_44 (by decide) ?_
            have h9 := ih (j + 1) (by omega) (by omega)
            rw [zche_f (by rw [zB_0] at c17; exact c17)] at h9
            rw [hz] at h9
            exact z_lv rfl h9
          · refine z_iload_n F dX0_cheapestOf_20 rfl ?_
            refine z_iconst (v := (-1)) F dX0_cheapestOf_21 (by decide) ?_
            refine z_icmp_eq (tgt := 39) F dX0_cheapestOf_22 (by decide) (fun c22 => ?_) (fun c22 => ?_)
            · refine z_iload_n F dX0_cheapestOf_39 rfl ?_
              refine z_istore_n F dX0_cheapestOf_40 (by decide) ?_
              refine z_iinc (v := nI (j + 1)) F dX0_cheapestOf_41 rfl (nI_1 j) (by decide) ?_
              refine z_goto (tgt := 4) F dX0_cheapestOf_44 (by decide) ?_
              have h9 := ih (j + 1) (by omega) (by omega)
              rw [zche_n (by rw [zB_1] at c17; exact c17) hz] at h9
              exact z_lv rfl h9
            · exact absurd rfl c22
      · have hbl := (zche_lt hz).1
        refine z_iload_n F dX0_cheapestOf_4 rfl ?_
        refine z_aload_n F dX0_cheapestOf_5 rfl ?_
        refine z_get (ci := 0) (C := RX0) (T := TX0) (N := 6) F 0 4 dX0_cheapestOf_6 inX0 kfX0_24 rfl rfl rfl (by decide) rfl ?_
        refine z_icmp_ge (tgt := 47) F dX0_cheapestOf_9 (by decide) (fun c9 => ?_) (fun c9 => ?_)
        · have ej := zge_end hj1 (by omega) c9
          refine z_iload_n F dX0_cheapestOf_47 rfl ?_
          exact z_iret F hr rfl hlk dX0_cheapestOf_48 ⟨by rw [← ej, hz], rfl⟩ (Nat.le_of_ble_eq_true rfl) (Nat.le_of_ble_eq_true rfl)
        · have hlt := zge_on (by omega) hj1 c9
          refine z_iload_n F dX0_cheapestOf_12 rfl ?_
          refine z_iload_n F dX0_cheapestOf_13 rfl ?_
          refine z_callSNi0 F (c_holds a j ha (by omega)) (zcnS F.2.2.2.2.1 kcX4_holds (nlX0_43 F.2.2.2.2.2.2.2.1) ktX4_holds knX4 hdX4_holds rfl rfl ⟨(Nat.le_of_ble_eq_true rfl), (Nat.le_of_ble_eq_true rfl)⟩) dX0_cheapestOf_14 rfl rfl (Nat.le_of_ble_eq_true rfl) ⟨(Nat.le_of_ble_eq_true rfl), (Nat.le_of_ble_eq_true rfl)⟩ ?_
          rintro r w2 ⟨rfl, rfl⟩
          refine z_if_eq (tgt := 41) F dX0_cheapestOf_17 (by decide) (fun c17 => ?_) (fun c17 => ?_)
          · refine z_iinc (v := nI (j + 1)) F dX0_cheapestOf_41 rfl (nI_1 j) (by decide) ?_
            refine z_goto (tgt := 4) F dX0_cheapestOf_44 (by decide) ?_
            have h9 := ih (j + 1) (by omega) (by omega)
            rw [zche_f (by rw [zB_0] at c17; exact c17)] at h9
            rw [hz] at h9
            exact z_lv rfl h9
          · refine z_iload_n F dX0_cheapestOf_20 rfl ?_
            refine z_iconst (v := (-1)) F dX0_cheapestOf_21 (by decide) ?_
            refine z_icmp_eq (tgt := 39) F dX0_cheapestOf_22 (by decide) (fun c22 => ?_) (fun c22 => ?_)
            · exact absurd c22 (zo_ne (by omega))
            · refine z_aload_n F dX0_cheapestOf_25 rfl ?_
              refine z_get (ci := 0) (C := RX0) (T := TX0) (N := 6) F 0 2 dX0_cheapestOf_26 inX0 kfX0_18 rfl rfl rfl (by decide) rfl ?_
              refine z_iload_n F dX0_cheapestOf_29 rfl ?_
              refine z_ialdN F 3 0 dX0_cheapestOf_30 rfl rfl rfl (Nat.lt_of_lt_of_le hlt hn) (by decide) ?_
              refine z_aload_n F dX0_cheapestOf_31 rfl ?_
              refine z_iload_n F dX0_cheapestOf_32 rfl ?_
              refine z_callVi0 F (c_C_costOf hn b (Nat.lt_trans (zche_lt hz).1 hlt)) 0 rfl rfl (zcwV F.2.2.2.2.1 kcX0_costOf kmX0_47 kiX0_costOf ksX0_costOf knX0 hdX0_costOf rfl rfl ⟨(Nat.le_of_ble_eq_true rfl), (Nat.le_of_ble_eq_true rfl)⟩) dX0_cheapestOf_33 rfl rfl (Nat.le_of_ble_eq_true rfl) ⟨(Nat.le_of_ble_eq_true rfl), (Nat.le_of_ble_eq_true rfl)⟩ ?_
              rintro r w2 ⟨rfl, rfl⟩
              refine z_icmp_ge (tgt := 41) F dX0_cheapestOf_36 (by decide) (fun c36 => ?_) (fun c36 => ?_)
              · refine z_iinc (v := nI (j + 1)) F dX0_cheapestOf_41 rfl (nI_1 j) (by decide) ?_
                refine z_goto (tgt := 4) F dX0_cheapestOf_44 (by decide) ?_
                have h9 := ih (j + 1) (by omega) (by omega)
                rw [zche_k (by rw [zB_1] at c17; exact c17) hz (fun q => zlt_nge ((nI_ltI (hb _) (hb _)).mpr q) c36)] at h9
                exact z_lv rfl h9
              · refine z_iload_n F dX0_cheapestOf_39 rfl ?_
                refine z_istore_n F dX0_cheapestOf_40 (by decide) ?_
                refine z_iinc (v := nI (j + 1)) F dX0_cheapestOf_41 rfl (nI_1 j) (by decide) ?_
                refine z_goto (tgt := 4) F dX0_cheapestOf_44 (by decide) ?_
                have h9 := ih (j + 1) (by omega) (by omega)
                rw [zche_l (by rw [zB_1] at c17; exact c17) hz ((nI_ltI (hb _) (hb _)).mp (znle_lt c36))] at h9
                exact z_lv rfl h9
  refine z_iconst (v := (-1)) F dX0_cheapestOf_0 (by decide) ?_
  refine z_istore_n F dX0_cheapestOf_1 (by decide) ?_
  refine z_iconst (v := 0) F dX0_cheapestOf_2 (by decide) ?_
  refine z_istore_n F dX0_cheapestOf_3 (by decide) ?_
  exact z_lv rfl (loop (nb + 1) 0 (by omega) (by omega))

set_option maxHeartbeats 4000000 in
set_option maxRecDepth 100000 in
/-- Catalogue.add -/
theorem c_C_add {l : Launch} {D : va_G} {tys : List (ClassId × FieldType)} {hc c1 c2 c3 c4 : Nat} {cA : ClassId} {ro lo co ks : Nat → Nat} {nb sl : Nat} (hn : nb < 6) (r l2 c k : Nat) : zMi l yX0_add (zws yX0_add cX0_add 6 (some .int)) { frames := 1, cells := 0, slots := 0, locals := 20 } D zcl ((cA, .int) :: tys) zG [.ref hc, .int (nI r), .int (nI l2), .int (nI c), .int (nI k)] (wC hc c1 c2 c3 c4 cA ro lo co ks nb sl) (fun r1 w2 => r1 = nI nb ∧ w2 = wC hc c1 c2 c3 c4 cA (zu ro nb r) (zu lo nb l2) (zu co nb c) (zu ks nb k) (nb + 1) sl) 0 0 := by
  refine z_ofi (cc := cX0_add) (maxL := 6) (ret := (some .int)) (by decide) rfl (Nat.le_of_ble_eq_true rfl) ?_
  intro p e s m below meth c A F hr hlk hnm
  refine z_aload_n F dX0_add_0 rfl ?_
  refine z_callVi0 F (c_C_isFull (Nat.le_of_lt hn)) 0 rfl rfl (zcwV F.2.2.2.2.1 kcX0_isFull kmX0_28 kiX0_isFull ksX0_isFull knX0 hdX0_isFull rfl rfl ⟨(Nat.le_of_ble_eq_true rfl), (Nat.le_of_ble_eq_true rfl)⟩) dX0_add_1 rfl rfl (Nat.le_of_ble_eq_true rfl) ⟨(Nat.le_of_ble_eq_true rfl), (Nat.le_of_ble_eq_true rfl)⟩ ?_
  rintro r w2 ⟨rfl, rfl⟩
  refine z_if_eq (tgt := 9) F dX0_add_4 (by decide) (fun c4 => ?_) (fun c4 => ?_)
  · refine z_aload_n F dX0_add_9 rfl ?_
    refine z_get (ci := 0) (C := RX0) (T := TX0) (N := 6) F 0 4 dX0_add_10 inX0 kfX0_24 rfl rfl rfl (by decide) rfl ?_
    refine z_istore F dX0_add_13 (by decide) ?_
    refine z_aload_n F dX0_add_15 rfl ?_
    refine z_get (ci := 0) (C := RX0) (T := TX0) (N := 6) F 0 0 dX0_add_16 inX0 kfX0_9 rfl rfl rfl (by decide) rfl ?_
    refine z_iload F dX0_add_19 rfl ?_
    refine z_iload_n F dX0_add_21 rfl ?_
    refine z_iastN F 1 0 _ dX0_add_22 rfl rfl rfl hn (by decide) rfl ?_
    refine z_aload_n F dX0_add_23 rfl ?_
    refine z_get (ci := 0) (C := RX0) (T := TX0) (N := 6) F 0 1 dX0_add_24 inX0 kfX0_15 rfl rfl rfl (by decide) rfl ?_
    refine z_iload F dX0_add_27 rfl ?_
    refine z_iload_n F dX0_add_29 rfl ?_
    refine z_iastN F 2 0 _ dX0_add_30 rfl rfl rfl hn (by decide) rfl ?_
    refine z_aload_n F dX0_add_31 rfl ?_
    refine z_get (ci := 0) (C := RX0) (T := TX0) (N := 6) F 0 2 dX0_add_32 inX0 kfX0_18 rfl rfl rfl (by decide) rfl ?_
    refine z_iload F dX0_add_35 rfl ?_
    refine z_iload_n F dX0_add_37 rfl ?_
    refine z_iastN F 3 0 _ dX0_add_38 rfl rfl rfl hn (by decide) rfl ?_
    refine z_aload_n F dX0_add_39 rfl ?_
    refine z_get (ci := 0) (C := RX0) (T := TX0) (N := 6) F 0 3 dX0_add_40 inX0 kfX0_21 rfl rfl rfl (by decide) rfl ?_
    refine z_iload F dX0_add_43 rfl ?_
    refine z_iload F dX0_add_45 rfl ?_
    refine z_iastN F 4 0 _ dX0_add_47 rfl rfl rfl hn (by decide) rfl ?_
    refine z_aload_n F dX0_add_48 rfl ?_
    refine z_dup F dX0_add_49 rfl ?_
    refine z_get (ci := 0) (C := RX0) (T := TX0) (N := 6) F 0 4 dX0_add_50 inX0 kfX0_24 rfl rfl rfl (by decide) rfl ?_
    refine z_iconst (v := 1) F dX0_add_53 (by decide) ?_
    refine z_iadd F dX0_add_54 ?_
    refine z_topi (y := nI (nb + 1)) (nI_1 nb) ?_
    refine z_put (ci := 0) (C := RX0) (T := TX0) (N := 6) (ty := .int) F 0 4 dX0_add_55 inX0 tyX0 tyX0_ok nmX0 kfX0_24 rfl rfl rfl (by decide) rfl (by decide +kernel) rfl rfl (Nat.le_of_ble_eq_true rfl) ?_
    refine z_iload F dX0_add_58 rfl ?_
    exact z_iret F hr rfl hlk dX0_add_60 ⟨rfl, rfl⟩ (Nat.le_of_ble_eq_true rfl) (Nat.le_of_ble_eq_true rfl)
  · exact absurd (zB_1.mp c4) (by rw [decide_eq_false (by omega)]; decide)
