set_option maxHeartbeats 4000000 in
set_option maxRecDepth 100000 in
/-- ExactSearch.clear -/
theorem c_E_clear {l : Launch} {D : va_G} {tys : List (ClassId × FieldType)} {he e1 e2 e3 e4 e5 : Nat} {cA : ClassId} {ob : Nat → Option Nat} {oc : Nat → Nat} {lc : Nat → Option Nat} {fb fs : Nat → Nat} : zMv l yX2_clear (zws yX2_clear cX2_clear 2 none) { frames := 0, cells := 0, slots := 0, locals := 0 } D zcl ((cA, .int) :: tys) zG [.ref he] (wE he e1 e2 e3 e4 e5 cA ob oc lc fb fs) (fun w2 => w2 = (wE he e1 e2 e3 e4 e5 cA (zclr ob 64) oc (zuo (zclr lc 64) 0 (some 0)) (zu fb 0 0) fs)) 0 0 := by
  refine z_ofv (cc := cX2_clear) (maxL := 2) (ret := none) (by decide) rfl (Nat.le_of_ble_eq_true rfl) ?_
  intro p e s m below meth c A F hr hlk hnm
  have loop : ∀ (n j : Nat), j ≤ 64 → 64 + 1 ≤ j + n → zW p l e (headSpec (zws yX2_clear cX2_clear 2 none) { frames := 0, cells := 0, slots := 0, locals := 0 }).room s m [.ref he].toArray below meth c 2 D zcl A 0 0 (MQ below (va_Qv (fun w2 => w2 = (wE he e1 e2 e3 e4 e5 cA (zclr ob 64) oc (zuo (zclr lc 64) 0 (some 0)) (zu fb 0 0) fs)) (zEnd D zcl A) A) [.ref he].toArray s 0 0 A) (wE he e1 e2 e3 e4 e5 cA (zclr ob j) oc (zclr lc j) fb fs) [(0, .ref he), (1, .int (nI j))] 2 [] := by
    intro n
    induction n with
    | zero => intro j h1 h2; omega
    | succ n ih =>
      intro j hj1 hj2
      refine z_iload_n F dX2_clear_2 rfl ?_
      refine z_bipush (v := 64) F dX2_clear_3 (by decide) ?_
      refine z_icmp_ge (tgt := 28) F dX2_clear_5 (by decide) (fun c5 => ?_) (fun c5 => ?_)
      · have ej : j = 64 := zge_end hj1 (by omega) c5
        subst ej
        refine z_aload_n F dX2_clear_28 rfl ?_
        refine z_get (ci := 2) (C := RX2) (T := TX2) (N := 5) F 0 2 dX2_clear_29 inX2 kfX2_18 rfl rfl rfl (by decide) rfl ?_
        refine z_iconst (v := 0) F dX2_clear_32 (by decide) ?_
        refine z_iconst (v := 0) F dX2_clear_33 (by decide) ?_
        refine z_iastO F 3 0 (some 0) dX2_clear_34 rfl rfl rfl (by decide) (by decide) rfl ?_
        refine z_aload_n F dX2_clear_35 rfl ?_
        refine z_get (ci := 2) (C := RX2) (T := TX2) (N := 5) F 0 3 dX2_clear_36 inX2 kfX2_21 rfl rfl rfl (by decide) rfl ?_
        refine z_iconst (v := 0) F dX2_clear_39 (by decide) ?_
        refine z_iconst (v := 0) F dX2_clear_40 (by decide) ?_
        refine z_iastN F 4 0 0 dX2_clear_41 rfl rfl rfl (by decide) (by decide) rfl ?_
        exact z_vret F hr hlk dX2_clear_42 rfl (Nat.le_of_ble_eq_true rfl) (Nat.le_of_ble_eq_true rfl)
      · have hlt : j < 64 := zge_on (by omega) hj1 c5
        refine z_aload_n F dX2_clear_8 rfl ?_
        refine z_get (ci := 2) (C := RX2) (T := TX2) (N := 5) F 0 0 dX2_clear_9 inX2 kfX2_9 rfl rfl rfl (by decide) rfl ?_
        refine z_iload_n F dX2_clear_12 rfl ?_
        refine z_iconst (v := (-1)) F dX2_clear_13 (by decide) ?_
        refine z_iastO F 1 0 none dX2_clear_14 rfl rfl rfl hlt (by decide) rfl ?_
        refine z_aload_n F dX2_clear_15 rfl ?_
        refine z_get (ci := 2) (C := RX2) (T := TX2) (N := 5) F 0 2 dX2_clear_16 inX2 kfX2_18 rfl rfl rfl (by decide) rfl ?_
        refine z_iload_n F dX2_clear_19 rfl ?_
        refine z_iconst (v := (-1)) F dX2_clear_20 (by decide) ?_
        refine z_iastO F 3 0 none dX2_clear_21 rfl rfl rfl hlt (by decide) rfl ?_
        refine z_iinc (v := nI (j + 1)) F dX2_clear_22 rfl (nI_1 j) (by decide) ?_
        refine z_goto (tgt := 2) F dX2_clear_25 (by decide) ?_
        have h9 := ih (j + 1) (by omega) (by omega)
        rw [← zclr_s ob j, ← zclr_s lc j] at h9
        exact z_eq rfl rfl rfl rfl (z_lv rfl h9)
  refine z_iconst (v := 0) F dX2_clear_0 (by decide) ?_
  refine z_istore_n F dX2_clear_1 (by decide) ?_
  have h9 := loop 65 0 (by omega) (by omega)
  rw [zclr_0, zclr_0] at h9
  exact z_lv rfl h9

set_option maxHeartbeats 4000000 in
set_option maxRecDepth 100000 in
/-- ExactSearch.offer -/
theorem c_E_offer {l : Launch} {D : va_G} {tys : List (ClassId × FieldType)} {he e1 e2 e3 e4 e5 : Nat} {cA : ClassId} {ob : Nat → Option Nat} {oc : Nat → Nat} {lc : Nat → Option Nat} {fb fs : Nat → Nat} (x b v : Nat) (hx0 : 0 < x) (hx : x < 64) : zMv l yX2_offer (zws yX2_offer cX2_offer 4 none) { frames := 0, cells := 0, slots := 0, locals := 0 } D zcl ((cA, .int) :: tys) zG [.ref he, .int (nI x), .int (nI b), .int (nI v)] (wE he e1 e2 e3 e4 e5 cA ob oc lc fb fs) (fun w2 => w2 = wE he e1 e2 e3 e4 e5 cA (zuo ob x (some b)) (zu oc x v) lc fb fs) 0 0 := by
  refine z_ofv (cc := cX2_offer) (maxL := 4) (ret := none) (by decide) rfl (Nat.le_of_ble_eq_true rfl) ?_
  intro p e s m below meth c A F hr hlk hnm
  refine z_iload_n F dX2_offer_0 rfl ?_
  refine z_if_le (tgt := 24) F dX2_offer_1 (by decide) (fun c1 => ?_) (fun c1 => ?_)
  · exact absurd c1 (nI_nle hx0 (by omega))
  · refine z_iload_n F dX2_offer_4 rfl ?_
    refine z_bipush (v := 64) F dX2_offer_5 (by decide) ?_
    refine z_icmp_ge (tgt := 24) F dX2_offer_7 (by decide) (fun c7 => ?_) (fun c7 => ?_)
    · exact absurd c7 (nI_ge hx (by decide))
    · refine z_aload_n F dX2_offer_10 rfl ?_
      refine z_get (ci := 2) (C := RX2) (T := TX2) (N := 5) F 0 0 dX2_offer_11 inX2 kfX2_9 rfl rfl rfl (by decide) rfl ?_
      refine z_iload_n F dX2_offer_14 rfl ?_
      refine z_iload_n F dX2_offer_15 rfl ?_
      refine z_iastO F 1 0 (some b) dX2_offer_16 rfl rfl rfl hx (by decide) rfl ?_
      refine z_aload_n F dX2_offer_17 rfl ?_
      refine z_get (ci := 2) (C := RX2) (T := TX2) (N := 5) F 0 1 dX2_offer_18 inX2 kfX2_15 rfl rfl rfl (by decide) rfl ?_
      refine z_iload_n F dX2_offer_21 rfl ?_
      refine z_iload_n F dX2_offer_22 rfl ?_
      refine z_iastN F 2 0 _ dX2_offer_23 rfl rfl rfl hx (by decide) rfl ?_
      exact z_vret F hr hlk dX2_offer_24 rfl (Nat.le_of_ble_eq_true rfl) (Nat.le_of_ble_eq_true rfl)

set_option maxHeartbeats 4000000 in
set_option maxRecDepth 100000 in
/-- ExactSearch.isBetter -/
theorem c_E_isBetter {l : Launch} {D : va_G} {tys : List (ClassId × FieldType)} {he e1 e2 e3 e4 e5 : Nat} {cA : ClassId} {ob : Nat → Option Nat} {oc : Nat → Nat} {t : zT} (ok : zEok ob oc t) (x f v k : Nat) (hx0 : 0 < x) (hx : x < 64) (hf : f < 64) (ho : (ob f).isSome = true) (hv : v < 2 ^ 31) (hk : k < 2 ^ 31) : zMi l yX2_isBetter (zws yX2_isBetter cX2_isBetter 7 (some .boolean)) { frames := 0, cells := 0, slots := 0, locals := 0 } D zcl ((cA, .int) :: tys) zG [.ref he, .int (nI x), .int (nI f), .int (nI v), .int (nI k)] (wT he e1 e2 e3 e4 e5 cA ob oc t) (fun r w2 => r = zB (zbet ob t.1 t.2.1 t.2.2 x f v k) ∧ w2 = (wT he e1 e2 e3 e4 e5 cA ob oc t)) 0 0 := by
  refine z_ofi (cc := cX2_isBetter) (maxL := 7) (ret := (some .boolean)) (by decide) rfl (Nat.le_of_ble_eq_true rfl) ?_
  intro p e s m below meth c A F hr hlk hnm
  rcases hL : t.1 x with _ | L
  · refine z_aload_n F dX2_isBetter_0 rfl ?_
    refine z_get (ci := 2) (C := RX2) (T := TX2) (N := 5) F 0 2 dX2_isBetter_1 inX2 kfX2_18 rfl rfl rfl (by decide) rfl ?_
    refine z_iload_n F dX2_isBetter_4 rfl ?_
    refine z_iald F 3 0 dX2_isBetter_5 rfl rfl rfl hx (by decide) ?_
    refine z_topi (y := (-1)) (zo_n1 hL) ?_
    refine z_iconst (v := (-1)) F dX2_isBetter_6 (by decide) ?_
    refine z_icmp_ne (tgt := 12) F dX2_isBetter_7 (by decide) (fun c7 => ?_) (fun c7 => ?_)
    · exact absurd rfl c7
    · refine z_iconst (v := 1) F dX2_isBetter_10 (by decide) ?_
      exact z_iret F hr rfl hlk dX2_isBetter_11 ⟨by rw [zbet_none hL]; rfl, rfl⟩ (Nat.le_of_ble_eq_true rfl) (Nat.le_of_ble_eq_true rfl)
  · obtain ⟨k1, k2, k3⟩ := ok.2.2 x hx L hL
    obtain ⟨hfs, hos, -, -⟩ := k3 hx0
    have hL2 : L < 2 ^ 31 := by omega
    have hfb : t.2.1 x < 2 ^ 31 := by omega
    obtain ⟨b1, hb1⟩ := Option.isSome_iff_exists.mp ho
    obtain ⟨b2, hb2⟩ := Option.isSome_iff_exists.mp hos
    have hb1l : b1 < 2 ^ 31 := Nat.lt_trans (ok.2.1 f b1 hb1) (by decide)
    have hb2l : b2 < 2 ^ 31 := Nat.lt_trans (ok.2.1 _ b2 hb2) (by decide)
    refine z_aload_n F dX2_isBetter_0 rfl ?_
    refine z_get (ci := 2) (C := RX2) (T := TX2) (N := 5) F 0 2 dX2_isBetter_1 inX2 kfX2_18 rfl rfl rfl (by decide) rfl ?_
    refine z_iload_n F dX2_isBetter_4 rfl ?_
    refine z_iald F 3 0 dX2_isBetter_5 rfl rfl rfl hx (by decide) ?_
    refine z_topi (y := nI L) (zo_s1 hL) ?_
    refine z_iconst (v := (-1)) F dX2_isBetter_6 (by decide) ?_
    refine z_icmp_ne (tgt := 12) F dX2_isBetter_7 (by decide) (fun c7 => ?_) (fun c7 => ?_)
    · refine z_iload_n F dX2_isBetter_12 rfl ?_
      refine z_aload_n F dX2_isBetter_13 rfl ?_
      refine z_get (ci := 2) (C := RX2) (T := TX2) (N := 5) F 0 2 dX2_isBetter_14 inX2 kfX2_18 rfl rfl rfl (by decide) rfl ?_
      refine z_iload_n F dX2_isBetter_17 rfl ?_
      refine z_iald F 3 0 dX2_isBetter_18 rfl rfl rfl hx (by decide) ?_
      refine z_topi (y := nI L) (zo_s1 hL) ?_
      refine z_icmp_eq (tgt := 38) F dX2_isBetter_19 (by decide) (fun c19 => ?_) (fun c19 => ?_)
      · have n19 : v = L := (nI_eq hv hL2).mp c19
        refine z_iload F dX2_isBetter_38 rfl ?_
        refine z_aload_n F dX2_isBetter_40 rfl ?_
        refine z_get (ci := 2) (C := RX2) (T := TX2) (N := 5) F 0 3 dX2_isBetter_41 inX2 kfX2_21 rfl rfl rfl (by decide) rfl ?_
        refine z_iload_n F dX2_isBetter_44 rfl ?_
        refine z_ialdN F 4 0 dX2_isBetter_45 rfl rfl rfl hx (by decide) ?_
        refine z_icmp_eq (tgt := 66) F dX2_isBetter_46 (by decide) (fun c46 => ?_) (fun c46 => ?_)
        · have n46 : k = t.2.1 x := (nI_eq hk hfb).mp c46
          refine z_aload_n F dX2_isBetter_66 rfl ?_
          refine z_get (ci := 2) (C := RX2) (T := TX2) (N := 5) F 0 0 dX2_isBetter_67 inX2 kfX2_9 rfl rfl rfl (by decide) rfl ?_
          refine z_iload_n F dX2_isBetter_70 rfl ?_
          refine z_iald F 1 0 dX2_isBetter_71 rfl rfl rfl hf (by decide) ?_
          refine z_topi (y := nI b1) (zo_s1 hb1) ?_
          refine z_istore F dX2_isBetter_72 (by decide) ?_
          refine z_aload_n F dX2_isBetter_74 rfl ?_
          refine z_get (ci := 2) (C := RX2) (T := TX2) (N := 5) F 0 0 dX2_isBetter_75 inX2 kfX2_9 rfl rfl rfl (by decide) rfl ?_
          refine z_aload_n F dX2_isBetter_78 rfl ?_
          refine z_get (ci := 2) (C := RX2) (T := TX2) (N := 5) F 0 4 dX2_isBetter_79 inX2 kfX2_24 rfl rfl rfl (by decide) rfl ?_
          refine z_iload_n F dX2_isBetter_82 rfl ?_
          refine z_ialdN F 5 0 dX2_isBetter_83 rfl rfl rfl hx (by decide) ?_
          refine z_iald F 1 0 dX2_isBetter_84 rfl rfl rfl hfs (by decide) ?_
          refine z_topi (y := nI b2) (zo_s1 hb2) ?_
          refine z_istore F dX2_isBetter_85 (by decide) ?_
          refine z_iload F dX2_isBetter_87 rfl ?_
          refine z_iload F dX2_isBetter_89 rfl ?_
          refine z_icmp_eq (tgt := 109) F dX2_isBetter_91 (by decide) (fun c91 => ?_) (fun c91 => ?_)
          · have n91 : b1 = b2 := (nI_eq hb1l hb2l).mp c91
            refine z_iload_n F dX2_isBetter_109 rfl ?_
            refine z_aload_n F dX2_isBetter_110 rfl ?_
            refine z_get (ci := 2) (C := RX2) (T := TX2) (N := 5) F 0 4 dX2_isBetter_111 inX2 kfX2_24 rfl rfl rfl (by decide) rfl ?_
            refine z_iload_n F dX2_isBetter_114 rfl ?_
            refine z_ialdN F 5 0 dX2_isBetter_115 rfl rfl rfl hx (by decide) ?_
            refine z_icmp_ge (tgt := 123) F dX2_isBetter_116 (by decide) (fun c116 => ?_) (fun c116 => ?_)
            · have n116 : t.2.2 x ≤ f := (nI_leI (by omega) (by omega)).mp c116
              refine z_iconst (v := 0) F dX2_isBetter_123 (by decide) ?_
              exact z_iret F hr rfl hlk dX2_isBetter_124 ⟨by rw [zbet_some hL hb1 hb2]; exact zhas_f (by omega), rfl⟩ (Nat.le_of_ble_eq_true rfl) (Nat.le_of_ble_eq_true rfl)
            · have n116 : ¬ t.2.2 x ≤ f := fun q => c116 ((nI_leI (by omega) (by omega)).mpr q)
              refine z_iconst (v := 1) F dX2_isBetter_119 (by decide) ?_
              refine z_goto (tgt := 124) F dX2_isBetter_120 (by decide) ?_
              exact z_iret F hr rfl hlk dX2_isBetter_124 ⟨by rw [zbet_some hL hb1 hb2]; exact zhas_t (by omega), rfl⟩ (Nat.le_of_ble_eq_true rfl) (Nat.le_of_ble_eq_true rfl)
          · have n91 : ¬ b1 = b2 := fun q => c91 (by rw [q])
            refine z_iload F dX2_isBetter_94 rfl ?_
            refine z_iload F dX2_isBetter_96 rfl ?_
            refine z_icmp_ge (tgt := 105) F dX2_isBetter_98 (by decide) (fun c98 => ?_) (fun c98 => ?_)
            · have n98 : b2 ≤ b1 := (nI_leI hb2l hb1l).mp c98
              refine z_iconst (v := 0) F dX2_isBetter_105 (by decide) ?_
              refine z_goto (tgt := 124) F dX2_isBetter_106 (by decide) ?_
              exact z_iret F hr rfl hlk dX2_isBetter_124 ⟨by rw [zbet_some hL hb1 hb2]; exact zhas_f (by omega), rfl⟩ (Nat.le_of_ble_eq_true rfl) (Nat.le_of_ble_eq_true rfl)
            · have n98 : ¬ b2 ≤ b1 := fun q => c98 ((nI_leI hb2l hb1l).mpr q)
              refine z_iconst (v := 1) F dX2_isBetter_101 (by decide) ?_
              refine z_goto (tgt := 124) F dX2_isBetter_102 (by decide) ?_
              exact z_iret F hr rfl hlk dX2_isBetter_124 ⟨by rw [zbet_some hL hb1 hb2]; exact zhas_t (by omega), rfl⟩ (Nat.le_of_ble_eq_true rfl) (Nat.le_of_ble_eq_true rfl)
        · have n46 : ¬ k = t.2.1 x := fun q => c46 (by rw [q])
          refine z_iload F dX2_isBetter_49 rfl ?_
          refine z_aload_n F dX2_isBetter_51 rfl ?_
          refine z_get (ci := 2) (C := RX2) (T := TX2) (N := 5) F 0 3 dX2_isBetter_52 inX2 kfX2_21 rfl rfl rfl (by decide) rfl ?_
          refine z_iload_n F dX2_isBetter_55 rfl ?_
          refine z_ialdN F 4 0 dX2_isBetter_56 rfl rfl rfl hx (by decide) ?_
          refine z_icmp_ge (tgt := 64) F dX2_isBetter_57 (by decide) (fun c57 => ?_) (fun c57 => ?_)
          · have n57 : t.2.1 x ≤ k := (nI_leI hfb hk).mp c57
            refine z_iconst (v := 0) F dX2_isBetter_64 (by decide) ?_
            exact z_iret F hr rfl hlk dX2_isBetter_65 ⟨by rw [zbet_some hL hb1 hb2]; exact zhas_f (by omega), rfl⟩ (Nat.le_of_ble_eq_true rfl) (Nat.le_of_ble_eq_true rfl)
          · have n57 : ¬ t.2.1 x ≤ k := fun q => c57 ((nI_leI hfb hk).mpr q)
            refine z_iconst (v := 1) F dX2_isBetter_60 (by decide) ?_
            refine z_goto (tgt := 65) F dX2_isBetter_61 (by decide) ?_
            exact z_iret F hr rfl hlk dX2_isBetter_65 ⟨by rw [zbet_some hL hb1 hb2]; exact zhas_t (by omega), rfl⟩ (Nat.le_of_ble_eq_true rfl) (Nat.le_of_ble_eq_true rfl)
      · have n19 : ¬ v = L := fun q => c19 (by rw [q])
        refine z_iload_n F dX2_isBetter_22 rfl ?_
        refine z_aload_n F dX2_isBetter_23 rfl ?_
        refine z_get (ci := 2) (C := RX2) (T := TX2) (N := 5) F 0 2 dX2_isBetter_24 inX2 kfX2_18 rfl rfl rfl (by decide) rfl ?_
        refine z_iload_n F dX2_isBetter_27 rfl ?_
        refine z_iald F 3 0 dX2_isBetter_28 rfl rfl rfl hx (by decide) ?_
        refine z_topi (y := nI L) (zo_s1 hL) ?_
        refine z_icmp_ge (tgt := 36) F dX2_isBetter_29 (by decide) (fun c29 => ?_) (fun c29 => ?_)
        · have n29 : L ≤ v := (nI_leI hL2 hv).mp c29
          refine z_iconst (v := 0) F dX2_isBetter_36 (by decide) ?_
          exact z_iret F hr rfl hlk dX2_isBetter_37 ⟨by rw [zbet_some hL hb1 hb2]; exact zhas_f (by omega), rfl⟩ (Nat.le_of_ble_eq_true rfl) (Nat.le_of_ble_eq_true rfl)
        · have n29 : ¬ L ≤ v := fun q => c29 ((nI_leI hL2 hv).mpr q)
          refine z_iconst (v := 1) F dX2_isBetter_32 (by decide) ?_
          refine z_goto (tgt := 37) F dX2_isBetter_33 (by decide) ?_
          exact z_iret F hr rfl hlk dX2_isBetter_37 ⟨by rw [zbet_some hL hb1 hb2]; exact zhas_t (by omega), rfl⟩ (Nat.le_of_ble_eq_true rfl) (Nat.le_of_ble_eq_true rfl)
    · exact absurd c7 (zi_ne L hL2)

set_option maxHeartbeats 4000000 in
set_option maxRecDepth 100000 in
/-- ExactSearch.tryFirst -/
theorem c_E_tryFirst {l : Launch} {D : va_G} {tys : List (ClassId × FieldType)} {he e1 e2 e3 e4 e5 : Nat} {cA : ClassId} {ob : Nat → Option Nat} {oc : Nat → Nat} {t : zT} (ok : zEok ob oc t) (x f : Nat) (hx : x < 64) (hf : f < 64) (hlt : zd x f < x) (ho : (ob f).isSome = true) : zMv l yX2_tryFirst (zws yX2_tryFirst cX2_tryFirst 6 none) { frames := 1, cells := 0, slots := 0, locals := 26 } D zcl ((cA, .int) :: tys) zG [.ref he, .int (nI x), .int (nI f)] (wT he e1 e2 e3 e4 e5 cA ob oc t) (fun w2 => w2 = wT he e1 e2 e3 e4 e5 cA ob oc (ztry ob oc x f t)) 0 0 := by
  refine z_ofv (cc := cX2_tryFirst) (maxL := 6) (ret := none) (by decide) rfl (Nat.le_of_ble_eq_true rfl) ?_
  intro p e s m below meth c A F hr hlk hnm
  rcases hL : t.1 (zd x f) with _ | L
  · refine z_iload_n F dX2_tryFirst_0 rfl ?_
    refine z_iload_n F dX2_tryFirst_1 rfl ?_
    refine z_iconst (v := (-1)) F dX2_tryFirst_2 (by decide) ?_
    refine z_ixor F dX2_tryFirst_3 ?_
    refine z_iand F dX2_tryFirst_4 ?_
    refine z_topi (y := nI (zd x f)) (zb_nand _ _) ?_
    refine z_istore_n F dX2_tryFirst_5 (by decide) ?_
    refine z_aload_n F dX2_tryFirst_6 rfl ?_
    refine z_get (ci := 2) (C := RX2) (T := TX2) (N := 5) F 0 2 dX2_tryFirst_7 inX2 kfX2_18 rfl rfl rfl (by decide) rfl ?_
    refine z_iload_n F dX2_tryFirst_10 rfl ?_
    refine z_iald F 3 0 dX2_tryFirst_11 rfl rfl rfl (by omega) (by decide) ?_
    refine z_topi (y := (-1)) (zo_n1 hL) ?_
    refine z_iconst (v := (-1)) F dX2_tryFirst_12 (by decide) ?_
    refine z_icmp_ne (tgt := 17) F dX2_tryFirst_13 (by decide) (fun c13 => ?_) (fun c13 => ?_)
    · exact absurd rfl c13
    · exact z_vret F hr hlk dX2_tryFirst_16 (by rw [ztry_none hL]) (Nat.le_of_ble_eq_true rfl) (Nat.le_of_ble_eq_true rfl)
  · obtain ⟨k1, k2, -⟩ := ok.2.2 _ (by omega) L hL
    have k0 := ok.1 f
    refine z_iload_n F dX2_tryFirst_0 rfl ?_
    refine z_iload_n F dX2_tryFirst_1 rfl ?_
    refine z_iconst (v := (-1)) F dX2_tryFirst_2 (by decide) ?_
    refine z_ixor F dX2_tryFirst_3 ?_
    refine z_iand F dX2_tryFirst_4 ?_
    refine z_topi (y := nI (zd x f)) (zb_nand _ _) ?_
    refine z_istore_n F dX2_tryFirst_5 (by decide) ?_
    refine z_aload_n F dX2_tryFirst_6 rfl ?_
    refine z_get (ci := 2) (C := RX2) (T := TX2) (N := 5) F 0 2 dX2_tryFirst_7 inX2 kfX2_18 rfl rfl rfl (by decide) rfl ?_
    refine z_iload_n F dX2_tryFirst_10 rfl ?_
    refine z_iald F 3 0 dX2_tryFirst_11 rfl rfl rfl (by omega) (by decide) ?_
    refine z_topi (y := nI L) (zo_s1 hL) ?_
    refine z_iconst (v := (-1)) F dX2_tryFirst_12 (by decide) ?_
    refine z_icmp_ne (tgt := 17) F dX2_tryFirst_13 (by decide) (fun c13 => ?_) (fun c13 => ?_)
    · refine z_aload_n F dX2_tryFirst_17 rfl ?_
      refine z_get (ci := 2) (C := RX2) (T := TX2) (N := 5) F 0 1 dX2_tryFirst_18 inX2 kfX2_15 rfl rfl rfl (by decide) rfl ?_
      refine z_iload_n F dX2_tryFirst_21 rfl ?_
      refine z_ialdN F 2 0 dX2_tryFirst_22 rfl rfl rfl hf (by decide) ?_
      refine z_aload_n F dX2_tryFirst_23 rfl ?_
      refine z_get (ci := 2) (C := RX2) (T := TX2) (N := 5) F 0 2 dX2_tryFirst_24 inX2 kfX2_18 rfl rfl rfl (by decide) rfl ?_
      refine z_iload_n F dX2_tryFirst_27 rfl ?_
      refine z_iald F 3 0 dX2_tryFirst_28 rfl rfl rfl (by omega) (by decide) ?_
      refine z_topi (y := nI L) (zo_s1 hL) ?_
      refine z_iadd F dX2_tryFirst_29 ?_
      refine z_topi (y := nI (oc f + L)) (nI_add _ _) ?_
      refine z_istore F dX2_tryFirst_30 (by decide) ?_
      refine z_iconst (v := 1) F dX2_tryFirst_32 (by decide) ?_
      refine z_aload_n F dX2_tryFirst_33 rfl ?_
      refine z_get (ci := 2) (C := RX2) (T := TX2) (N := 5) F 0 3 dX2_tryFirst_34 inX2 kfX2_21 rfl rfl rfl (by decide) rfl ?_
      refine z_iload_n F dX2_tryFirst_37 rfl ?_
      refine z_ialdN F 4 0 dX2_tryFirst_38 rfl rfl rfl (by omega) (by decide) ?_
      refine z_iadd F dX2_tryFirst_39 ?_
      refine z_topi (y := nI (1 + t.2.1 (zd x f))) (nI_add 1 _) ?_
      refine z_istore F dX2_tryFirst_40 (by decide) ?_
      refine z_aload_n F dX2_tryFirst_42 rfl ?_
      refine z_iload_n F dX2_tryFirst_43 rfl ?_
      refine z_iload_n F dX2_tryFirst_44 rfl ?_
      refine z_iload F dX2_tryFirst_45 rfl ?_
      refine z_iload F dX2_tryFirst_47 rfl ?_
      refine z_callVi0 F (c_E_isBetter ok x f (oc f + L) (1 + t.2.1 (zd x f)) (by omega) hx hf ho (by omega) (by omega)) 0 rfl rfl (zcwV F.2.2.2.2.1 kcX2_isBetter kmX2_41 kiX2_isBetter ksX2_isBetter knX2 hdX2_isBetter rfl rfl ⟨(Nat.le_of_ble_eq_true rfl), (Nat.le_of_ble_eq_true rfl)⟩) dX2_tryFirst_49 rfl rfl (Nat.le_of_ble_eq_true rfl) ⟨(Nat.le_of_ble_eq_true rfl), (Nat.le_of_ble_eq_true rfl)⟩ ?_
      rintro r w2 ⟨rfl, rfl⟩
      refine z_if_eq (tgt := 78) F dX2_tryFirst_52 (by decide) (fun c52 => ?_) (fun c52 => ?_)
      · exact z_vret F hr hlk dX2_tryFirst_78 (by rw [ztry_f hL (zB_0.mp c52)]) (Nat.le_of_ble_eq_true rfl) (Nat.le_of_ble_eq_true rfl)
      · refine z_aload_n F dX2_tryFirst_55 rfl ?_
        refine z_get (ci := 2) (C := RX2) (T := TX2) (N := 5) F 0 2 dX2_tryFirst_56 inX2 kfX2_18 rfl rfl rfl (by decide) rfl ?_
        refine z_iload_n F dX2_tryFirst_59 rfl ?_
        refine z_iload F dX2_tryFirst_60 rfl ?_
        refine z_iastO F 3 0 (some (oc f + L)) dX2_tryFirst_62 rfl rfl rfl hx (by decide) rfl ?_
        refine z_aload_n F dX2_tryFirst_63 rfl ?_
        refine z_get (ci := 2) (C := RX2) (T := TX2) (N := 5) F 0 3 dX2_tryFirst_64 inX2 kfX2_21 rfl rfl rfl (by decide) rfl ?_
        refine z_iload_n F dX2_tryFirst_67 rfl ?_
        refine z_iload F dX2_tryFirst_68 rfl ?_
        refine z_iastN F 4 0 _ dX2_tryFirst_70 rfl rfl rfl hx (by decide) rfl ?_
        refine z_aload_n F dX2_tryFirst_71 rfl ?_
        refine z_get (ci := 2) (C := RX2) (T := TX2) (N := 5) F 0 4 dX2_tryFirst_72 inX2 kfX2_24 rfl rfl rfl (by decide) rfl ?_
        refine z_iload_n F dX2_tryFirst_75 rfl ?_
        refine z_iload_n F dX2_tryFirst_76 rfl ?_
        refine z_iastN F 5 0 _ dX2_tryFirst_77 rfl rfl rfl hx (by decide) rfl ?_
        exact z_vret F hr hlk dX2_tryFirst_78 (by rw [ztry_t hL (zB_1.mp c52)]; rfl) (Nat.le_of_ble_eq_true rfl) (Nat.le_of_ble_eq_true rfl)
    · exact absurd c13 (zi_ne L (by omega))

set_option maxHeartbeats 4000000 in
set_option maxRecDepth 100000 in
/-- ExactSearch.findBest -/
theorem c_E_findBest {l : Launch} {D : va_G} {tys : List (ClassId × FieldType)} {he e1 e2 e3 e4 e5 : Nat} {cA : ClassId} {ob : Nat → Option Nat} {oc : Nat → Nat} {t : zT} (ok : zEok ob oc t) (x : Nat) (hx0 : 0 < x) (hx : x < 64) : zMv l yX2_findBest (zws yX2_findBest cX2_findBest 4 none) { frames := 2, cells := 0, slots := 0, locals := 51 } D zcl ((cA, .int) :: tys) zG [.ref he, .int (nI x)] (wT he e1 e2 e3 e4 e5 cA ob oc t) (fun w2 => w2 = wT he e1 e2 e3 e4 e5 cA ob oc (zfnd ob oc x t)) 0 0 := by
  refine z_ofv (cc := cX2_findBest) (maxL := 4) (ret := none) (by decide) rfl (Nat.le_of_ble_eq_true rfl) ?_
  intro p e s m below meth c A F hr hlk hnm
  have hlw := (zlow_in x hx).2 hx0
  have loop : ∀ (n y : Nat), zlow x ≤ y → y ≤ x + 1 → x + 2 ≤ y + n → zW p l e (headSpec (zws yX2_findBest cX2_findBest 4 none) { frames := 2, cells := 0, slots := 0, locals := 51 }).room s m [.ref he, .int (nI x)].toArray below meth c 4 D zcl A 0 0 (MQ below (va_Qv (fun w2 => w2 = wT he e1 e2 e3 e4 e5 cA ob oc (zfnd ob oc x t)) (zEnd D zcl A) A) [.ref he, .int (nI x)].toArray s 0 0 A) (wT he e1 e2 e3 e4 e5 cA ob oc (zfr (zfbs ob oc x) t (zlow x) y)) [(0, .ref he), (1, .int (nI x)), (2, .int (nI (zlow x))), (3, .int (nI y))] 7 [] := by
    intro n
    induction n with
    | zero => intro y h1 h2 h3; omega
    | succ n ih =>
      intro y hy1 hy2 hy3
      refine z_iload_n F dX2_findBest_7 rfl ?_
      refine z_iload_n F dX2_findBest_8 rfl ?_
      refine z_icmp_gt (tgt := 48) F dX2_findBest_9 (by decide) (fun c9 => ?_) (fun c9 => ?_)
      · have ey : y = x + 1 := by rw [nI_ltI (by omega) (by omega)] at c9; omega
        exact z_vret F hr hlk dX2_findBest_48 (by rw [ey]; rfl) (Nat.le_of_ble_eq_true rfl) (Nat.le_of_ble_eq_true rfl)
      · have hyx : y ≤ x := by rw [nI_ltI (by omega) (by omega)] at c9; omega
        refine z_iload_n F dX2_findBest_12 rfl ?_
        refine z_iload_n F dX2_findBest_13 rfl ?_
        refine z_iconst (v := (-1)) F dX2_findBest_14 (by decide) ?_
        refine z_ixor F dX2_findBest_15 ?_
        refine z_iand F dX2_findBest_16 ?_
        refine z_topi (y := nI (zd y x)) (zb_nand _ _) ?_
        refine z_if_ne (tgt := 42) F dX2_findBest_17 (by decide) (fun c17 => ?_) (fun c17 => ?_)
        · have n17 : ¬ zd y x = 0 := fun q => c17 ((zb_eq0 (Nat.lt_of_le_of_lt (zd_le _ _) (by omega))).mpr q)
          refine z_iinc (v := nI (y + 1)) F dX2_findBest_42 rfl (nI_1 y) (by decide) ?_
          refine z_goto (tgt := 7) F dX2_findBest_45 (by decide) ?_
          have h9 := ih (y + 1) (by omega) (by omega) (by omega)
          rw [zfr_s hy1] at h9
          rw [show zfbs ob oc x y (zfr (zfbs ob oc x) t (zlow x) y) = zfr (zfbs ob oc x) t (zlow x) y from by unfold zfbs; rw [decide_eq_false n17]; rfl] at h9
          exact z_lv rfl h9
        · have n17 : zd y x = 0 := (zb_eq0 (Nat.lt_of_le_of_lt (zd_le _ _) (by omega))).mp c17
          refine z_iload_n F dX2_findBest_20 rfl ?_
          refine z_iload_n F dX2_findBest_21 rfl ?_
          refine z_iand F dX2_findBest_22 ?_
          refine z_topi (y := nI (y &&& zlow x)) (zb_and _ _) ?_
          refine z_if_eq (tgt := 42) F dX2_findBest_23 (by decide) (fun c23 => ?_) (fun c23 => ?_)
          · have n23 : y &&& zlow x = 0 := (zb_eq0 (Nat.lt_of_le_of_lt Nat.and_le_left (by omega))).mp c23
            refine z_iinc (v := nI (y + 1)) F dX2_findBest_42 rfl (nI_1 y) (by decide) ?_
            refine z_goto (tgt := 7) F dX2_findBest_45 (by decide) ?_
            have h9 := ih (y + 1) (by omega) (by omega) (by omega)
            rw [zfr_s hy1] at h9
            rw [show zfbs ob oc x y (zfr (zfbs ob oc x) t (zlow x) y) = zfr (zfbs ob oc x) t (zlow x) y from by unfold zfbs; rw [decide_eq_false (p := ¬ y &&& zlow x = 0) (fun q => q n23), Bool.false_and, Bool.and_false]; rfl] at h9
            exact z_lv rfl h9
          · have n23 : ¬ y &&& zlow x = 0 := fun q => c23 ((zb_eq0 (Nat.lt_of_le_of_lt Nat.and_le_left (by omega))).mpr q)
            refine z_aload_n F dX2_findBest_26 rfl ?_
            refine z_get (ci := 2) (C := RX2) (T := TX2) (N := 5) F 0 0 dX2_findBest_27 inX2 kfX2_9 rfl rfl rfl (by decide) rfl ?_
            refine z_iload_n F dX2_findBest_30 rfl ?_
            refine z_iald F 1 0 dX2_findBest_31 rfl rfl rfl (by omega) (by decide) ?_
            refine z_iconst (v := (-1)) F dX2_findBest_32 (by decide) ?_
            refine z_icmp_eq (tgt := 42) F dX2_findBest_33 (by decide) (fun c33 => ?_) (fun c33 => ?_)
            · have n33 : (ob y).isSome = false := zo_isn c33 (fun b hb => Nat.lt_trans (ok.2.1 _ _ hb) (by decide))
              refine z_iinc (v := nI (y + 1)) F dX2_findBest_42 rfl (nI_1 y) (by decide) ?_
              refine z_goto (tgt := 7) F dX2_findBest_45 (by decide) ?_
              have h9 := ih (y + 1) (by omega) (by omega) (by omega)
              rw [zfr_s hy1] at h9
              rw [show zfbs ob oc x y (zfr (zfbs ob oc x) t (zlow x) y) = zfr (zfbs ob oc x) t (zlow x) y from by unfold zfbs; rw [n33, Bool.and_false, Bool.and_false]; rfl] at h9
              exact z_lv rfl h9
            · have n33 : (ob y).isSome = true := zo_iss c33
              refine z_aload_n F dX2_findBest_36 rfl ?_
              refine z_iload_n F dX2_findBest_37 rfl ?_
              refine z_iload_n F dX2_findBest_38 rfl ?_
              refine z_callVv0 F (c_E_tryFirst (zfr_ok ok y (fun z b hz hb => zfbs_ok hb hx (by omega))) x y hx (by omega) (zd_lt (zlow_meet hx n23)) n33) 0 rfl rfl (zcwV F.2.2.2.2.1 kcX2_tryFirst kmX2_37 kiX2_tryFirst ksX2_tryFirst knX2 hdX2_tryFirst rfl rfl ⟨(Nat.le_of_ble_eq_true rfl), (Nat.le_of_ble_eq_true rfl)⟩) dX2_findBest_39 rfl rfl (Nat.le_of_ble_eq_true rfl) ⟨(Nat.le_of_ble_eq_true rfl), (Nat.le_of_ble_eq_true rfl)⟩ ?_
              rintro w2 rfl
              refine z_iinc (v := nI (y + 1)) F dX2_findBest_42 rfl (nI_1 y) (by decide) ?_
              refine z_goto (tgt := 7) F dX2_findBest_45 (by decide) ?_
              have h9 := ih (y + 1) (by omega) (by omega) (by omega)
              rw [zfr_s hy1] at h9
              rw [show zfbs ob oc x y (zfr (zfbs ob oc x) t (zlow x) y) = ztry ob oc x y (zfr (zfbs ob oc x) t (zlow x) y) from by unfold zfbs; rw [decide_eq_true n17, decide_eq_true n23, n33]; rfl] at h9
              exact z_lv rfl h9
  refine z_iload_n F dX2_findBest_0 rfl ?_
  refine z_iload_n F dX2_findBest_1 rfl ?_
  refine z_ineg F dX2_findBest_2 ?_
  refine z_iand F dX2_findBest_3 ?_
  refine z_topi (y := nI (zlow x)) (zb_low x (by omega)) ?_
  refine z_istore_n F dX2_findBest_4 (by decide) ?_
  refine z_iload_n F dX2_findBest_5 rfl ?_
  refine z_istore_n F dX2_findBest_6 (by decide) ?_
  have h9 := loop (x + 2) (zlow x) (Nat.le_refl _) (by omega) (by omega)
  rw [zfr_0 _ _ _ _ (Nat.le_refl _)] at h9
  exact z_lv rfl h9
