theorem zadd_b {f : Nat → Nat} {M n k : Nat} (h : ∀ x, f x ≤ M) (hn : n ≤ k) : zadd f n ≤ k * M := Nat.le_trans (zadd_le h n) (Nat.mul_le_mul_right M hn)

set_option maxHeartbeats 4000000 in
set_option maxRecDepth 100000 in
theorem c_used_x1 {l : Launch} {D : va_G} {tys : List (ClassId × FieldType)} {ad : Nat → Nat} {cA : ClassId} {ro lo co ks : Nat → Nat} {nb sl : Nat} {si we ki ap tg : Nat → Nat} {nu : Nat} {bn us : Nat → Nat} {nh ct : Nat} {mk ex : Bool} {ob : Nat → Option Nat} {oc : Nat → Nat} {lc : Nat → Option Nat} {fb fs : Nat → Nat} (hl : l.stackTraces = false) (v1 : Int32) (h1 : ¬ (0 ≤ v1 ∧ v1 ≤ 1)) : zXi l yX4_used (zws yX4_used cX4_used 5 (some .int)) { frames := 7, cells := 1, slots := 6, locals := 106 } D zcl ((cA, .int) :: tys) zG [.ref (ad 0), .int v1] (wX ad cA ro lo co ks nb sl si we ki ap tg nu bn us nh ct mk ex ob oc lc fb fs) (fun _ _ => False) (fun E w2 => E = "java/lang/IllegalArgumentException" ∧ w2 = (wX ad cA ro lo co ks nb sl si we ki ap tg nu bn us nh ct mk ex ob oc lc fb fs)) 1 6 := by
  refine zx_ofi (cc := cX4_used) (maxL := 5) (ret := (some .int)) (by decide) rfl (Nat.le_of_ble_eq_true rfl) ?_
  intro p e s m below meth c A F hr hlk hnm hex
  refine z_iload_n F dX4_used_0 rfl ?_
  refine z_iconst (v := 0) F dX4_used_1 (by decide) ?_
  refine z_iconst (v := 1) F dX4_used_2 (by decide) ?_
  refine zx_callSv (w1 := []) (w3 := (wX ad cA ro lo co ks nb sl si we ki ap tg nu bn us nh ct mk ex ob oc lc fb fs)) F (c_X_range_x hl v1 0 1 h1) (zcwS F.2.2.2.2.1 kcX4_needRange kmX4_37 ktX4_needRange knX4 hdX4_needRange rfl rfl ⟨(Nat.le_of_ble_eq_true rfl), (Nat.le_of_ble_eq_true rfl)⟩) dX4_used_3 rfl rfl rfl (Nat.le_of_ble_eq_true rfl) ⟨(Nat.le_of_ble_eq_true rfl), (Nat.le_of_ble_eq_true rfl)⟩ ?_ ?_
  · rintro E w2 ⟨rfl, rfl⟩
    exact zx_outi hex hlk ⟨rfl, rfl⟩ (Nat.le_of_ble_eq_true rfl) (Nat.le_of_ble_eq_true rfl)
  intro w2 h9
  exact h9.elim

set_option maxHeartbeats 4000000 in
set_option maxRecDepth 100000 in
theorem c_used_x2 {l : Launch} {D : va_G} {tys : List (ClassId × FieldType)} {ad : Nat → Nat} {cA : ClassId} {ro lo co ks : Nat → Nat} {nb sl : Nat} {si we ki ap tg : Nat → Nat} {nu : Nat} {bn us : Nat → Nat} {nh ct : Nat} {mk ex : Bool} {ob : Nat → Option Nat} {oc : Nat → Nat} {lc : Nat → Option Nat} {fb fs : Nat → Nat} (hl : l.stackTraces = false) (v1 : Int32) (h1 : (0 ≤ v1 ∧ v1 ≤ 1)) (h2 : mk = false) : zXi l yX4_used (zws yX4_used cX4_used 5 (some .int)) { frames := 7, cells := 1, slots := 6, locals := 106 } D zcl ((cA, .int) :: tys) zG [.ref (ad 0), .int v1] (wX ad cA ro lo co ks nb sl si we ki ap tg nu bn us nh ct mk ex ob oc lc fb fs) (fun _ _ => False) (fun E w2 => E = "java/lang/IllegalStateException" ∧ w2 = (wX ad cA ro lo co ks nb sl si we ki ap tg nu bn us nh ct mk ex ob oc lc fb fs)) 1 6 := by
  refine zx_ofi (cc := cX4_used) (maxL := 5) (ret := (some .int)) (by decide) rfl (Nat.le_of_ble_eq_true rfl) ?_
  intro p e s m below meth c A F hr hlk hnm hex
  refine z_iload_n F dX4_used_0 rfl ?_
  refine z_iconst (v := 0) F dX4_used_1 (by decide) ?_
  refine z_iconst (v := 1) F dX4_used_2 (by decide) ?_
  refine z_callSv (w1 := []) (w3 := (wX ad cA ro lo co ks nb sl si we ki ap tg nu bn us nh ct mk ex ob oc lc fb fs)) F (c_X_range v1 0 1 h1) (zcwS F.2.2.2.2.1 kcX4_needRange kmX4_37 ktX4_needRange knX4 hdX4_needRange rfl rfl ⟨(Nat.le_of_ble_eq_true rfl), (Nat.le_of_ble_eq_true rfl)⟩) dX4_used_3 rfl rfl rfl (Nat.le_of_ble_eq_true rfl) ⟨(Nat.le_of_ble_eq_true rfl), (Nat.le_of_ble_eq_true rfl)⟩ ?_
  rintro w2 rfl
  refine z_eq (ws2 := (wX ad cA ro lo co ks nb sl si we ki ap tg nu bn us nh ct mk ex ob oc lc fb fs)) rfl rfl rfl rfl ?_
  refine z_aload_n F dX4_used_6 rfl ?_
  refine z_get (ci := 4) (C := RX4) (T := TX4) (N := 4) F 0 2 dX4_used_7 inX4 kfX4_26 rfl rfl rfl (by decide) rfl ?_
  refine z_getN (ci := 1) (C := RX1) (T := TX1) (N := 6) F 12 4 dX4_used_10 inX1 (nfX4_104 F.2.2.2.2.2.2.2.1) rfl rfl rfl (by decide) rfl ?_
  refine z_if_ne (tgt := 26) F dX4_used_13 (by decide) (fun c13 => ?_) (fun c13 => ?_)
  · exact absurd (zB_1.mp c13) (by rw [h2]; decide)
  · exact zx_throwi F hl (cls := "java/lang/IllegalStateException") (text := "there is no choice") (names := ["java/lang/RuntimeException", "java/lang/Exception"]) (ik := 167) (is := 169) (ic := 171) (by decide) (by decide) (F.2.2.2.2.1 _ klX4_167) (F.2.2.2.2.1 _ knJ_IllegalStateException) (F.2.2.2.2.2.2.2.1.2.2.2.1 (169, "there is no choice") (List.mem_of_getElem? (i := 8) rfl)) (xat_IllegalStateException F.2.2.2.2.1 F.2.2.2.2.2.2.2.1) xgd_IllegalStateException_167 F.2.2.2.2.2.2.2.1.2.2.2.2.1 F.2.2.2.2.2.2.2.1.2.2.2.2.2 hex dX4_used_16 dX4_used_19 dX4_used_20 dX4_used_22 dX4_used_25 (Nat.le_of_ble_eq_true rfl) (Nat.le_of_ble_eq_true rfl) (Nat.le_of_ble_eq_true rfl) (Nat.le_of_ble_eq_true rfl) hlk ⟨rfl, rfl⟩ (Nat.le_of_ble_eq_true rfl) (Nat.le_of_ble_eq_true rfl)

theorem zgcd_le (a b : Nat) : Nat.gcd a b ≤ a + b := by
  rcases Nat.eq_zero_or_pos a with h | h
  · subst h; rw [Nat.gcd_zero_left]; omega
  · exact Nat.le_trans (Nat.gcd_le_left b h) (Nat.le_add_right _ _)

set_option maxHeartbeats 4000000 in
set_option maxRecDepth 100000 in
/-- used -/
theorem c_used {l : Launch} {D : va_G} {tys : List (ClassId × FieldType)} {ad : Nat → Nat} {cA : ClassId} {ro lo co ks : Nat → Nat} {nb sl : Nat} {si we ki ap tg : Nat → Nat} {nu : Nat} {bn us : Nat → Nat} {nh ct : Nat} {mk ex : Bool} {ob : Nat → Option Nat} {oc : Nat → Nat} {lc : Nat → Option Nat} {fb fs : Nat → Nat} (ok : zok ro lo co ks nb sl si we ki ap tg nu) (hn : nh ≤ 8) (hb : ∀ x, us x < 2 ^ 31) (hbn : ∀ i, i < nh → bn i < nb) (hmk : mk = true) (sd : Nat) (hs : sd ≤ 1) (hg : 0 < Nat.gcd (zadd (fun i => zsum si (us i) nu) nh) (zadd (fun i => ro (bn i)) nh)) : zMi l yX4_used (zws yX4_used cX4_used 5 (some .int)) { frames := 7, cells := 0, slots := 0, locals := 106 } D zcl ((cA, .int) :: tys) zG [.ref (ad 0), .int (nI sd)] (wX ad cA ro lo co ks nb sl si we ki ap tg nu bn us nh ct mk ex ob oc lc fb fs) (fun r w2 => r = nI ((bif decide (sd = 0) then (zadd (fun i => zsum si (us i) nu) nh) else (zadd (fun i => ro (bn i)) nh)) / Nat.gcd (zadd (fun i => zsum si (us i) nu) nh) (zadd (fun i => ro (bn i)) nh)) ∧ w2 = (wX ad cA ro lo co ks nb sl si we ki ap tg nu bn us nh ct mk ex ob oc lc fb fs)) 0 0 := by
  refine z_ofi (cc := cX4_used) (maxL := 5) (ret := (some .int)) (by decide) rfl (Nat.le_of_ble_eq_true rfl) ?_
  intro p e s m below meth c A F hr hlk hnm
  obtain ⟨o1, o2, o3, o4, o5, o6, o7, o8, o9, o10, o11, o12⟩ := id ok
  have loop : ∀ (n j : Nat), j ≤ nh → nh + 1 ≤ j + n → zW p l e (headSpec (zws yX4_used cX4_used 5 (some .int)) { frames := 7, cells := 0, slots := 0, locals := 106 }).room s m [.ref (ad 0), .int (nI sd)].toArray below meth c 5 D zcl A 0 0 (MQ below (va_Qi (fun r w2 => r = nI ((bif decide (sd = 0) then (zadd (fun i => zsum si (us i) nu) nh) else (zadd (fun i => ro (bn i)) nh)) / Nat.gcd (zadd (fun i => zsum si (us i) nu) nh) (zadd (fun i => ro (bn i)) nh)) ∧ w2 = (wX ad cA ro lo co ks nb sl si we ki ap tg nu bn us nh ct mk ex ob oc lc fb fs)) (zEnd D zcl A) A) [.ref (ad 0), .int (nI sd)].toArray s 0 0 A) (wX ad cA ro lo co ks nb sl si we ki ap tg nu bn us nh ct mk ex ob oc lc fb fs) [(0, .ref (ad 0)), (1, .int (nI sd)), (2, .int (nI (zadd (fun i => zsum si (us i) nu) j))), (3, .int (nI (zadd (fun i => ro (bn i)) j))), (4, .int (nI j))] 33 [] := by
    intro n
    induction n with
    | zero => intro j h1 h2; omega
    | succ n ih =>
      intro j hj1 hj2
      refine z_iload F dX4_used_33 rfl ?_
      refine z_aload_n F dX4_used_35 rfl ?_
      refine z_get (ci := 4) (C := RX4) (T := TX4) (N := 4) F 0 2 dX4_used_36 inX4 kfX4_26 rfl rfl rfl (by decide) rfl ?_
      refine z_getN (ci := 1) (C := RX1) (T := TX1) (N := 6) F 12 2 dX4_used_39 inX1 (nfX4_111 F.2.2.2.2.2.2.2.1) rfl rfl rfl (by decide) rfl ?_
      refine z_icmp_ge (tgt := 89) F dX4_used_42 (by decide) (fun c42 => ?_) (fun c42 => ?_)
      · have ej := zge_end hj1 (by omega) c42
        rw [ej]
        have tA : (zadd (fun i => zsum si (us i) nu) nh) ≤ 64000 := zadd_b (fun x => zsum_b o8 o3) hn
        have tB : (zadd (fun i => ro (bn i)) nh) ≤ 8000 := zadd_b (fun x => o4 _) hn
        refine z_iload_n F dX4_used_89 rfl ?_
        refine z_iload_n F dX4_used_90 rfl ?_
        refine z_callSi0 F (c_X_gcd (zadd (fun i => zsum si (us i) nu) nh) (zadd (fun i => ro (bn i)) nh) (by omega) (by omega)) (zcwS F.2.2.2.2.1 kcX4_commonDivisor kmX4_175 ktX4_commonDivisor knX4 hdX4_commonDivisor rfl rfl ⟨(Nat.le_of_ble_eq_true rfl), (Nat.le_of_ble_eq_true rfl)⟩) dX4_used_91 rfl rfl (Nat.le_of_ble_eq_true rfl) ⟨(Nat.le_of_ble_eq_true rfl), (Nat.le_of_ble_eq_true rfl)⟩ ?_
        rintro r w2 ⟨rfl, rfl⟩
        rw [zgd_ok 13 1000 (zadd (fun i => zsum si (us i) nu) nh) (zadd (fun i => ro (bn i)) nh) (by omega) (by decide)]
        refine z_istore F dX4_used_94 (by decide) ?_
        refine z_iload F dX4_used_96 rfl ?_
        refine z_if_ne (tgt := 111) F dX4_used_98 (by decide) (fun c98 => ?_) (fun c98 => ?_)
        · refine z_iload_n F dX4_used_111 rfl ?_
          refine z_if_ne (tgt := 119) F dX4_used_112 (by decide) (fun c112 => ?_) (fun c112 => ?_)
          · refine z_iload_n F dX4_used_119 rfl ?_
            refine z_iload F dX4_used_120 rfl ?_
            refine z_idiv F dX4_used_122 (nI_ne0 (by omega) (Nat.lt_of_le_of_lt (zgcd_le _ _) (by omega))) ?_
            exact z_iret F hr rfl hlk dX4_used_123 ⟨by have e : ¬ sd = 0 := fun q => c112 (by rw [q]; rfl); rw [decide_eq_false e]; exact pk_div (by omega) (by omega) (Nat.lt_of_le_of_lt (zgcd_le _ _) (by omega)), rfl⟩ (Nat.le_of_ble_eq_true rfl) (Nat.le_of_ble_eq_true rfl)
          · refine z_iload_n F dX4_used_115 rfl ?_
            refine z_goto (tgt := 120) F dX4_used_116 (by decide) ?_
            refine z_iload F dX4_used_120 rfl ?_
            refine z_idiv F dX4_used_122 (nI_ne0 (by omega) (Nat.lt_of_le_of_lt (zgcd_le _ _) (by omega))) ?_
            exact z_iret F hr rfl hlk dX4_used_123 ⟨by have e : sd = 0 := (zb_eq0 (by omega)).mp c112; rw [decide_eq_true e]; exact pk_div (by omega) (by omega) (Nat.lt_of_le_of_lt (zgcd_le _ _) (by omega)), rfl⟩ (Nat.le_of_ble_eq_true rfl) (Nat.le_of_ble_eq_true rfl)
        · exact absurd c98 (nI_ne0 (by omega) (Nat.lt_of_le_of_lt (zgcd_le _ _) (by omega)))
      · have hlt := zge_on (by omega) hj1 c42
        refine z_iload_n F dX4_used_45 rfl ?_
        refine z_aload_n F dX4_used_46 rfl ?_
        refine z_get (ci := 4) (C := RX4) (T := TX4) (N := 4) F 0 1 dX4_used_47 inX4 kfX4_19 rfl rfl rfl (by decide) rfl ?_
        refine z_aload_n F dX4_used_50 rfl ?_
        refine z_get (ci := 4) (C := RX4) (T := TX4) (N := 4) F 0 2 dX4_used_51 inX4 kfX4_26 rfl rfl rfl (by decide) rfl ?_
        refine z_iload F dX4_used_54 rfl ?_
        refine z_callVi (w1 := ((ad 0, .inr (4, [.ref (ad 1), .ref (ad 6), .ref (ad 12), .ref (ad 15)])) :: (wC (ad 1) (ad 2) (ad 3) (ad 4) (ad 5) cA ro lo co ks nb sl ++ wU (ad 6) (ad 7) (ad 8) (ad 9) (ad 10) (ad 11) cA si we ki ap tg nu))) (w3 := (wE (ad 15) (ad 16) (ad 17) (ad 18) (ad 19) (ad 20) cA ob oc lc fb fs)) F (c_H_setAt hn j hlt) 0 rfl rfl (zcwV F.2.2.2.2.1 kcX1_setAt kmX4_125 kiX1_setAt ksX1_setAt knX1 hdX1_setAt rfl rfl ⟨(Nat.le_of_ble_eq_true rfl), (Nat.le_of_ble_eq_true rfl)⟩) dX4_used_56 rfl rfl rfl (Nat.le_of_ble_eq_true rfl) ⟨(Nat.le_of_ble_eq_true rfl), (Nat.le_of_ble_eq_true rfl)⟩ ?_
        rintro r w2 ⟨rfl, rfl⟩
        refine z_eq (ws2 := (wX ad cA ro lo co ks nb sl si we ki ap tg nu bn us nh ct mk ex ob oc lc fb fs)) rfl rfl rfl rfl ?_
        refine z_callVi (w1 := ((ad 0, .inr (4, [.ref (ad 1), .ref (ad 6), .ref (ad 12), .ref (ad 15)])) :: wC (ad 1) (ad 2) (ad 3) (ad 4) (ad 5) cA ro lo co ks nb sl)) (w3 := (wH (ad 12) (ad 13) (ad 14) cA bn us nh ct mk ex ++ wE (ad 15) (ad 16) (ad 17) (ad 18) (ad 19) (ad 20) cA ob oc lc fb fs)) F (c_U_sizeOf o3 (us j) (hb j)) 0 rfl rfl (zcwV F.2.2.2.2.1 kcX3_sizeOf kmX4_128 kiX3_sizeOf ksX3_sizeOf knX3 hdX3_sizeOf rfl rfl ⟨(Nat.le_of_ble_eq_true rfl), (Nat.le_of_ble_eq_true rfl)⟩) dX4_used_59 rfl rfl rfl (Nat.le_of_ble_eq_true rfl) ⟨(Nat.le_of_ble_eq_true rfl), (Nat.le_of_ble_eq_true rfl)⟩ ?_
        rintro r w2 ⟨rfl, rfl⟩
        refine z_eq (ws2 := (wX ad cA ro lo co ks nb sl si we ki ap tg nu bn us nh ct mk ex ob oc lc fb fs)) rfl rfl rfl rfl ?_
        refine z_iadd F dX4_used_62 ?_
        refine z_topi (y := nI ((zadd (fun i => zsum si (us i) nu) j) + zsum si (us j) nu)) (nI_add _ _) ?_
        refine z_istore_n F dX4_used_63 (by decide) ?_
        refine z_iload_n F dX4_used_64 rfl ?_
        refine z_aload_n F dX4_used_65 rfl ?_
        refine z_get (ci := 4) (C := RX4) (T := TX4) (N := 4) F 0 0 dX4_used_66 inX4 kfX4_12 rfl rfl rfl (by decide) rfl ?_
        refine z_aload_n F dX4_used_69 rfl ?_
        refine z_get (ci := 4) (C := RX4) (T := TX4) (N := 4) F 0 2 dX4_used_70 inX4 kfX4_26 rfl rfl rfl (by decide) rfl ?_
        refine z_iload F dX4_used_73 rfl ?_
        refine z_callVi (w1 := ((ad 0, .inr (4, [.ref (ad 1), .ref (ad 6), .ref (ad 12), .ref (ad 15)])) :: (wC (ad 1) (ad 2) (ad 3) (ad 4) (ad 5) cA ro lo co ks nb sl ++ wU (ad 6) (ad 7) (ad 8) (ad 9) (ad 10) (ad 11) cA si we ki ap tg nu))) (w3 := (wE (ad 15) (ad 16) (ad 17) (ad 18) (ad 19) (ad 20) cA ob oc lc fb fs)) F (c_H_boxAt hn j hlt) 0 rfl rfl (zcwV F.2.2.2.2.1 kcX1_boxAt kmX4_121 kiX1_boxAt ksX1_boxAt knX1 hdX1_boxAt rfl rfl ⟨(Nat.le_of_ble_eq_true rfl), (Nat.le_of_ble_eq_true rfl)⟩) dX4_used_75 rfl rfl rfl (Nat.le_of_ble_eq_true rfl) ⟨(Nat.le_of_ble_eq_true rfl), (Nat.le_of_ble_eq_true rfl)⟩ ?_
        rintro r w2 ⟨rfl, rfl⟩
        refine z_eq (ws2 := (wX ad cA ro lo co ks nb sl si we ki ap tg nu bn us nh ct mk ex ob oc lc fb fs)) rfl rfl rfl rfl ?_
        refine z_callVi (w1 := [(ad 0, .inr (4, [.ref (ad 1), .ref (ad 6), .ref (ad 12), .ref (ad 15)]))]) (w3 := (wU (ad 6) (ad 7) (ad 8) (ad 9) (ad 10) (ad 11) cA si we ki ap tg nu ++ (wH (ad 12) (ad 13) (ad 14) cA bn us nh ct mk ex ++ wE (ad 15) (ad 16) (ad 17) (ad 18) (ad 19) (ad 20) cA ob oc lc fb fs))) F (c_C_roomOf o1 (bn j) (hbn j hlt)) 0 rfl rfl (zcwV F.2.2.2.2.1 kcX0_roomOf kmX4_172 kiX0_roomOf ksX0_roomOf knX0 hdX0_roomOf rfl rfl ⟨(Nat.le_of_ble_eq_true rfl), (Nat.le_of_ble_eq_true rfl)⟩) dX4_used_78 rfl rfl rfl (Nat.le_of_ble_eq_true rfl) ⟨(Nat.le_of_ble_eq_true rfl), (Nat.le_of_ble_eq_true rfl)⟩ ?_
        rintro r w2 ⟨rfl, rfl⟩
        refine z_eq (ws2 := (wX ad cA ro lo co ks nb sl si we ki ap tg nu bn us nh ct mk ex ob oc lc fb fs)) rfl rfl rfl rfl ?_
        refine z_iadd F dX4_used_81 ?_
        refine z_topi (y := nI ((zadd (fun i => ro (bn i)) j) + ro (bn j))) (nI_add _ _) ?_
        refine z_istore_n F dX4_used_82 (by decide) ?_
        refine z_iinc (v := nI (j + 1)) F dX4_used_83 rfl (nI_1 j) (by decide) ?_
        refine z_goto (tgt := 33) F dX4_used_86 (by decide) ?_
        exact z_lv rfl (ih (j + 1) (by omega) (by omega))
  refine z_iload_n F dX4_used_0 rfl ?_
  refine z_iconst (v := 0) F dX4_used_1 (by decide) ?_
  refine z_iconst (v := 1) F dX4_used_2 (by decide) ?_
  refine z_callSv (w1 := []) (w3 := (wX ad cA ro lo co ks nb sl si we ki ap tg nu bn us nh ct mk ex ob oc lc fb fs)) F (c_X_range (nI sd) 0 1 (zin (Nat.zero_le _) hs (by decide))) (zcwS F.2.2.2.2.1 kcX4_needRange kmX4_37 ktX4_needRange knX4 hdX4_needRange rfl rfl ⟨(Nat.le_of_ble_eq_true rfl), (Nat.le_of_ble_eq_true rfl)⟩) dX4_used_3 rfl rfl rfl (Nat.le_of_ble_eq_true rfl) ⟨(Nat.le_of_ble_eq_true rfl), (Nat.le_of_ble_eq_true rfl)⟩ ?_
  rintro w2 rfl
  refine z_eq (ws2 := (wX ad cA ro lo co ks nb sl si we ki ap tg nu bn us nh ct mk ex ob oc lc fb fs)) rfl rfl rfl rfl ?_
  refine z_aload_n F dX4_used_6 rfl ?_
  refine z_get (ci := 4) (C := RX4) (T := TX4) (N := 4) F 0 2 dX4_used_7 inX4 kfX4_26 rfl rfl rfl (by decide) rfl ?_
  refine z_getN (ci := 1) (C := RX1) (T := TX1) (N := 6) F 12 4 dX4_used_10 inX1 (nfX4_104 F.2.2.2.2.2.2.2.1) rfl rfl rfl (by decide) rfl ?_
  refine z_if_ne (tgt := 26) F dX4_used_13 (by decide) (fun c13 => ?_) (fun c13 => ?_)
  · refine z_iconst (v := 0) F dX4_used_26 (by decide) ?_
    refine z_istore_n F dX4_used_27 (by decide) ?_
    refine z_iconst (v := 0) F dX4_used_28 (by decide) ?_
    refine z_istore_n F dX4_used_29 (by decide) ?_
    refine z_iconst (v := 0) F dX4_used_30 (by decide) ?_
    refine z_istore F dX4_used_31 (by decide) ?_
    exact z_lv rfl (loop (nh + 1) 0 (by omega) (by omega))
  · exact absurd (zB_0.mp c13) (by rw [hmk]; decide)

set_option maxHeartbeats 4000000 in
set_option maxRecDepth 100000 in
/-- used -/
theorem c_used_x3 {l : Launch} {D : va_G} {tys : List (ClassId × FieldType)} {ad : Nat → Nat} {cA : ClassId} {ro lo co ks : Nat → Nat} {nb sl : Nat} {si we ki ap tg : Nat → Nat} {nu : Nat} {bn us : Nat → Nat} {nh ct : Nat} {mk ex : Bool} {ob : Nat → Option Nat} {oc : Nat → Nat} {lc : Nat → Option Nat} {fb fs : Nat → Nat} (hl : l.stackTraces = false) (ok : zok ro lo co ks nb sl si we ki ap tg nu) (hn : nh ≤ 8) (hb : ∀ x, us x < 2 ^ 31) (hbn : ∀ i, i < nh → bn i < nb) (hmk : mk = true) (sd : Nat) (hs : sd ≤ 1) (hg : Nat.gcd (zadd (fun i => zsum si (us i) nu) nh) (zadd (fun i => ro (bn i)) nh) = 0) : zXi l yX4_used (zws yX4_used cX4_used 5 (some .int)) { frames := 7, cells := 1, slots := 6, locals := 106 } D zcl ((cA, .int) :: tys) zG [.ref (ad 0), .int (nI sd)] (wX ad cA ro lo co ks nb sl si we ki ap tg nu bn us nh ct mk ex ob oc lc fb fs) (fun _ _ => False) (fun E w2 => E = "java/lang/ArithmeticException" ∧ w2 = (wX ad cA ro lo co ks nb sl si we ki ap tg nu bn us nh ct mk ex ob oc lc fb fs)) 1 6 := by
  refine zx_ofi (cc := cX4_used) (maxL := 5) (ret := (some .int)) (by decide) rfl (Nat.le_of_ble_eq_true rfl) ?_
  intro p e s m below meth c A F hr hlk hnm hex
  obtain ⟨o1, o2, o3, o4, o5, o6, o7, o8, o9, o10, o11, o12⟩ := id ok
  have loop : ∀ (n j : Nat), j ≤ nh → nh + 1 ≤ j + n → zW p l e (headSpec (zws yX4_used cX4_used 5 (some .int)) { frames := 7, cells := 1, slots := 6, locals := 106 }).room s m [.ref (ad 0), .int (nI sd)].toArray below meth c 5 D zcl A 0 0 (vx_MQ below (va_Qi (fun _ _ => False) (zEnd D zcl A) A) (zXC D zcl A (fun E w2 => E = "java/lang/ArithmeticException" ∧ w2 = (wX ad cA ro lo co ks nb sl si we ki ap tg nu bn us nh ct mk ex ob oc lc fb fs))) [.ref (ad 0), .int (nI sd)].toArray s 1 6 A) (wX ad cA ro lo co ks nb sl si we ki ap tg nu bn us nh ct mk ex ob oc lc fb fs) [(0, .ref (ad 0)), (1, .int (nI sd)), (2, .int (nI (zadd (fun i => zsum si (us i) nu) j))), (3, .int (nI (zadd (fun i => ro (bn i)) j))), (4, .int (nI j))] 33 [] := by
    intro n
    induction n with
    | zero => intro j h1 h2; omega
    | succ n ih =>
      intro j hj1 hj2
      refine z_iload F dX4_used_33 rfl ?_
      refine z_aload_n F dX4_used_35 rfl ?_
      refine z_get (ci := 4) (C := RX4) (T := TX4) (N := 4) F 0 2 dX4_used_36 inX4 kfX4_26 rfl rfl rfl (by decide) rfl ?_
      refine z_getN (ci := 1) (C := RX1) (T := TX1) (N := 6) F 12 2 dX4_used_39 inX1 (nfX4_111 F.2.2.2.2.2.2.2.1) rfl rfl rfl (by decide) rfl ?_
      refine z_icmp_ge (tgt := 89) F dX4_used_42 (by decide) (fun c42 => ?_) (fun c42 => ?_)
      · have ej := zge_end hj1 (by omega) c42
        rw [ej]
        have tA : (zadd (fun i => zsum si (us i) nu) nh) ≤ 64000 := zadd_b (fun x => zsum_b o8 o3) hn
        have tB : (zadd (fun i => ro (bn i)) nh) ≤ 8000 := zadd_b (fun x => o4 _) hn
        refine z_iload_n F dX4_used_89 rfl ?_
        refine z_iload_n F dX4_used_90 rfl ?_
        refine z_callSi0 F (c_X_gcd (zadd (fun i => zsum si (us i) nu) nh) (zadd (fun i => ro (bn i)) nh) (by omega) (by omega)) (zcwS F.2.2.2.2.1 kcX4_commonDivisor kmX4_175 ktX4_commonDivisor knX4 hdX4_commonDivisor rfl rfl ⟨(Nat.le_of_ble_eq_true rfl), (Nat.le_of_ble_eq_true rfl)⟩) dX4_used_91 rfl rfl (Nat.le_of_ble_eq_true rfl) ⟨(Nat.le_of_ble_eq_true rfl), (Nat.le_of_ble_eq_true rfl)⟩ ?_
        rintro r w2 ⟨rfl, rfl⟩
        rw [zgd_ok 13 1000 (zadd (fun i => zsum si (us i) nu) nh) (zadd (fun i => ro (bn i)) nh) (by omega) (by decide)]
        refine z_istore F dX4_used_94 (by decide) ?_
        refine z_iload F dX4_used_96 rfl ?_
        refine z_if_ne (tgt := 111) F dX4_used_98 (by decide) (fun c98 => ?_) (fun c98 => ?_)
        · exact absurd (by rw [hg]; rfl) c98
        · exact zx_throwi F hl (cls := "java/lang/ArithmeticException") (text := "/ by zero") (names := ["java/lang/RuntimeException", "java/lang/Exception"]) (ik := 178) (is := 180) (ic := 182) (by decide) (by decide) (F.2.2.2.2.1 _ klX4_178) (F.2.2.2.2.1 _ knJ_ArithmeticException) (F.2.2.2.2.2.2.2.1.2.2.2.1 (180, "/ by zero") (List.mem_of_getElem? (i := 9) rfl)) (xat_ArithmeticException F.2.2.2.2.1 F.2.2.2.2.2.2.2.1) xgd_ArithmeticException_178 F.2.2.2.2.2.2.2.1.2.2.2.2.1 F.2.2.2.2.2.2.2.1.2.2.2.2.2 hex dX4_used_101 dX4_used_104 dX4_used_105 dX4_used_107 dX4_used_110 (Nat.le_of_ble_eq_true rfl) (Nat.le_of_ble_eq_true rfl) (Nat.le_of_ble_eq_true rfl) (Nat.le_of_ble_eq_true rfl) hlk ⟨rfl, rfl⟩ (Nat.le_of_ble_eq_true rfl) (Nat.le_of_ble_eq_true rfl)
      · have hlt := zge_on (by omega) hj1 c42
        refine z_iload_n F dX4_used_45 rfl ?_
        refine z_aload_n F dX4_used_46 rfl ?_
        refine z_get (ci := 4) (C := RX4) (T := TX4) (N := 4) F 0 1 dX4_used_47 inX4 kfX4_19 rfl rfl rfl (by decide) rfl ?_
        refine z_aload_n F dX4_used_50 rfl ?_
        refine z_get (ci := 4) (C := RX4) (T := TX4) (N := 4) F 0 2 dX4_used_51 inX4 kfX4_26 rfl rfl rfl (by decide) rfl ?_
        refine z_iload F dX4_used_54 rfl ?_
        refine z_callVi (w1 := ((ad 0, .inr (4, [.ref (ad 1), .ref (ad 6), .ref (ad 12), .ref (ad 15)])) :: (wC (ad 1) (ad 2) (ad 3) (ad 4) (ad 5) cA ro lo co ks nb sl ++ wU (ad 6) (ad 7) (ad 8) (ad 9) (ad 10) (ad 11) cA si we ki ap tg nu))) (w3 := (wE (ad 15) (ad 16) (ad 17) (ad 18) (ad 19) (ad 20) cA ob oc lc fb fs)) F (c_H_setAt hn j hlt) 0 rfl rfl (zcwV F.2.2.2.2.1 kcX1_setAt kmX4_125 kiX1_setAt ksX1_setAt knX1 hdX1_setAt rfl rfl ⟨(Nat.le_of_ble_eq_true rfl), (Nat.le_of_ble_eq_true rfl)⟩) dX4_used_56 rfl rfl rfl (Nat.le_of_ble_eq_true rfl) ⟨(Nat.le_of_ble_eq_true rfl), (Nat.le_of_ble_eq_true rfl)⟩ ?_
        rintro r w2 ⟨rfl, rfl⟩
        refine z_eq (ws2 := (wX ad cA ro lo co ks nb sl si we ki ap tg nu bn us nh ct mk ex ob oc lc fb fs)) rfl rfl rfl rfl ?_
        refine z_callVi (w1 := ((ad 0, .inr (4, [.ref (ad 1), .ref (ad 6), .ref (ad 12), .ref (ad 15)])) :: wC (ad 1) (ad 2) (ad 3) (ad 4) (ad 5) cA ro lo co ks nb sl)) (w3 := (wH (ad 12) (ad 13) (ad 14) cA bn us nh ct mk ex ++ wE (ad 15) (ad 16) (ad 17) (ad 18) (ad 19) (ad 20) cA ob oc lc fb fs)) F (c_U_sizeOf o3 (us j) (hb j)) 0 rfl rfl (zcwV F.2.2.2.2.1 kcX3_sizeOf kmX4_128 kiX3_sizeOf ksX3_sizeOf knX3 hdX3_sizeOf rfl rfl ⟨(Nat.le_of_ble_eq_true rfl), (Nat.le_of_ble_eq_true rfl)⟩) dX4_used_59 rfl rfl rfl (Nat.le_of_ble_eq_true rfl) ⟨(Nat.le_of_ble_eq_true rfl), (Nat.le_of_ble_eq_true rfl)⟩ ?_
        rintro r w2 ⟨rfl, rfl⟩
        refine z_eq (ws2 := (wX ad cA ro lo co ks nb sl si we ki ap tg nu bn us nh ct mk ex ob oc lc fb fs)) rfl rfl rfl rfl ?_
        refine z_iadd F dX4_used_62 ?_
        refine z_topi (y := nI ((zadd (fun i => zsum si (us i) nu) j) + zsum si (us j) nu)) (nI_add _ _) ?_
        refine z_istore_n F dX4_used_63 (by decide) ?_
        refine z_iload_n F dX4_used_64 rfl ?_
        refine z_aload_n F dX4_used_65 rfl ?_
        refine z_get (ci := 4) (C := RX4) (T := TX4) (N := 4) F 0 0 dX4_used_66 inX4 kfX4_12 rfl rfl rfl (by decide) rfl ?_
        refine z_aload_n F dX4_used_69 rfl ?_
        refine z_get (ci := 4) (C := RX4) (T := TX4) (N := 4) F 0 2 dX4_used_70 inX4 kfX4_26 rfl rfl rfl (by decide) rfl ?_
        refine z_iload F dX4_used_73 rfl ?_
        refine z_callVi (w1 := ((ad 0, .inr (4, [.ref (ad 1), .ref (ad 6), .ref (ad 12), .ref (ad 15)])) :: (wC (ad 1) (ad 2) (ad 3) (ad 4) (ad 5) cA ro lo co ks nb sl ++ wU (ad 6) (ad 7) (ad 8) (ad 9) (ad 10) (ad 11) cA si we ki ap tg nu))) (w3 := (wE (ad 15) (ad 16) (ad 17) (ad 18) (ad 19) (ad 20) cA ob oc lc fb fs)) F (c_H_boxAt hn j hlt) 0 rfl rfl (zcwV F.2.2.2.2.1 kcX1_boxAt kmX4_121 kiX1_boxAt ksX1_boxAt knX1 hdX1_boxAt rfl rfl ⟨(Nat.le_of_ble_eq_true rfl), (Nat.le_of_ble_eq_true rfl)⟩) dX4_used_75 rfl rfl rfl (Nat.le_of_ble_eq_true rfl) ⟨(Nat.le_of_ble_eq_true rfl), (Nat.le_of_ble_eq_true rfl)⟩ ?_
        rintro r w2 ⟨rfl, rfl⟩
        refine z_eq (ws2 := (wX ad cA ro lo co ks nb sl si we ki ap tg nu bn us nh ct mk ex ob oc lc fb fs)) rfl rfl rfl rfl ?_
        refine z_callVi (w1 := [(ad 0, .inr (4, [.ref (ad 1), .ref (ad 6), .ref (ad 12), .ref (ad 15)]))]) (w3 := (wU (ad 6) (ad 7) (ad 8) (ad 9) (ad 10) (ad 11) cA si we ki ap tg nu ++ (wH (ad 12) (ad 13) (ad 14) cA bn us nh ct mk ex ++ wE (ad 15) (ad 16) (ad 17) (ad 18) (ad 19) (ad 20) cA ob oc lc fb fs))) F (c_C_roomOf o1 (bn j) (hbn j hlt)) 0 rfl rfl (zcwV F.2.2.2.2.1 kcX0_roomOf kmX4_172 kiX0_roomOf ksX0_roomOf knX0 hdX0_roomOf rfl rfl ⟨(Nat.le_of_ble_eq_true rfl), (Nat.le_of_ble_eq_true rfl)⟩) dX4_used_78 rfl rfl rfl (Nat.le_of_ble_eq_true rfl) ⟨(Nat.le_of_ble_eq_true rfl), (Nat.le_of_ble_eq_true rfl)⟩ ?_
        rintro r w2 ⟨rfl, rfl⟩
        refine z_eq (ws2 := (wX ad cA ro lo co ks nb sl si we ki ap tg nu bn us nh ct mk ex ob oc lc fb fs)) rfl rfl rfl rfl ?_
        refine z_iadd F dX4_used_81 ?_
        refine z_topi (y := nI ((zadd (fun i => ro (bn i)) j) + ro (bn j))) (nI_add _ _) ?_
        refine z_istore_n F dX4_used_82 (by decide) ?_
        refine z_iinc (v := nI (j + 1)) F dX4_used_83 rfl (nI_1 j) (by decide) ?_
        refine z_goto (tgt := 33) F dX4_used_86 (by decide) ?_
        exact z_lv rfl (ih (j + 1) (by omega) (by omega))
  refine z_iload_n F dX4_used_0 rfl ?_
  refine z_iconst (v := 0) F dX4_used_1 (by decide) ?_
  refine z_iconst (v := 1) F dX4_used_2 (by decide) ?_
  refine z_callSv (w1 := []) (w3 := (wX ad cA ro lo co ks nb sl si we ki ap tg nu bn us nh ct mk ex ob oc lc fb fs)) F (c_X_range (nI sd) 0 1 (zin (Nat.zero_le _) hs (by decide))) (zcwS F.2.2.2.2.1 kcX4_needRange kmX4_37 ktX4_needRange knX4 hdX4_needRange rfl rfl ⟨(Nat.le_of_ble_eq_true rfl), (Nat.le_of_ble_eq_true rfl)⟩) dX4_used_3 rfl rfl rfl (Nat.le_of_ble_eq_true rfl) ⟨(Nat.le_of_ble_eq_true rfl), (Nat.le_of_ble_eq_true rfl)⟩ ?_
  rintro w2 rfl
  refine z_eq (ws2 := (wX ad cA ro lo co ks nb sl si we ki ap tg nu bn us nh ct mk ex ob oc lc fb fs)) rfl rfl rfl rfl ?_
  refine z_aload_n F dX4_used_6 rfl ?_
  refine z_get (ci := 4) (C := RX4) (T := TX4) (N := 4) F 0 2 dX4_used_7 inX4 kfX4_26 rfl rfl rfl (by decide) rfl ?_
  refine z_getN (ci := 1) (C := RX1) (T := TX1) (N := 6) F 12 4 dX4_used_10 inX1 (nfX4_104 F.2.2.2.2.2.2.2.1) rfl rfl rfl (by decide) rfl ?_
  refine z_if_ne (tgt := 26) F dX4_used_13 (by decide) (fun c13 => ?_) (fun c13 => ?_)
  · refine z_iconst (v := 0) F dX4_used_26 (by decide) ?_
    refine z_istore_n F dX4_used_27 (by decide) ?_
    refine z_iconst (v := 0) F dX4_used_28 (by decide) ?_
    refine z_istore_n F dX4_used_29 (by decide) ?_
    refine z_iconst (v := 0) F dX4_used_30 (by decide) ?_
    refine z_istore F dX4_used_31 (by decide) ?_
    exact z_lv rfl (loop (nh + 1) 0 (by omega) (by omega))
  · exact absurd (zB_0.mp c13) (by rw [hmk]; decide)

set_option maxHeartbeats 4000000 in
set_option maxRecDepth 100000 in
theorem c_choose_x1 {l : Launch} {D : va_G} {tys : List (ClassId × FieldType)} {ad : Nat → Nat} {cA : ClassId} {ro lo co ks : Nat → Nat} {nb sl : Nat} {si we ki ap tg : Nat → Nat} {nu : Nat} {bn us : Nat → Nat} {nh ct : Nat} {mk ex : Bool} {ob : Nat → Option Nat} {oc : Nat → Nat} {lc : Nat → Option Nat} {fb fs : Nat → Nat} (hl : l.stackTraces = false) (v1 : Int32) (h1 : ¬ (0 ≤ v1 ∧ v1 ≤ 6)) : zXi l yX4_choose (zws yX4_choose cX4_choose 4 (some .int)) { frames := 7, cells := 1, slots := 6, locals := 154 } D zcl ((cA, .int) :: tys) zG [.ref (ad 0), .int v1] (wX ad cA ro lo co ks nb sl si we ki ap tg nu bn us nh ct mk ex ob oc lc fb fs) (fun _ _ => False) (fun E w2 => E = "java/lang/IllegalArgumentException" ∧ w2 = (wX ad cA ro lo co ks nb sl si we ki ap tg nu bn us nh ct mk ex ob oc lc fb fs)) 1 6 := by
  refine zx_ofi (cc := cX4_choose) (maxL := 4) (ret := (some .int)) (by decide) rfl (Nat.le_of_ble_eq_true rfl) ?_
  intro p e s m below meth c A F hr hlk hnm hex
  refine z_iload_n F dX4_choose_0 rfl ?_
  refine z_iconst (v := 0) F dX4_choose_1 (by decide) ?_
  refine z_bipush (v := 6) F dX4_choose_2 (by decide) ?_
  refine zx_callSv (w1 := []) (w3 := (wX ad cA ro lo co ks nb sl si we ki ap tg nu bn us nh ct mk ex ob oc lc fb fs)) F (c_X_range_x hl v1 0 6 h1) (zcwS F.2.2.2.2.1 kcX4_needRange kmX4_37 ktX4_needRange knX4 hdX4_needRange rfl rfl ⟨(Nat.le_of_ble_eq_true rfl), (Nat.le_of_ble_eq_true rfl)⟩) dX4_choose_4 rfl rfl rfl (Nat.le_of_ble_eq_true rfl) ⟨(Nat.le_of_ble_eq_true rfl), (Nat.le_of_ble_eq_true rfl)⟩ ?_ ?_
  · rintro E w2 ⟨rfl, rfl⟩
    exact zx_outi hex hlk ⟨rfl, rfl⟩ (Nat.le_of_ble_eq_true rfl) (Nat.le_of_ble_eq_true rfl)
  intro w2 h9
  exact h9.elim

set_option maxHeartbeats 4000000 in
set_option maxRecDepth 100000 in
/-- choose, exactly -/
theorem c_choose_e {l : Launch} {D : va_G} {tys : List (ClassId × FieldType)} {ad : Nat → Nat} {cA : ClassId} {ro lo co ks : Nat → Nat} {nb sl : Nat} {si we ki ap tg : Nat → Nat} {nu : Nat} {bn us : Nat → Nat} {nh ct : Nat} {mk ex : Bool} {ob : Nat → Option Nat} {oc : Nat → Nat} {lc : Nat → Option Nat} {fb fs : Nat → Nat} (ok : zok ro lo co ks nb sl si we ki ap tg nu) (hu6 : nu ≤ 6) (oo1 : ∀ x, oc x ≤ 1000) (oo2 : ∀ x b, ob x = some b → b < 6) (most : Nat) (hm : most ≤ 6) (hnm1 : nu ≤ most) : zMi l yX4_choose (zws yX4_choose cX4_choose 4 (some .int)) { frames := 7, cells := 0, slots := 0, locals := 154 } D zcl ((cA, .int) :: tys) zG [.ref (ad 0), .int (nI most)] (wX ad cA ro lo co ks nb sl si we ki ap tg nu bn us nh ct mk ex ob oc lc fb fs) (fun r w2 => r = zo (bif ((zall (zfr (zos (zff ro lo ks sl si we ki ap tg nu) co nb) ((zclr ob 64, oc) : zO) 1 ((2 ^ nu - 1) + 1)).1 (zfr (zos (zff ro lo ks sl si we ki ap tg nu) co nb) ((zclr ob 64, oc) : zO) 1 ((2 ^ nu - 1) + 1)).2 (2 ^ nu - 1) (zt0 lc fb fs)).1 (2 ^ nu - 1)).isSome then some (zpb (zfr (zos (zff ro lo ks sl si we ki ap tg nu) co nb) ((zclr ob 64, oc) : zO) 1 ((2 ^ nu - 1) + 1)).1 (zfr (zos (zff ro lo ks sl si we ki ap tg nu) co nb) ((zclr ob 64, oc) : zO) 1 ((2 ^ nu - 1) + 1)).2 (zall (zfr (zos (zff ro lo ks sl si we ki ap tg nu) co nb) ((zclr ob 64, oc) : zO) 1 ((2 ^ nu - 1) + 1)).1 (zfr (zos (zff ro lo ks sl si we ki ap tg nu) co nb) ((zclr ob 64, oc) : zO) 1 ((2 ^ nu - 1) + 1)).2 (2 ^ nu - 1) (zt0 lc fb fs)) (2 ^ nu - 1) (((2 ^ nu - 1), bn, us, 0, 0) : zX)).2.2.2.2 else none) ∧ w2 = (wX ad cA ro lo co ks nb sl si we ki ap tg nu (zpb (zfr (zos (zff ro lo ks sl si we ki ap tg nu) co nb) ((zclr ob 64, oc) : zO) 1 ((2 ^ nu - 1) + 1)).1 (zfr (zos (zff ro lo ks sl si we ki ap tg nu) co nb) ((zclr ob 64, oc) : zO) 1 ((2 ^ nu - 1) + 1)).2 (zall (zfr (zos (zff ro lo ks sl si we ki ap tg nu) co nb) ((zclr ob 64, oc) : zO) 1 ((2 ^ nu - 1) + 1)).1 (zfr (zos (zff ro lo ks sl si we ki ap tg nu) co nb) ((zclr ob 64, oc) : zO) 1 ((2 ^ nu - 1) + 1)).2 (2 ^ nu - 1) (zt0 lc fb fs)) (2 ^ nu - 1) (((2 ^ nu - 1), bn, us, 0, 0) : zX)).2.1 (zpb (zfr (zos (zff ro lo ks sl si we ki ap tg nu) co nb) ((zclr ob 64, oc) : zO) 1 ((2 ^ nu - 1) + 1)).1 (zfr (zos (zff ro lo ks sl si we ki ap tg nu) co nb) ((zclr ob 64, oc) : zO) 1 ((2 ^ nu - 1) + 1)).2 (zall (zfr (zos (zff ro lo ks sl si we ki ap tg nu) co nb) ((zclr ob 64, oc) : zO) 1 ((2 ^ nu - 1) + 1)).1 (zfr (zos (zff ro lo ks sl si we ki ap tg nu) co nb) ((zclr ob 64, oc) : zO) 1 ((2 ^ nu - 1) + 1)).2 (2 ^ nu - 1) (zt0 lc fb fs)) (2 ^ nu - 1) (((2 ^ nu - 1), bn, us, 0, 0) : zX)).2.2.1 (zpb (zfr (zos (zff ro lo ks sl si we ki ap tg nu) co nb) ((zclr ob 64, oc) : zO) 1 ((2 ^ nu - 1) + 1)).1 (zfr (zos (zff ro lo ks sl si we ki ap tg nu) co nb) ((zclr ob 64, oc) : zO) 1 ((2 ^ nu - 1) + 1)).2 (zall (zfr (zos (zff ro lo ks sl si we ki ap tg nu) co nb) ((zclr ob 64, oc) : zO) 1 ((2 ^ nu - 1) + 1)).1 (zfr (zos (zff ro lo ks sl si we ki ap tg nu) co nb) ((zclr ob 64, oc) : zO) 1 ((2 ^ nu - 1) + 1)).2 (2 ^ nu - 1) (zt0 lc fb fs)) (2 ^ nu - 1) (((2 ^ nu - 1), bn, us, 0, 0) : zX)).2.2.2.1 (zpb (zfr (zos (zff ro lo ks sl si we ki ap tg nu) co nb) ((zclr ob 64, oc) : zO) 1 ((2 ^ nu - 1) + 1)).1 (zfr (zos (zff ro lo ks sl si we ki ap tg nu) co nb) ((zclr ob 64, oc) : zO) 1 ((2 ^ nu - 1) + 1)).2 (zall (zfr (zos (zff ro lo ks sl si we ki ap tg nu) co nb) ((zclr ob 64, oc) : zO) 1 ((2 ^ nu - 1) + 1)).1 (zfr (zos (zff ro lo ks sl si we ki ap tg nu) co nb) ((zclr ob 64, oc) : zO) 1 ((2 ^ nu - 1) + 1)).2 (2 ^ nu - 1) (zt0 lc fb fs)) (2 ^ nu - 1) (((2 ^ nu - 1), bn, us, 0, 0) : zX)).2.2.2.2 ((zall (zfr (zos (zff ro lo ks sl si we ki ap tg nu) co nb) ((zclr ob 64, oc) : zO) 1 ((2 ^ nu - 1) + 1)).1 (zfr (zos (zff ro lo ks sl si we ki ap tg nu) co nb) ((zclr ob 64, oc) : zO) 1 ((2 ^ nu - 1) + 1)).2 (2 ^ nu - 1) (zt0 lc fb fs)).1 (2 ^ nu - 1)).isSome ((zall (zfr (zos (zff ro lo ks sl si we ki ap tg nu) co nb) ((zclr ob 64, oc) : zO) 1 ((2 ^ nu - 1) + 1)).1 (zfr (zos (zff ro lo ks sl si we ki ap tg nu) co nb) ((zclr ob 64, oc) : zO) 1 ((2 ^ nu - 1) + 1)).2 (2 ^ nu - 1) (zt0 lc fb fs)).1 (2 ^ nu - 1)).isSome (zfr (zos (zff ro lo ks sl si we ki ap tg nu) co nb) ((zclr ob 64, oc) : zO) 1 ((2 ^ nu - 1) + 1)).1 (zfr (zos (zff ro lo ks sl si we ki ap tg nu) co nb) ((zclr ob 64, oc) : zO) 1 ((2 ^ nu - 1) + 1)).2 (zall (zfr (zos (zff ro lo ks sl si we ki ap tg nu) co nb) ((zclr ob 64, oc) : zO) 1 ((2 ^ nu - 1) + 1)).1 (zfr (zos (zff ro lo ks sl si we ki ap tg nu) co nb) ((zclr ob 64, oc) : zO) 1 ((2 ^ nu - 1) + 1)).2 (2 ^ nu - 1) (zt0 lc fb fs)).1 (zall (zfr (zos (zff ro lo ks sl si we ki ap tg nu) co nb) ((zclr ob 64, oc) : zO) 1 ((2 ^ nu - 1) + 1)).1 (zfr (zos (zff ro lo ks sl si we ki ap tg nu) co nb) ((zclr ob 64, oc) : zO) 1 ((2 ^ nu - 1) + 1)).2 (2 ^ nu - 1) (zt0 lc fb fs)).2.1 (zall (zfr (zos (zff ro lo ks sl si we ki ap tg nu) co nb) ((zclr ob 64, oc) : zO) 1 ((2 ^ nu - 1) + 1)).1 (zfr (zos (zff ro lo ks sl si we ki ap tg nu) co nb) ((zclr ob 64, oc) : zO) 1 ((2 ^ nu - 1) + 1)).2 (2 ^ nu - 1) (zt0 lc fb fs)).2.2)) 0 0 := by
  refine z_ofi (cc := cX4_choose) (maxL := 4) (ret := (some .int)) (by decide) rfl (Nat.le_of_ble_eq_true rfl) ?_
  intro p e s m below meth c A F hr hlk hnm
  refine z_iload_n F dX4_choose_0 rfl ?_
  refine z_iconst (v := 0) F dX4_choose_1 (by decide) ?_
  refine z_bipush (v := 6) F dX4_choose_2 (by decide) ?_
  refine z_callSv (w1 := []) (w3 := (wX ad cA ro lo co ks nb sl si we ki ap tg nu bn us nh ct mk ex ob oc lc fb fs)) F (c_X_range (nI most) 0 6 (zin (Nat.zero_le _) hm (by decide))) (zcwS F.2.2.2.2.1 kcX4_needRange kmX4_37 ktX4_needRange knX4 hdX4_needRange rfl rfl ⟨(Nat.le_of_ble_eq_true rfl), (Nat.le_of_ble_eq_true rfl)⟩) dX4_choose_4 rfl rfl rfl (Nat.le_of_ble_eq_true rfl) ⟨(Nat.le_of_ble_eq_true rfl), (Nat.le_of_ble_eq_true rfl)⟩ ?_
  rintro w2 rfl
  refine z_eq (ws2 := (wX ad cA ro lo co ks nb sl si we ki ap tg nu bn us nh ct mk ex ob oc lc fb fs)) rfl rfl rfl rfl ?_
  refine z_aload_n F dX4_choose_7 rfl ?_
  refine z_get (ci := 4) (C := RX4) (T := TX4) (N := 4) F 0 1 dX4_choose_8 inX4 kfX4_19 rfl rfl rfl (by decide) rfl ?_
  refine z_getN (ci := 3) (C := RX3) (T := TX3) (N := 6) F 6 5 dX4_choose_11 inX3 (nfX4_84 F.2.2.2.2.2.2.2.1) rfl rfl rfl (by decide) rfl ?_
  refine z_iload_n F dX4_choose_14 rfl ?_
  refine z_icmp_gt (tgt := 22) F dX4_choose_15 (by decide) (fun c15 => ?_) (fun c15 => ?_)
  · exact absurd ((nI_ltI (by omega) (by omega)).mp c15) (by omega)
  · refine z_iconst (v := 1) F dX4_choose_18 (by decide) ?_
    refine z_goto (tgt := 23) F dX4_choose_19 (by decide) ?_
    refine z_istore_n F dX4_choose_23 (by decide) ?_
    refine z_aload_n F dX4_choose_24 rfl ?_
    refine z_get (ci := 4) (C := RX4) (T := TX4) (N := 4) F 0 2 dX4_choose_25 inX4 kfX4_26 rfl rfl rfl (by decide) rfl ?_
    refine z_callVv (w1 := ((ad 0, .inr (4, [.ref (ad 1), .ref (ad 6), .ref (ad 12), .ref (ad 15)])) :: (wC (ad 1) (ad 2) (ad 3) (ad 4) (ad 5) cA ro lo co ks nb sl ++ wU (ad 6) (ad 7) (ad 8) (ad 9) (ad 10) (ad 11) cA si we ki ap tg nu))) (w3 := (wE (ad 15) (ad 16) (ad 17) (ad 18) (ad 19) (ad 20) cA ob oc lc fb fs)) F (c_H_clear) 0 rfl rfl (zcwV F.2.2.2.2.1 kcX1_clear kmX4_88 kiX1_clear ksX1_clear knX1 hdX1_clear rfl rfl ⟨(Nat.le_of_ble_eq_true rfl), (Nat.le_of_ble_eq_true rfl)⟩) dX4_choose_28 rfl rfl rfl (Nat.le_of_ble_eq_true rfl) ⟨(Nat.le_of_ble_eq_true rfl), (Nat.le_of_ble_eq_true rfl)⟩ ?_
    rintro w2 rfl
    refine z_eq (ws2 := (wX ad cA ro lo co ks nb sl si we ki ap tg nu bn us 0 0 false false ob oc lc fb fs)) rfl rfl rfl rfl ?_
    refine z_iload_n F dX4_choose_31 rfl ?_
    refine z_if_eq (tgt := 42) F dX4_choose_32 (by decide) (fun c32 => ?_) (fun c32 => ?_)
    · exact absurd c32 (by decide)
    · refine z_aload_n F dX4_choose_35 rfl ?_
      refine z_callVi0 F (c_X_putExactly (nh := 0) ok hu6 (by decide) oo1 oo2) 0 rfl rfl (zcwV F.2.2.2.2.1 kcX4_putExactly kmX4_91 kiX4_putExactly ksX4_putExactly knX4 hdX4_putExactly rfl rfl ⟨(Nat.le_of_ble_eq_true rfl), (Nat.le_of_ble_eq_true rfl)⟩) dX4_choose_36 rfl rfl (Nat.le_of_ble_eq_true rfl) ⟨(Nat.le_of_ble_eq_true rfl), (Nat.le_of_ble_eq_true rfl)⟩ ?_
      rintro r w2 ⟨rfl, rfl⟩
      refine z_eq (ws2 := (wX ad cA ro lo co ks nb sl si we ki ap tg nu (zpb (zfr (zos (zff ro lo ks sl si we ki ap tg nu) co nb) ((zclr ob 64, oc) : zO) 1 ((2 ^ nu - 1) + 1)).1 (zfr (zos (zff ro lo ks sl si we ki ap tg nu) co nb) ((zclr ob 64, oc) : zO) 1 ((2 ^ nu - 1) + 1)).2 (zall (zfr (zos (zff ro lo ks sl si we ki ap tg nu) co nb) ((zclr ob 64, oc) : zO) 1 ((2 ^ nu - 1) + 1)).1 (zfr (zos (zff ro lo ks sl si we ki ap tg nu) co nb) ((zclr ob 64, oc) : zO) 1 ((2 ^ nu - 1) + 1)).2 (2 ^ nu - 1) (zt0 lc fb fs)) (2 ^ nu - 1) (((2 ^ nu - 1), bn, us, 0, 0) : zX)).2.1 (zpb (zfr (zos (zff ro lo ks sl si we ki ap tg nu) co nb) ((zclr ob 64, oc) : zO) 1 ((2 ^ nu - 1) + 1)).1 (zfr (zos (zff ro lo ks sl si we ki ap tg nu) co nb) ((zclr ob 64, oc) : zO) 1 ((2 ^ nu - 1) + 1)).2 (zall (zfr (zos (zff ro lo ks sl si we ki ap tg nu) co nb) ((zclr ob 64, oc) : zO) 1 ((2 ^ nu - 1) + 1)).1 (zfr (zos (zff ro lo ks sl si we ki ap tg nu) co nb) ((zclr ob 64, oc) : zO) 1 ((2 ^ nu - 1) + 1)).2 (2 ^ nu - 1) (zt0 lc fb fs)) (2 ^ nu - 1) (((2 ^ nu - 1), bn, us, 0, 0) : zX)).2.2.1 (zpb (zfr (zos (zff ro lo ks sl si we ki ap tg nu) co nb) ((zclr ob 64, oc) : zO) 1 ((2 ^ nu - 1) + 1)).1 (zfr (zos (zff ro lo ks sl si we ki ap tg nu) co nb) ((zclr ob 64, oc) : zO) 1 ((2 ^ nu - 1) + 1)).2 (zall (zfr (zos (zff ro lo ks sl si we ki ap tg nu) co nb) ((zclr ob 64, oc) : zO) 1 ((2 ^ nu - 1) + 1)).1 (zfr (zos (zff ro lo ks sl si we ki ap tg nu) co nb) ((zclr ob 64, oc) : zO) 1 ((2 ^ nu - 1) + 1)).2 (2 ^ nu - 1) (zt0 lc fb fs)) (2 ^ nu - 1) (((2 ^ nu - 1), bn, us, 0, 0) : zX)).2.2.2.1 (zpb (zfr (zos (zff ro lo ks sl si we ki ap tg nu) co nb) ((zclr ob 64, oc) : zO) 1 ((2 ^ nu - 1) + 1)).1 (zfr (zos (zff ro lo ks sl si we ki ap tg nu) co nb) ((zclr ob 64, oc) : zO) 1 ((2 ^ nu - 1) + 1)).2 (zall (zfr (zos (zff ro lo ks sl si we ki ap tg nu) co nb) ((zclr ob 64, oc) : zO) 1 ((2 ^ nu - 1) + 1)).1 (zfr (zos (zff ro lo ks sl si we ki ap tg nu) co nb) ((zclr ob 64, oc) : zO) 1 ((2 ^ nu - 1) + 1)).2 (2 ^ nu - 1) (zt0 lc fb fs)) (2 ^ nu - 1) (((2 ^ nu - 1), bn, us, 0, 0) : zX)).2.2.2.2 false false (zfr (zos (zff ro lo ks sl si we ki ap tg nu) co nb) ((zclr ob 64, oc) : zO) 1 ((2 ^ nu - 1) + 1)).1 (zfr (zos (zff ro lo ks sl si we ki ap tg nu) co nb) ((zclr ob 64, oc) : zO) 1 ((2 ^ nu - 1) + 1)).2 (zall (zfr (zos (zff ro lo ks sl si we ki ap tg nu) co nb) ((zclr ob 64, oc) : zO) 1 ((2 ^ nu - 1) + 1)).1 (zfr (zos (zff ro lo ks sl si we ki ap tg nu) co nb) ((zclr ob 64, oc) : zO) 1 ((2 ^ nu - 1) + 1)).2 (2 ^ nu - 1) (zt0 lc fb fs)).1 (zall (zfr (zos (zff ro lo ks sl si we ki ap tg nu) co nb) ((zclr ob 64, oc) : zO) 1 ((2 ^ nu - 1) + 1)).1 (zfr (zos (zff ro lo ks sl si we ki ap tg nu) co nb) ((zclr ob 64, oc) : zO) 1 ((2 ^ nu - 1) + 1)).2 (2 ^ nu - 1) (zt0 lc fb fs)).2.1 (zall (zfr (zos (zff ro lo ks sl si we ki ap tg nu) co nb) ((zclr ob 64, oc) : zO) 1 ((2 ^ nu - 1) + 1)).1 (zfr (zos (zff ro lo ks sl si we ki ap tg nu) co nb) ((zclr ob 64, oc) : zO) 1 ((2 ^ nu - 1) + 1)).2 (2 ^ nu - 1) (zt0 lc fb fs)).2.2)) rfl rfl rfl rfl ?_
      refine z_goto (tgt := 46) F dX4_choose_39 (by decide) ?_
      refine z_istore_n F dX4_choose_46 (by decide) ?_
      refine z_iload_n F dX4_choose_47 rfl ?_
      refine z_if_ne (tgt := 60) F dX4_choose_48 (by decide) (fun c48 => ?_) (fun c48 => ?_)
      · have hs := zB_1.mp c48
        refine z_aload_n F dX4_choose_60 rfl ?_
        refine z_get (ci := 4) (C := RX4) (T := TX4) (N := 4) F 0 2 dX4_choose_61 inX4 kfX4_26 rfl rfl rfl (by decide) rfl ?_
        refine z_iload_n F dX4_choose_64 rfl ?_
        refine z_callVv (w1 := ((ad 0, .inr (4, [.ref (ad 1), .ref (ad 6), .ref (ad 12), .ref (ad 15)])) :: (wC (ad 1) (ad 2) (ad 3) (ad 4) (ad 5) cA ro lo co ks nb sl ++ wU (ad 6) (ad 7) (ad 8) (ad 9) (ad 10) (ad 11) cA si we ki ap tg nu))) (w3 := (wE (ad 15) (ad 16) (ad 17) (ad 18) (ad 19) (ad 20) cA (zfr (zos (zff ro lo ks sl si we ki ap tg nu) co nb) ((zclr ob 64, oc) : zO) 1 ((2 ^ nu - 1) + 1)).1 (zfr (zos (zff ro lo ks sl si we ki ap tg nu) co nb) ((zclr ob 64, oc) : zO) 1 ((2 ^ nu - 1) + 1)).2 (zall (zfr (zos (zff ro lo ks sl si we ki ap tg nu) co nb) ((zclr ob 64, oc) : zO) 1 ((2 ^ nu - 1) + 1)).1 (zfr (zos (zff ro lo ks sl si we ki ap tg nu) co nb) ((zclr ob 64, oc) : zO) 1 ((2 ^ nu - 1) + 1)).2 (2 ^ nu - 1) (zt0 lc fb fs)).1 (zall (zfr (zos (zff ro lo ks sl si we ki ap tg nu) co nb) ((zclr ob 64, oc) : zO) 1 ((2 ^ nu - 1) + 1)).1 (zfr (zos (zff ro lo ks sl si we ki ap tg nu) co nb) ((zclr ob 64, oc) : zO) 1 ((2 ^ nu - 1) + 1)).2 (2 ^ nu - 1) (zt0 lc fb fs)).2.1 (zall (zfr (zos (zff ro lo ks sl si we ki ap tg nu) co nb) ((zclr ob 64, oc) : zO) 1 ((2 ^ nu - 1) + 1)).1 (zfr (zos (zff ro lo ks sl si we ki ap tg nu) co nb) ((zclr ob 64, oc) : zO) 1 ((2 ^ nu - 1) + 1)).2 (2 ^ nu - 1) (zt0 lc fb fs)).2.2)) F (c_H_finish true) 0 rfl rfl (zcwV F.2.2.2.2.1 kcX1_finish kmX4_97 kiX1_finish ksX1_finish knX1 hdX1_finish rfl rfl ⟨(Nat.le_of_ble_eq_true rfl), (Nat.le_of_ble_eq_true rfl)⟩) dX4_choose_65 rfl rfl rfl (Nat.le_of_ble_eq_true rfl) ⟨(Nat.le_of_ble_eq_true rfl), (Nat.le_of_ble_eq_true rfl)⟩ ?_
        rintro w2 rfl
        refine z_eq (ws2 := (wX ad cA ro lo co ks nb sl si we ki ap tg nu (zpb (zfr (zos (zff ro lo ks sl si we ki ap tg nu) co nb) ((zclr ob 64, oc) : zO) 1 ((2 ^ nu - 1) + 1)).1 (zfr (zos (zff ro lo ks sl si we ki ap tg nu) co nb) ((zclr ob 64, oc) : zO) 1 ((2 ^ nu - 1) + 1)).2 (zall (zfr (zos (zff ro lo ks sl si we ki ap tg nu) co nb) ((zclr ob 64, oc) : zO) 1 ((2 ^ nu - 1) + 1)).1 (zfr (zos (zff ro lo ks sl si we ki ap tg nu) co nb) ((zclr ob 64, oc) : zO) 1 ((2 ^ nu - 1) + 1)).2 (2 ^ nu - 1) (zt0 lc fb fs)) (2 ^ nu - 1) (((2 ^ nu - 1), bn, us, 0, 0) : zX)).2.1 (zpb (zfr (zos (zff ro lo ks sl si we ki ap tg nu) co nb) ((zclr ob 64, oc) : zO) 1 ((2 ^ nu - 1) + 1)).1 (zfr (zos (zff ro lo ks sl si we ki ap tg nu) co nb) ((zclr ob 64, oc) : zO) 1 ((2 ^ nu - 1) + 1)).2 (zall (zfr (zos (zff ro lo ks sl si we ki ap tg nu) co nb) ((zclr ob 64, oc) : zO) 1 ((2 ^ nu - 1) + 1)).1 (zfr (zos (zff ro lo ks sl si we ki ap tg nu) co nb) ((zclr ob 64, oc) : zO) 1 ((2 ^ nu - 1) + 1)).2 (2 ^ nu - 1) (zt0 lc fb fs)) (2 ^ nu - 1) (((2 ^ nu - 1), bn, us, 0, 0) : zX)).2.2.1 (zpb (zfr (zos (zff ro lo ks sl si we ki ap tg nu) co nb) ((zclr ob 64, oc) : zO) 1 ((2 ^ nu - 1) + 1)).1 (zfr (zos (zff ro lo ks sl si we ki ap tg nu) co nb) ((zclr ob 64, oc) : zO) 1 ((2 ^ nu - 1) + 1)).2 (zall (zfr (zos (zff ro lo ks sl si we ki ap tg nu) co nb) ((zclr ob 64, oc) : zO) 1 ((2 ^ nu - 1) + 1)).1 (zfr (zos (zff ro lo ks sl si we ki ap tg nu) co nb) ((zclr ob 64, oc) : zO) 1 ((2 ^ nu - 1) + 1)).2 (2 ^ nu - 1) (zt0 lc fb fs)) (2 ^ nu - 1) (((2 ^ nu - 1), bn, us, 0, 0) : zX)).2.2.2.1 (zpb (zfr (zos (zff ro lo ks sl si we ki ap tg nu) co nb) ((zclr ob 64, oc) : zO) 1 ((2 ^ nu - 1) + 1)).1 (zfr (zos (zff ro lo ks sl si we ki ap tg nu) co nb) ((zclr ob 64, oc) : zO) 1 ((2 ^ nu - 1) + 1)).2 (zall (zfr (zos (zff ro lo ks sl si we ki ap tg nu) co nb) ((zclr ob 64, oc) : zO) 1 ((2 ^ nu - 1) + 1)).1 (zfr (zos (zff ro lo ks sl si we ki ap tg nu) co nb) ((zclr ob 64, oc) : zO) 1 ((2 ^ nu - 1) + 1)).2 (2 ^ nu - 1) (zt0 lc fb fs)) (2 ^ nu - 1) (((2 ^ nu - 1), bn, us, 0, 0) : zX)).2.2.2.2 true true (zfr (zos (zff ro lo ks sl si we ki ap tg nu) co nb) ((zclr ob 64, oc) : zO) 1 ((2 ^ nu - 1) + 1)).1 (zfr (zos (zff ro lo ks sl si we ki ap tg nu) co nb) ((zclr ob 64, oc) : zO) 1 ((2 ^ nu - 1) + 1)).2 (zall (zfr (zos (zff ro lo ks sl si we ki ap tg nu) co nb) ((zclr ob 64, oc) : zO) 1 ((2 ^ nu - 1) + 1)).1 (zfr (zos (zff ro lo ks sl si we ki ap tg nu) co nb) ((zclr ob 64, oc) : zO) 1 ((2 ^ nu - 1) + 1)).2 (2 ^ nu - 1) (zt0 lc fb fs)).1 (zall (zfr (zos (zff ro lo ks sl si we ki ap tg nu) co nb) ((zclr ob 64, oc) : zO) 1 ((2 ^ nu - 1) + 1)).1 (zfr (zos (zff ro lo ks sl si we ki ap tg nu) co nb) ((zclr ob 64, oc) : zO) 1 ((2 ^ nu - 1) + 1)).2 (2 ^ nu - 1) (zt0 lc fb fs)).2.1 (zall (zfr (zos (zff ro lo ks sl si we ki ap tg nu) co nb) ((zclr ob 64, oc) : zO) 1 ((2 ^ nu - 1) + 1)).1 (zfr (zos (zff ro lo ks sl si we ki ap tg nu) co nb) ((zclr ob 64, oc) : zO) 1 ((2 ^ nu - 1) + 1)).2 (2 ^ nu - 1) (zt0 lc fb fs)).2.2)) rfl rfl rfl rfl ?_
        refine z_aload_n F dX4_choose_68 rfl ?_
        refine z_get (ci := 4) (C := RX4) (T := TX4) (N := 4) F 0 2 dX4_choose_69 inX4 kfX4_26 rfl rfl rfl (by decide) rfl ?_
        refine z_getN (ci := 1) (C := RX1) (T := TX1) (N := 6) F 12 3 dX4_choose_72 inX1 (nfX4_101 F.2.2.2.2.2.2.2.1) rfl rfl rfl (by decide) rfl ?_
        exact z_iret F hr rfl hlk dX4_choose_75 ⟨by rw [hs]; rfl, by rw [hs]⟩ (Nat.le_of_ble_eq_true rfl) (Nat.le_of_ble_eq_true rfl)
      · have hs := zB_0.mp c48
        refine z_aload_n F dX4_choose_51 rfl ?_
        refine z_get (ci := 4) (C := RX4) (T := TX4) (N := 4) F 0 2 dX4_choose_52 inX4 kfX4_26 rfl rfl rfl (by decide) rfl ?_
        refine z_callVv (w1 := ((ad 0, .inr (4, [.ref (ad 1), .ref (ad 6), .ref (ad 12), .ref (ad 15)])) :: (wC (ad 1) (ad 2) (ad 3) (ad 4) (ad 5) cA ro lo co ks nb sl ++ wU (ad 6) (ad 7) (ad 8) (ad 9) (ad 10) (ad 11) cA si we ki ap tg nu))) (w3 := (wE (ad 15) (ad 16) (ad 17) (ad 18) (ad 19) (ad 20) cA (zfr (zos (zff ro lo ks sl si we ki ap tg nu) co nb) ((zclr ob 64, oc) : zO) 1 ((2 ^ nu - 1) + 1)).1 (zfr (zos (zff ro lo ks sl si we ki ap tg nu) co nb) ((zclr ob 64, oc) : zO) 1 ((2 ^ nu - 1) + 1)).2 (zall (zfr (zos (zff ro lo ks sl si we ki ap tg nu) co nb) ((zclr ob 64, oc) : zO) 1 ((2 ^ nu - 1) + 1)).1 (zfr (zos (zff ro lo ks sl si we ki ap tg nu) co nb) ((zclr ob 64, oc) : zO) 1 ((2 ^ nu - 1) + 1)).2 (2 ^ nu - 1) (zt0 lc fb fs)).1 (zall (zfr (zos (zff ro lo ks sl si we ki ap tg nu) co nb) ((zclr ob 64, oc) : zO) 1 ((2 ^ nu - 1) + 1)).1 (zfr (zos (zff ro lo ks sl si we ki ap tg nu) co nb) ((zclr ob 64, oc) : zO) 1 ((2 ^ nu - 1) + 1)).2 (2 ^ nu - 1) (zt0 lc fb fs)).2.1 (zall (zfr (zos (zff ro lo ks sl si we ki ap tg nu) co nb) ((zclr ob 64, oc) : zO) 1 ((2 ^ nu - 1) + 1)).1 (zfr (zos (zff ro lo ks sl si we ki ap tg nu) co nb) ((zclr ob 64, oc) : zO) 1 ((2 ^ nu - 1) + 1)).2 (2 ^ nu - 1) (zt0 lc fb fs)).2.2)) F (c_H_clear) 0 rfl rfl (zcwV F.2.2.2.2.1 kcX1_clear kmX4_88 kiX1_clear ksX1_clear knX1 hdX1_clear rfl rfl ⟨(Nat.le_of_ble_eq_true rfl), (Nat.le_of_ble_eq_true rfl)⟩) dX4_choose_55 rfl rfl rfl (Nat.le_of_ble_eq_true rfl) ⟨(Nat.le_of_ble_eq_true rfl), (Nat.le_of_ble_eq_true rfl)⟩ ?_
        rintro w2 rfl
        refine z_iconst (v := (-1)) F dX4_choose_58 (by decide) ?_
        exact z_iret F hr rfl hlk dX4_choose_59 ⟨by rw [hs]; rfl, by unfold zpb; rw [hs]; rfl⟩ (Nat.le_of_ble_eq_true rfl) (Nat.le_of_ble_eq_true rfl)

set_option maxHeartbeats 4000000 in
set_option maxRecDepth 100000 in
/-- choose, by rule -/
theorem c_choose_r {l : Launch} {D : va_G} {tys : List (ClassId × FieldType)} {ad : Nat → Nat} {cA : ClassId} {ro lo co ks : Nat → Nat} {nb sl : Nat} {si we ki ap tg : Nat → Nat} {nu : Nat} {bn us : Nat → Nat} {nh ct : Nat} {mk ex : Bool} {ob : Nat → Option Nat} {oc : Nat → Nat} {lc : Nat → Option Nat} {fb fs : Nat → Nat} (ok : zok ro lo co ks nb sl si we ki ap tg nu) (hh1 : ∀ i, bn i < 6) (hh2 : ∀ i, us i < 256) (most : Nat) (hm : most ≤ 6) (hnm1 : most < nu) : zMi l yX4_choose (zws yX4_choose cX4_choose 4 (some .int)) { frames := 7, cells := 0, slots := 0, locals := 154 } D zcl ((cA, .int) :: tys) zG [.ref (ad 0), .int (nI most)] (wX ad cA ro lo co ks nb sl si we ki ap tg nu bn us nh ct mk ex ob oc lc fb fs) (fun r w2 => r = zo (bif (zbr (zff ro lo ks sl si we ki ap tg nu) co nb (fun u => zco tg nu u nu) ((bn, us, 0, 0) : zCh) nu).1 then some (zbr (zff ro lo ks sl si we ki ap tg nu) co nb (fun u => zco tg nu u nu) ((bn, us, 0, 0) : zCh) nu).2.2.2.2.2 else none) ∧ w2 = (wX ad cA ro lo co ks nb sl si we ki ap tg nu (zbr (zff ro lo ks sl si we ki ap tg nu) co nb (fun u => zco tg nu u nu) ((bn, us, 0, 0) : zCh) nu).2.2.1 (zbr (zff ro lo ks sl si we ki ap tg nu) co nb (fun u => zco tg nu u nu) ((bn, us, 0, 0) : zCh) nu).2.2.2.1 (bif (zbr (zff ro lo ks sl si we ki ap tg nu) co nb (fun u => zco tg nu u nu) ((bn, us, 0, 0) : zCh) nu).1 then (zbr (zff ro lo ks sl si we ki ap tg nu) co nb (fun u => zco tg nu u nu) ((bn, us, 0, 0) : zCh) nu).2.2.2.2.1 else 0) (bif (zbr (zff ro lo ks sl si we ki ap tg nu) co nb (fun u => zco tg nu u nu) ((bn, us, 0, 0) : zCh) nu).1 then (zbr (zff ro lo ks sl si we ki ap tg nu) co nb (fun u => zco tg nu u nu) ((bn, us, 0, 0) : zCh) nu).2.2.2.2.2 else 0) (zbr (zff ro lo ks sl si we ki ap tg nu) co nb (fun u => zco tg nu u nu) ((bn, us, 0, 0) : zCh) nu).1 false ob oc lc fb fs)) 0 0 := by
  refine z_ofi (cc := cX4_choose) (maxL := 4) (ret := (some .int)) (by decide) rfl (Nat.le_of_ble_eq_true rfl) ?_
  intro p e s m below meth c A F hr hlk hnm
  obtain ⟨o1, o2, o3, o4, o5, o6, o7, o8, o9, o10, o11, o12⟩ := id ok
  refine z_iload_n F dX4_choose_0 rfl ?_
  refine z_iconst (v := 0) F dX4_choose_1 (by decide) ?_
  refine z_bipush (v := 6) F dX4_choose_2 (by decide) ?_
  refine z_callSv (w1 := []) (w3 := (wX ad cA ro lo co ks nb sl si we ki ap tg nu bn us nh ct mk ex ob oc lc fb fs)) F (c_X_range (nI most) 0 6 (zin (Nat.zero_le _) hm (by decide))) (zcwS F.2.2.2.2.1 kcX4_needRange kmX4_37 ktX4_needRange knX4 hdX4_needRange rfl rfl ⟨(Nat.le_of_ble_eq_true rfl), (Nat.le_of_ble_eq_true rfl)⟩) dX4_choose_4 rfl rfl rfl (Nat.le_of_ble_eq_true rfl) ⟨(Nat.le_of_ble_eq_true rfl), (Nat.le_of_ble_eq_true rfl)⟩ ?_
  rintro w2 rfl
  refine z_eq (ws2 := (wX ad cA ro lo co ks nb sl si we ki ap tg nu bn us nh ct mk ex ob oc lc fb fs)) rfl rfl rfl rfl ?_
  refine z_aload_n F dX4_choose_7 rfl ?_
  refine z_get (ci := 4) (C := RX4) (T := TX4) (N := 4) F 0 1 dX4_choose_8 inX4 kfX4_19 rfl rfl rfl (by decide) rfl ?_
  refine z_getN (ci := 3) (C := RX3) (T := TX3) (N := 6) F 6 5 dX4_choose_11 inX3 (nfX4_84 F.2.2.2.2.2.2.2.1) rfl rfl rfl (by decide) rfl ?_
  refine z_iload_n F dX4_choose_14 rfl ?_
  refine z_icmp_gt (tgt := 22) F dX4_choose_15 (by decide) (fun c15 => ?_) (fun c15 => ?_)
  · refine z_iconst (v := 0) F dX4_choose_22 (by decide) ?_
    refine z_istore_n F dX4_choose_23 (by decide) ?_
    refine z_aload_n F dX4_choose_24 rfl ?_
    refine z_get (ci := 4) (C := RX4) (T := TX4) (N := 4) F 0 2 dX4_choose_25 inX4 kfX4_26 rfl rfl rfl (by decide) rfl ?_
    refine z_callVv (w1 := ((ad 0, .inr (4, [.ref (ad 1), .ref (ad 6), .ref (ad 12), .ref (ad 15)])) :: (wC (ad 1) (ad 2) (ad 3) (ad 4) (ad 5) cA ro lo co ks nb sl ++ wU (ad 6) (ad 7) (ad 8) (ad 9) (ad 10) (ad 11) cA si we ki ap tg nu))) (w3 := (wE (ad 15) (ad 16) (ad 17) (ad 18) (ad 19) (ad 20) cA ob oc lc fb fs)) F (c_H_clear) 0 rfl rfl (zcwV F.2.2.2.2.1 kcX1_clear kmX4_88 kiX1_clear ksX1_clear knX1 hdX1_clear rfl rfl ⟨(Nat.le_of_ble_eq_true rfl), (Nat.le_of_ble_eq_true rfl)⟩) dX4_choose_28 rfl rfl rfl (Nat.le_of_ble_eq_true rfl) ⟨(Nat.le_of_ble_eq_true rfl), (Nat.le_of_ble_eq_true rfl)⟩ ?_
    rintro w2 rfl
    refine z_eq (ws2 := (wX ad cA ro lo co ks nb sl si we ki ap tg nu bn us 0 0 false false ob oc lc fb fs)) rfl rfl rfl rfl ?_
    refine z_iload_n F dX4_choose_31 rfl ?_
    refine z_if_eq (tgt := 42) F dX4_choose_32 (by decide) (fun c32 => ?_) (fun c32 => ?_)
    · refine z_aload_n F dX4_choose_42 rfl ?_
      refine z_callVi0 F (c_X_putByRule (nh := 0) (ct := 0) ok ⟨Nat.zero_le _, hh1, hh2⟩ rfl) 0 rfl rfl (zcwV F.2.2.2.2.1 kcX4_putByRule kmX4_94 kiX4_putByRule ksX4_putByRule knX4 hdX4_putByRule rfl rfl ⟨(Nat.le_of_ble_eq_true rfl), (Nat.le_of_ble_eq_true rfl)⟩) dX4_choose_43 rfl rfl (Nat.le_of_ble_eq_true rfl) ⟨(Nat.le_of_ble_eq_true rfl), (Nat.le_of_ble_eq_true rfl)⟩ ?_
      rintro r w2 ⟨rfl, rfl⟩
      refine z_eq (ws2 := (wX ad cA ro lo co ks nb sl si we ki ap tg nu (zbr (zff ro lo ks sl si we ki ap tg nu) co nb (fun u => zco tg nu u nu) ((bn, us, 0, 0) : zCh) nu).2.2.1 (zbr (zff ro lo ks sl si we ki ap tg nu) co nb (fun u => zco tg nu u nu) ((bn, us, 0, 0) : zCh) nu).2.2.2.1 (zbr (zff ro lo ks sl si we ki ap tg nu) co nb (fun u => zco tg nu u nu) ((bn, us, 0, 0) : zCh) nu).2.2.2.2.1 (zbr (zff ro lo ks sl si we ki ap tg nu) co nb (fun u => zco tg nu u nu) ((bn, us, 0, 0) : zCh) nu).2.2.2.2.2 false false ob oc lc fb fs)) rfl rfl rfl rfl ?_
      refine z_istore_n F dX4_choose_46 (by decide) ?_
      refine z_iload_n F dX4_choose_47 rfl ?_
      refine z_if_ne (tgt := 60) F dX4_choose_48 (by decide) (fun c48 => ?_) (fun c48 => ?_)
      · have hs := zB_1.mp c48
        refine z_aload_n F dX4_choose_60 rfl ?_
        refine z_get (ci := 4) (C := RX4) (T := TX4) (N := 4) F 0 2 dX4_choose_61 inX4 kfX4_26 rfl rfl rfl (by decide) rfl ?_
        refine z_iload_n F dX4_choose_64 rfl ?_
        refine z_callVv (w1 := ((ad 0, .inr (4, [.ref (ad 1), .ref (ad 6), .ref (ad 12), .ref (ad 15)])) :: (wC (ad 1) (ad 2) (ad 3) (ad 4) (ad 5) cA ro lo co ks nb sl ++ wU (ad 6) (ad 7) (ad 8) (ad 9) (ad 10) (ad 11) cA si we ki ap tg nu))) (w3 := (wE (ad 15) (ad 16) (ad 17) (ad 18) (ad 19) (ad 20) cA ob oc lc fb fs)) F (c_H_finish false) 0 rfl rfl (zcwV F.2.2.2.2.1 kcX1_finish kmX4_97 kiX1_finish ksX1_finish knX1 hdX1_finish rfl rfl ⟨(Nat.le_of_ble_eq_true rfl), (Nat.le_of_ble_eq_true rfl)⟩) dX4_choose_65 rfl rfl rfl (Nat.le_of_ble_eq_true rfl) ⟨(Nat.le_of_ble_eq_true rfl), (Nat.le_of_ble_eq_true rfl)⟩ ?_
        rintro w2 rfl
        refine z_eq (ws2 := (wX ad cA ro lo co ks nb sl si we ki ap tg nu (zbr (zff ro lo ks sl si we ki ap tg nu) co nb (fun u => zco tg nu u nu) ((bn, us, 0, 0) : zCh) nu).2.2.1 (zbr (zff ro lo ks sl si we ki ap tg nu) co nb (fun u => zco tg nu u nu) ((bn, us, 0, 0) : zCh) nu).2.2.2.1 (zbr (zff ro lo ks sl si we ki ap tg nu) co nb (fun u => zco tg nu u nu) ((bn, us, 0, 0) : zCh) nu).2.2.2.2.1 (zbr (zff ro lo ks sl si we ki ap tg nu) co nb (fun u => zco tg nu u nu) ((bn, us, 0, 0) : zCh) nu).2.2.2.2.2 true false ob oc lc fb fs)) rfl rfl rfl rfl ?_
        refine z_aload_n F dX4_choose_68 rfl ?_
        refine z_get (ci := 4) (C := RX4) (T := TX4) (N := 4) F 0 2 dX4_choose_69 inX4 kfX4_26 rfl rfl rfl (by decide) rfl ?_
        refine z_getN (ci := 1) (C := RX1) (T := TX1) (N := 6) F 12 3 dX4_choose_72 inX1 (nfX4_101 F.2.2.2.2.2.2.2.1) rfl rfl rfl (by decide) rfl ?_
        exact z_iret F hr rfl hlk dX4_choose_75 ⟨by rw [hs]; rfl, by rw [hs]; rfl⟩ (Nat.le_of_ble_eq_true rfl) (Nat.le_of_ble_eq_true rfl)
      · have hs := zB_0.mp c48
        refine z_aload_n F dX4_choose_51 rfl ?_
        refine z_get (ci := 4) (C := RX4) (T := TX4) (N := 4) F 0 2 dX4_choose_52 inX4 kfX4_26 rfl rfl rfl (by decide) rfl ?_
        refine z_callVv (w1 := ((ad 0, .inr (4, [.ref (ad 1), .ref (ad 6), .ref (ad 12), .ref (ad 15)])) :: (wC (ad 1) (ad 2) (ad 3) (ad 4) (ad 5) cA ro lo co ks nb sl ++ wU (ad 6) (ad 7) (ad 8) (ad 9) (ad 10) (ad 11) cA si we ki ap tg nu))) (w3 := (wE (ad 15) (ad 16) (ad 17) (ad 18) (ad 19) (ad 20) cA ob oc lc fb fs)) F (c_H_clear) 0 rfl rfl (zcwV F.2.2.2.2.1 kcX1_clear kmX4_88 kiX1_clear ksX1_clear knX1 hdX1_clear rfl rfl ⟨(Nat.le_of_ble_eq_true rfl), (Nat.le_of_ble_eq_true rfl)⟩) dX4_choose_55 rfl rfl rfl (Nat.le_of_ble_eq_true rfl) ⟨(Nat.le_of_ble_eq_true rfl), (Nat.le_of_ble_eq_true rfl)⟩ ?_
        rintro w2 rfl
        refine z_iconst (v := (-1)) F dX4_choose_58 (by decide) ?_
        exact z_iret F hr rfl hlk dX4_choose_59 ⟨by rw [hs]; rfl, by rw [hs]; rfl⟩ (Nat.le_of_ble_eq_true rfl) (Nat.le_of_ble_eq_true rfl)
    · exact absurd rfl c32
  · exact absurd ((nI_ltI (by omega) (by omega)).mpr (by omega)) c15
