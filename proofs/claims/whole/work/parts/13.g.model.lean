set_option maxHeartbeats 4000000 in
set_option maxRecDepth 100000 in
theorem c_M_next {l : Launch} {D : va_G} {tys : List (ClassId × FieldType)} {am : Nat → Nat} {cA : ClassId} {cd nb : Nat} {ro lo co ks : Nat → Nat} {nu : Nat} {si we ki hw : Nat → Nat} {sl : Nat} {ch : Option Nat} {em : Bool} {bx : Nat → Option Nat} {sx : Nat → Nat} {cn : Nat} {nx : Nat → Option Nat} {ns pt : Nat → Nat} (hn : nu ≤ 8) (hpt : ∀ k, pt k < 9) : zMi l yX5_next (zws yX5_next cX5_next 4 (some .boolean)) { frames := 0, cells := 0, slots := 0, locals := 0 } D zcl ((cA, .int) :: tys) zG [.ref (am 0)] (wM am cA cd nb ro lo co ks nu si we ki hw sl ch em bx sx cn nx ns pt) (fun r w2 => r = zB (zns pt nu (nu - 1)).isSome ∧ w2 = (wM am cA cd nb ro lo co ks nu si we ki hw sl ch em bx sx cn nx ns ((zns pt nu (nu - 1)).getD pt))) 0 0 := by
  refine z_ofi (cc := cX5_next) (maxL := 4) (ret := (some .boolean)) (by decide) rfl (Nat.le_of_ble_eq_true rfl) ?_
  intro p e s m below meth c A F hr hlk hnm
  rcases Nat.eq_zero_or_pos nu with hz | hn0
  · subst hz
    refine z_aload_n F dX5_next_0 rfl ?_
    refine z_get (ci := 5) (C := RX5) (T := TX5) (N := 20) F 0 6 dX5_next_1 inX5 kfX5_63 rfl rfl rfl (by decide) rfl ?_
    refine z_iconst (v := 1) F dX5_next_4 (by decide) ?_
    refine z_isub F dX5_next_5 ?_
    refine z_istore_n F dX5_next_6 (by decide) ?_
    refine z_iload_n F dX5_next_7 rfl ?_
    refine z_if_le (tgt := 100) F dX5_next_8 (by decide) (fun c8 => ?_) (fun c8 => ?_)
    · refine z_iconst (v := 0) F dX5_next_100 (by decide) ?_
      exact z_iret F hr rfl hlk dX5_next_101 ⟨rfl, rfl⟩ (Nat.le_of_ble_eq_true rfl) (Nat.le_of_ble_eq_true rfl)
    · exact absurd (by decide) c8
  · have loop : ∀ (v : Nat), v < nu → zns pt nu v = (zns pt nu (nu - 1)) → zW p l e (headSpec (zws yX5_next cX5_next 4 (some .boolean)) { frames := 0, cells := 0, slots := 0, locals := 0 }).room s m [.ref (am 0)].toArray below meth c 4 D zcl A 0 0 (MQ below (va_Qi (fun r w2 => r = zB (zns pt nu (nu - 1)).isSome ∧ w2 = (wM am cA cd nb ro lo co ks nu si we ki hw sl ch em bx sx cn nx ns ((zns pt nu (nu - 1)).getD pt))) (zEnd D zcl A) A) [.ref (am 0)].toArray s 0 0 A) (wM am cA cd nb ro lo co ks nu si we ki hw sl ch em bx sx cn nx ns pt) [(0, .ref (am 0)), (1, .int (nI v))] 7 [] := by
      intro v
      induction v with
      | zero =>
        intro hv hg
        refine z_iload_n F dX5_next_7 rfl ?_
        refine z_if_le (tgt := 100) F dX5_next_8 (by decide) (fun c8 => ?_) (fun c8 => ?_)
        · refine z_iconst (v := 0) F dX5_next_100 (by decide) ?_
          exact z_iret F hr rfl hlk dX5_next_101 ⟨by rw [← hg]; rfl, by rw [← hg]; rfl⟩ (Nat.le_of_ble_eq_true rfl) (Nat.le_of_ble_eq_true rfl)
        · exact absurd (by decide) c8
      | succ v ih =>
        intro hv hg
        refine z_iload_n F dX5_next_7 rfl ?_
        refine z_if_le (tgt := 100) F dX5_next_8 (by decide) (fun c8 => ?_) (fun c8 => ?_)
        · exact absurd c8 (nI_nle (by omega) (by omega))
        · refine z_iconst (v := 0) F dX5_next_11 (by decide) ?_
          refine z_istore_n F dX5_next_12 (by decide) ?_
          refine z_iconst (v := 0) F dX5_next_13 (by decide) ?_
          refine z_istore_n F dX5_next_14 (by decide) ?_
          have inner : ∀ (n2 k : Nat), k ≤ v + 1 → v + 2 ≤ k + n2 → zW p l e (headSpec (zws yX5_next cX5_next 4 (some .boolean)) { frames := 0, cells := 0, slots := 0, locals := 0 }).room s m [.ref (am 0)].toArray below meth c 4 D zcl A 0 0 (MQ below (va_Qi (fun r w2 => r = zB (zns pt nu (nu - 1)).isSome ∧ w2 = (wM am cA cd nb ro lo co ks nu si we ki hw sl ch em bx sx cn nx ns ((zns pt nu (nu - 1)).getD pt))) (zEnd D zcl A) A) [.ref (am 0)].toArray s 0 0 A) (wM am cA cd nb ro lo co ks nu si we ki hw sl ch em bx sx cn nx ns pt) [(0, .ref (am 0)), (1, .int (nI (v + 1))), (2, .int (nI (zmx pt k))), (3, .int (nI k))] 15 [] := by
            intro n2
            induction n2 with
            | zero => intro k h1 h2; omega
            | succ n2 ih2 =>
              intro k hk1 hk2
              refine z_iload_n F dX5_next_15 rfl ?_
              refine z_iload_n F dX5_next_16 rfl ?_
              refine z_icmp_ge (tgt := 47) F dX5_next_17 (by decide) (fun c17 => ?_) (fun c17 => ?_)
              · have ek := zge_end hk1 (by omega) c17
                rw [ek]
                refine z_aload_n F dX5_next_47 rfl ?_
                refine z_get (ci := 5) (C := RX5) (T := TX5) (N := 20) F 0 19 dX5_next_48 inX5 kfX5_50 rfl rfl rfl (by decide) rfl ?_
                refine z_iload_n F dX5_next_51 rfl ?_
                refine z_ialdN F 13 0 dX5_next_52 rfl rfl rfl (by omega) (by decide) ?_
                refine z_iload_n F dX5_next_53 rfl ?_
                refine z_icmp_gt (tgt := 94) F dX5_next_54 (by decide) (fun c54 => ?_) (fun c54 => ?_)
                · have n54 : ¬ pt (v + 1) ≤ zmx pt (v + 1) := fun q => zlt_nge c54 ((nI_leI (by have := hpt (v + 1); omega) (by have := zmx_lt (M := 9) (by decide) hpt (v + 1); omega)).mpr q)
                  refine z_iinc (v := nI v) F dX5_next_94 rfl (pk_m1 v) (by decide) ?_
                  refine z_goto (tgt := 7) F dX5_next_97 (by decide) ?_
                  exact z_lv rfl (ih (by omega) (by rw [← hg, zns_f n54]))
                · have n54 : pt (v + 1) ≤ zmx pt (v + 1) := (nI_leI (by have := hpt (v + 1); omega) (by have := zmx_lt (M := 9) (by decide) hpt (v + 1); omega)).mp (znlt_ge c54)
                  refine z_aload_n F dX5_next_57 rfl ?_
                  refine z_get (ci := 5) (C := RX5) (T := TX5) (N := 20) F 0 19 dX5_next_58 inX5 kfX5_50 rfl rfl rfl (by decide) rfl ?_
                  refine z_iload_n F dX5_next_61 rfl ?_
                  refine z_dup2 F dX5_next_62 rfl rfl ?_
                  refine z_ialdN F 13 0 dX5_next_63 rfl rfl rfl (by omega) (by decide) ?_
                  refine z_iconst (v := 1) F dX5_next_64 (by decide) ?_
                  refine z_iadd F dX5_next_65 ?_
                  refine z_topi (y := nI (pt (v + 1) + 1)) (nI_1 _) ?_
                  refine z_iastN F 13 0 _ dX5_next_66 rfl rfl rfl (by omega) (by decide) rfl ?_
                  refine z_iload_n F dX5_next_67 rfl ?_
                  refine z_iconst (v := 1) F dX5_next_68 (by decide) ?_
                  refine z_iadd F dX5_next_69 ?_
                  refine z_topi (y := nI (v + 2)) (nI_1 (v + 1)) ?_
                  refine z_istore_n F dX5_next_70 (by decide) ?_
                  have clr : ∀ (n3 k : Nat), v + 2 ≤ k → k ≤ nu → nu + 1 ≤ k + n3 → zW p l e (headSpec (zws yX5_next cX5_next 4 (some .boolean)) { frames := 0, cells := 0, slots := 0, locals := 0 }).room s m [.ref (am 0)].toArray below meth c 4 D zcl A 0 0 (MQ below (va_Qi (fun r w2 => r = zB (zns pt nu (nu - 1)).isSome ∧ w2 = (wM am cA cd nb ro lo co ks nu si we ki hw sl ch em bx sx cn nx ns ((zns pt nu (nu - 1)).getD pt))) (zEnd D zcl A) A) [.ref (am 0)].toArray s 0 0 A) (wM am cA cd nb ro lo co ks nu si we ki hw sl ch em bx sx cn nx ns (zclz (zu pt (v + 1) (pt (v + 1) + 1)) (v + 1) k)) [(0, .ref (am 0)), (1, .int (nI (v + 1))), (2, .int (nI (zmx pt (v + 1)))), (3, .int (nI k))] 71 [] := by
                    intro n3
                    induction n3 with
                    | zero => intro k h1 h2 h3; omega
                    | succ n3 ih3 =>
                      intro k hk1 hk2 hk3
                      refine z_iload_n F dX5_next_71 rfl ?_
                      refine z_aload_n F dX5_next_72 rfl ?_
                      refine z_get (ci := 5) (C := RX5) (T := TX5) (N := 20) F 0 6 dX5_next_73 inX5 kfX5_63 rfl rfl rfl (by decide) rfl ?_
                      refine z_icmp_ge (tgt := 92) F dX5_next_76 (by decide) (fun c76 => ?_) (fun c76 => ?_)
                      · have ek := zge_end hk2 (by omega) c76
                        refine z_iconst (v := 1) F dX5_next_92 (by decide) ?_
                        exact z_iret F hr rfl hlk dX5_next_93 ⟨by rw [← hg, zns_t n54]; rfl, by rw [← hg, zns_t n54, ek]; rfl⟩ (Nat.le_of_ble_eq_true rfl) (Nat.le_of_ble_eq_true rfl)
                      · have hlk2 := zge_on (by omega) hk2 c76
                        refine z_aload_n F dX5_next_79 rfl ?_
                        refine z_get (ci := 5) (C := RX5) (T := TX5) (N := 20) F 0 19 dX5_next_80 inX5 kfX5_50 rfl rfl rfl (by decide) rfl ?_
                        refine z_iload_n F dX5_next_83 rfl ?_
                        refine z_iconst (v := 0) F dX5_next_84 (by decide) ?_
                        refine z_iastN F 13 0 0 dX5_next_85 rfl rfl rfl (by omega) (by decide) rfl ?_
                        refine z_iinc (v := nI (k + 1)) F dX5_next_86 rfl (nI_1 k) (by decide) ?_
                        refine z_goto (tgt := 71) F dX5_next_89 (by decide) ?_
                        have h9 := ih3 (k + 1) (by omega) (by omega) (by omega)
                        rw [← zclz_s _ (by omega)] at h9
                        exact z_lv rfl h9
                  have h9 := clr (nu + 1) (v + 2) (by omega) (by omega) (by omega)
                  rw [zclz_0] at h9
                  exact z_lv rfl h9
              · have hlk1 := zge_on (by omega) hk1 c17
                refine z_aload_n F dX5_next_20 rfl ?_
                refine z_get (ci := 5) (C := RX5) (T := TX5) (N := 20) F 0 19 dX5_next_21 inX5 kfX5_50 rfl rfl rfl (by decide) rfl ?_
                refine z_iload_n F dX5_next_24 rfl ?_
                refine z_ialdN F 13 0 dX5_next_25 rfl rfl rfl (by omega) (by decide) ?_
                refine z_iload_n F dX5_next_26 rfl ?_
                refine z_icmp_le (tgt := 39) F dX5_next_27 (by decide) (fun c27 => ?_) (fun c27 => ?_)
                · have n27 : ¬ zmx pt k < pt k := fun q => zlt_nge ((nI_ltI (by have := zmx_lt (M := 9) (by decide) hpt k; omega) (by have := hpt k; omega)).mpr q) c27
                  refine z_iload_n F dX5_next_39 rfl ?_
                  refine z_topi (y := nI (zmx pt (k + 1))) (by rw [zmx_f n27]) ?_
                  refine z_istore_n F dX5_next_40 (by decide) ?_
                  refine z_iinc (v := nI (k + 1)) F dX5_next_41 rfl (nI_1 k) (by decide) ?_
                  refine z_goto (tgt := 15) F dX5_next_44 (by decide) ?_
                  exact z_lv rfl (ih2 (k + 1) (by omega) (by omega))
                · have n27 : zmx pt k < pt k := (nI_ltI (by have := zmx_lt (M := 9) (by decide) hpt k; omega) (by have := hpt k; omega)).mp (znle_lt c27)
                  refine z_aload_n F dX5_next_30 rfl ?_
                  refine z_get (ci := 5) (C := RX5) (T := TX5) (N := 20) F 0 19 dX5_next_31 inX5 kfX5_50 rfl rfl rfl (by decide) rfl ?_
                  refine z_iload_n F dX5_next_34 rfl ?_
                  refine z_ialdN F 13 0 dX5_next_35 rfl rfl rfl (by omega) (by decide) ?_
                  refine z_goto (tgt := 40) F dX5_next_36 (by decide) ?_
                  refine z_topi (y := nI (zmx pt (k + 1))) (by rw [zmx_t n27]) ?_
                  refine z_istore_n F dX5_next_40 (by decide) ?_
                  refine z_iinc (v := nI (k + 1)) F dX5_next_41 rfl (nI_1 k) (by decide) ?_
                  refine z_goto (tgt := 15) F dX5_next_44 (by decide) ?_
                  exact z_lv rfl (ih2 (k + 1) (by omega) (by omega))
          exact z_lv rfl (inner (v + 2) 0 (by omega) (by omega))
    refine z_aload_n F dX5_next_0 rfl ?_
    refine z_get (ci := 5) (C := RX5) (T := TX5) (N := 20) F 0 6 dX5_next_1 inX5 kfX5_63 rfl rfl rfl (by decide) rfl ?_
    refine z_iconst (v := 1) F dX5_next_4 (by decide) ?_
    refine z_isub F dX5_next_5 ?_
    refine z_topi (y := nI (nu - 1)) (pk_sub hn0) ?_
    refine z_istore_n F dX5_next_6 (by decide) ?_
    exact z_lv rfl (loop (nu - 1) (by omega) rfl)

set_option maxHeartbeats 4000000 in
set_option maxRecDepth 100000 in
theorem c_M_isWay {l : Launch} {D : va_G} {tys : List (ClassId × FieldType)} {am : Nat → Nat} {cA : ClassId} {cd nb : Nat} {ro lo co ks : Nat → Nat} {nu : Nat} {si we ki hw : Nat → Nat} {sl : Nat} {ch : Option Nat} {em : Bool} {bx : Nat → Option Nat} {sx : Nat → Nat} {cn : Nat} {nx : Nat → Option Nat} {ns pt : Nat → Nat} (ok : zok ro lo co ks nb sl si we ki (fun _ => 0) (fun _ => 0) nu) (hh : ∀ x, hw x < 2 ^ 31) (hpt : ∀ u, u < nu → pt u ≤ u) (hns : ∀ k, ns k < 256) : zMi l yX5_isWay (zws yX5_isWay cX5_isWay 2 (some .boolean)) { frames := 5, cells := 0, slots := 0, locals := 112 } D zcl ((cA, .int) :: tys) zG [.ref (am 0)] (wM am cA cd nb ro lo co ks nu si we ki hw sl ch em bx sx cn nx ns pt) (fun r w2 => r = zB (zwi (fun b a => zmf ro lo ks sl si we ki hw nu b a) co nb (zwn pt ns nu).1 (zwn pt ns nu).2).isNone ∧ w2 = (wM am cA cd nb ro lo co ks nu si we ki hw sl ch em bx sx ((zwn pt ns nu).2) (zcpo nx (zwf (fun b a => zmf ro lo ks sl si we ki hw nu b a) co nb (zwn pt ns nu).1) (zJ (zwi (fun b a => zmf ro lo ks sl si we ki hw nu b a) co nb (zwn pt ns nu).1 (zwn pt ns nu).2) (zwn pt ns nu).2)) ((zwn pt ns nu).1) pt)) 0 0 := by
  refine z_ofi (cc := cX5_isWay) (maxL := 2) (ret := (some .boolean)) (by decide) rfl (Nat.le_of_ble_eq_true rfl) ?_
  intro p e s m below meth c A F hr hlk hnm
  obtain ⟨o1, o2, o3, o4, o5, o6, o7, o8, o9, o10, o11, o12⟩ := id ok
  have hNS := zwn_lt (pt := pt) hns nu o3
  have hCN := zwn_le (pt := pt) (ns := ns) nu hpt
  have loop : ∀ (n j : Nat), j ≤ 8 → 8 + 1 ≤ j + n → zW p l e (headSpec (zws yX5_isWay cX5_isWay 2 (some .boolean)) { frames := 5, cells := 0, slots := 0, locals := 112 }).room s m [.ref (am 0)].toArray below meth c 2 D zcl A 0 0 (MQ below (va_Qi (fun r w2 => r = zB (zwi (fun b a => zmf ro lo ks sl si we ki hw nu b a) co nb (zwn pt ns nu).1 (zwn pt ns nu).2).isNone ∧ w2 = (wM am cA cd nb ro lo co ks nu si we ki hw sl ch em bx sx ((zwn pt ns nu).2) (zcpo nx (zwf (fun b a => zmf ro lo ks sl si we ki hw nu b a) co nb (zwn pt ns nu).1) (zJ (zwi (fun b a => zmf ro lo ks sl si we ki hw nu b a) co nb (zwn pt ns nu).1 (zwn pt ns nu).2) (zwn pt ns nu).2)) ((zwn pt ns nu).1) pt)) (zEnd D zcl A) A) [.ref (am 0)].toArray s 0 0 A) (wM am cA cd nb ro lo co ks nu si we ki hw sl ch em bx sx 0 nx (zcpn ns (fun _ => 0) j) pt) [(0, .ref (am 0)), (1, .int (nI j))] 7 [] := by
    intro n
    induction n with
    | zero => intro j h1 h2; omega
    | succ n ih =>
      intro j hj1 hj2
      refine z_iload_n F dX5_isWay_7 rfl ?_
      refine z_bipush (v := 8) F dX5_isWay_8 (by decide) ?_
      refine z_icmp_ge (tgt := 26) F dX5_isWay_10 (by decide) (fun c10 => ?_) (fun c10 => ?_)
      · have ej : j = 8 := zge_end hj1 (by omega) c10
        subst ej
        refine z_iconst (v := 0) F dX5_isWay_26 (by decide) ?_
        refine z_istore_n F dX5_isWay_27 (by decide) ?_
        have loop2 : ∀ (n2 u : Nat), u ≤ nu → nu + 1 ≤ u + n2 → zW p l e (headSpec (zws yX5_isWay cX5_isWay 2 (some .boolean)) { frames := 5, cells := 0, slots := 0, locals := 112 }).room s m [.ref (am 0)].toArray below meth c 2 D zcl A 0 0 (MQ below (va_Qi (fun r w2 => r = zB (zwi (fun b a => zmf ro lo ks sl si we ki hw nu b a) co nb (zwn pt ns nu).1 (zwn pt ns nu).2).isNone ∧ w2 = (wM am cA cd nb ro lo co ks nu si we ki hw sl ch em bx sx ((zwn pt ns nu).2) (zcpo nx (zwf (fun b a => zmf ro lo ks sl si we ki hw nu b a) co nb (zwn pt ns nu).1) (zJ (zwi (fun b a => zmf ro lo ks sl si we ki hw nu b a) co nb (zwn pt ns nu).1 (zwn pt ns nu).2) (zwn pt ns nu).2)) ((zwn pt ns nu).1) pt)) (zEnd D zcl A) A) [.ref (am 0)].toArray s 0 0 A) (wM am cA cd nb ro lo co ks nu si we ki hw sl ch em bx sx ((zwn pt ns u).2) nx ((zwn pt ns u).1) pt) [(0, .ref (am 0)), (1, .int (nI u))] 28 [] := by
          intro n2
          induction n2 with
          | zero => intro u h1 h2; omega
          | succ n2 ih2 =>
            intro u hu1 hu2
            refine z_iload_n F dX5_isWay_28 rfl ?_
            refine z_aload_n F dX5_isWay_29 rfl ?_
            refine z_get (ci := 5) (C := RX5) (T := TX5) (N := 20) F 0 6 dX5_isWay_30 inX5 kfX5_63 rfl rfl rfl (by decide) rfl ?_
            refine z_icmp_ge (tgt := 93) F dX5_isWay_33 (by decide) (fun c33 => ?_) (fun c33 => ?_)
            · have eu := zge_end hu1 (by omega) c33
              rw [eu]
              refine z_iconst (v := 0) F dX5_isWay_93 (by decide) ?_
              refine z_istore_n F dX5_isWay_94 (by decide) ?_
              have loop3 : ∀ (n3 k : Nat), k ≤ (zwn pt ns nu).2 → (zwn pt ns nu).2 + 1 ≤ k + n3 → zfst (fun k => (zwf (fun b a => zmf ro lo ks sl si we ki hw nu b a) co nb (zwn pt ns nu).1 k).isNone) k = none → zW p l e (headSpec (zws yX5_isWay cX5_isWay 2 (some .boolean)) { frames := 5, cells := 0, slots := 0, locals := 112 }).room s m [.ref (am 0)].toArray below meth c 2 D zcl A 0 0 (MQ below (va_Qi (fun r w2 => r = zB (zwi (fun b a => zmf ro lo ks sl si we ki hw nu b a) co nb (zwn pt ns nu).1 (zwn pt ns nu).2).isNone ∧ w2 = (wM am cA cd nb ro lo co ks nu si we ki hw sl ch em bx sx ((zwn pt ns nu).2) (zcpo nx (zwf (fun b a => zmf ro lo ks sl si we ki hw nu b a) co nb (zwn pt ns nu).1) (zJ (zwi (fun b a => zmf ro lo ks sl si we ki hw nu b a) co nb (zwn pt ns nu).1 (zwn pt ns nu).2) (zwn pt ns nu).2)) ((zwn pt ns nu).1) pt)) (zEnd D zcl A) A) [.ref (am 0)].toArray s 0 0 A) (wM am cA cd nb ro lo co ks nu si we ki hw sl ch em bx sx ((zwn pt ns nu).2) (zcpo nx (zwf (fun b a => zmf ro lo ks sl si we ki hw nu b a) co nb (zwn pt ns nu).1) k) ((zwn pt ns nu).1) pt) [(0, .ref (am 0)), (1, .int (nI k))] 95 [] := by
                intro n3
                induction n3 with
                | zero => intro k h1 h2; omega
                | succ n3 ih3 =>
                  intro k hk1 hk2 hzk
                  refine z_iload_n F dX5_isWay_95 rfl ?_
                  refine z_aload_n F dX5_isWay_96 rfl ?_
                  refine z_get (ci := 5) (C := RX5) (T := TX5) (N := 20) F 0 16 dX5_isWay_97 inX5 kfX5_99 rfl rfl rfl (by decide) rfl ?_
                  refine z_icmp_ge (tgt := 137) F dX5_isWay_100 (by decide) (fun c100 => ?_) (fun c100 => ?_)
                  · have ek := zge_end hk1 (by omega) c100
                    refine z_iconst (v := 1) F dX5_isWay_137 (by decide) ?_
                    exact z_iret F hr rfl hlk dX5_isWay_138 ⟨by rw [show (zwi (fun b a => zmf ro lo ks sl si we ki hw nu b a) co nb (zwn pt ns nu).1 (zwn pt ns nu).2) = none from (by have e := hzk; rw [ek] at e; exact e)]; rfl, by rw [show (zwi (fun b a => zmf ro lo ks sl si we ki hw nu b a) co nb (zwn pt ns nu).1 (zwn pt ns nu).2) = none from (by have e := hzk; rw [ek] at e; exact e), ek]; rfl⟩ (Nat.le_of_ble_eq_true rfl) (Nat.le_of_ble_eq_true rfl)
                  · have hlk1 := zge_on (by omega) hk1 c100
                    refine z_aload_n F dX5_isWay_103 rfl ?_
                    refine z_get (ci := 5) (C := RX5) (T := TX5) (N := 20) F 0 17 dX5_isWay_104 inX5 kfX5_44 rfl rfl rfl (by decide) rfl ?_
                    refine z_iload_n F dX5_isWay_107 rfl ?_
                    refine z_aload_n F dX5_isWay_108 rfl ?_
                    refine z_aload_n F dX5_isWay_109 rfl ?_
                    refine z_get (ci := 5) (C := RX5) (T := TX5) (N := 20) F 0 18 dX5_isWay_110 inX5 kfX5_47 rfl rfl rfl (by decide) rfl ?_
                    refine z_iload_n F dX5_isWay_113 rfl ?_
                    refine z_ialdN F 12 0 dX5_isWay_114 rfl rfl rfl (by omega) (by decide) ?_
                    refine z_callVi0 F (c_M_cheapest ok hh ((zwn pt ns nu).1 k) (Nat.lt_trans (hNS k) (by decide))) 0 rfl rfl (zcwV F.2.2.2.2.1 kcX5_cheapest kmX5_106 kiX5_cheapest ksX5_cheapest knX5 hdX5_cheapest rfl rfl ⟨(Nat.le_of_ble_eq_true rfl), (Nat.le_of_ble_eq_true rfl)⟩) dX5_isWay_115 rfl rfl (Nat.le_of_ble_eq_true rfl) ⟨(Nat.le_of_ble_eq_true rfl), (Nat.le_of_ble_eq_true rfl)⟩ ?_
                    rintro r w2 ⟨rfl, rfl⟩
                    refine z_iastO F 11 0 ((zwf (fun b a => zmf ro lo ks sl si we ki hw nu b a) co nb (zwn pt ns nu).1) k) dX5_isWay_118 rfl rfl rfl (by omega) (by decide) rfl ?_
                    refine z_aload_n F dX5_isWay_119 rfl ?_
                    refine z_get (ci := 5) (C := RX5) (T := TX5) (N := 20) F 0 17 dX5_isWay_120 inX5 kfX5_44 rfl rfl rfl (by decide) rfl ?_
                    refine z_iload_n F dX5_isWay_123 rfl ?_
                    refine z_iald F 11 0 dX5_isWay_124 rfl rfl rfl (by omega) (by decide) ?_
                    refine z_topi (y := zo ((zwf (fun b a => zmf ro lo ks sl si we ki hw nu b a) co nb (zwn pt ns nu).1) k)) (by rw [zuo_s]) ?_
                    refine z_iconst (v := (-1)) F dX5_isWay_125 (by decide) ?_
                    refine z_icmp_ne (tgt := 131) F dX5_isWay_126 (by decide) (fun c126 => ?_) (fun c126 => ?_)
                    · have n126 : ((zwf (fun b a => zmf ro lo ks sl si we ki hw nu b a) co nb (zwn pt ns nu).1) k).isNone = false := by
                        cases hz : (zwf (fun b a => zmf ro lo ks sl si we ki hw nu b a) co nb (zwn pt ns nu).1) k with
                        | none => exact absurd (zo_n1 hz) c126
                        | some b => rfl
                      refine z_iinc (v := nI (k + 1)) F dX5_isWay_131 rfl (nI_1 k) (by decide) ?_
                      refine z_goto (tgt := 95) F dX5_isWay_134 (by decide) ?_
                      have h9 := ih3 (k + 1) (by omega) (by omega) (zfst_n (P := (fun k => (zwf (fun b a => zmf ro lo ks sl si we ki hw nu b a) co nb (zwn pt ns nu).1 k).isNone)) hzk n126)
                      rw [← zcpo_s nx (zwf (fun b a => zmf ro lo ks sl si we ki hw nu b a) co nb (zwn pt ns nu).1) k] at h9
                      exact z_lv rfl h9
                    · have n126 : ((zwf (fun b a => zmf ro lo ks sl si we ki hw nu b a) co nb (zwn pt ns nu).1) k).isNone = true := by
                        cases hz : (zwf (fun b a => zmf ro lo ks sl si we ki hw nu b a) co nb (zwn pt ns nu).1) k with
                        | none => rfl
                        | some b => exact absurd (by rw [← zo_s1 hz]; exact c126) (zi_ne b (by have := (zche_lt hz).1; omega))
                      refine z_iconst (v := 0) F dX5_isWay_129 (by decide) ?_
                      exact z_iret F hr rfl hlk dX5_isWay_130 ⟨by rw [show (zwi (fun b a => zmf ro lo ks sl si we ki hw nu b a) co nb (zwn pt ns nu).1 (zwn pt ns nu).2) = some k from zfst_at (P := (fun k => (zwf (fun b a => zmf ro lo ks sl si we ki hw nu b a) co nb (zwn pt ns nu).1 k).isNone)) hzk n126 hlk1]; rfl, by rw [show (zwi (fun b a => zmf ro lo ks sl si we ki hw nu b a) co nb (zwn pt ns nu).1 (zwn pt ns nu).2) = some k from zfst_at (P := (fun k => (zwf (fun b a => zmf ro lo ks sl si we ki hw nu b a) co nb (zwn pt ns nu).1 k).isNone)) hzk n126 hlk1]; show _ = (wM am cA cd nb ro lo co ks nu si we ki hw sl ch em bx sx ((zwn pt ns nu).2) (zcpo nx (zwf (fun b a => zmf ro lo ks sl si we ki hw nu b a) co nb (zwn pt ns nu).1) (k + 1)) ((zwn pt ns nu).1) pt); rw [← zcpo_s nx (zwf (fun b a => zmf ro lo ks sl si we ki hw nu b a) co nb (zwn pt ns nu).1) k]; rfl⟩ (Nat.le_of_ble_eq_true rfl) (Nat.le_of_ble_eq_true rfl)
              have h9 := loop3 ((zwn pt ns nu).2 + 1) 0 (by omega) (by omega) rfl
              rw [zcpo_0] at h9
              exact z_lv rfl h9
            · have hlu := zge_on (by omega) hu1 c33
              have hpu := hpt u hlu
              have hcu := zwn_le (pt := pt) (ns := ns) u (fun x hx => hpt x (by omega))
              refine z_aload_n F dX5_isWay_36 rfl ?_
              refine z_get (ci := 5) (C := RX5) (T := TX5) (N := 20) F 0 18 dX5_isWay_37 inX5 kfX5_47 rfl rfl rfl (by decide) rfl ?_
              refine z_aload_n F dX5_isWay_40 rfl ?_
              refine z_get (ci := 5) (C := RX5) (T := TX5) (N := 20) F 0 19 dX5_isWay_41 inX5 kfX5_50 rfl rfl rfl (by decide) rfl ?_
              refine z_iload_n F dX5_isWay_44 rfl ?_
              refine z_ialdN F 13 0 dX5_isWay_45 rfl rfl rfl (by omega) (by decide) ?_
              refine z_dup2 F dX5_isWay_46 rfl rfl ?_
              refine z_ialdN F 12 0 dX5_isWay_47 rfl rfl rfl (by omega) (by decide) ?_
              refine z_iconst (v := 1) F dX5_isWay_48 (by decide) ?_
              refine z_iload_n F dX5_isWay_49 rfl ?_
              refine z_ishl F dX5_isWay_50 ?_
              refine z_topi (y := nI (2 ^ u)) (zb_shl1 u (by omega)) ?_
              refine z_ior F dX5_isWay_51 ?_
              refine z_topi (y := nI ((zwn pt ns u).1 (pt u) ||| 2 ^ u)) (zb_or _ _) ?_
              refine z_iastN F 12 0 _ dX5_isWay_52 rfl rfl rfl (by omega) (by decide) rfl ?_
              refine z_aload_n F dX5_isWay_53 rfl ?_
              refine z_aload_n F dX5_isWay_54 rfl ?_
              refine z_get (ci := 5) (C := RX5) (T := TX5) (N := 20) F 0 19 dX5_isWay_55 inX5 kfX5_50 rfl rfl rfl (by decide) rfl ?_
              refine z_iload_n F dX5_isWay_58 rfl ?_
              refine z_ialdN F 13 0 dX5_isWay_59 rfl rfl rfl (by omega) (by decide) ?_
              refine z_iconst (v := 1) F dX5_isWay_60 (by decide) ?_
              refine z_iadd F dX5_isWay_61 ?_
              refine z_topi (y := nI (pt u + 1)) (nI_1 _) ?_
              refine z_aload_n F dX5_isWay_62 rfl ?_
              refine z_get (ci := 5) (C := RX5) (T := TX5) (N := 20) F 0 16 dX5_isWay_63 inX5 kfX5_99 rfl rfl rfl (by decide) rfl ?_
              refine z_icmp_le (tgt := 80) F dX5_isWay_66 (by decide) (fun c66 => ?_) (fun c66 => ?_)
              · have n66 : ¬ (zwn pt ns u).2 < pt u + 1 := fun q => zlt_nge ((nI_ltI (by omega) (by omega)).mpr q) c66
                refine z_aload_n F dX5_isWay_80 rfl ?_
                refine z_get (ci := 5) (C := RX5) (T := TX5) (N := 20) F 0 16 dX5_isWay_81 inX5 kfX5_99 rfl rfl rfl (by decide) rfl ?_
                refine z_topi (y := nI (zwn pt ns (u + 1)).2) (by show _ = nI (if _ then _ else _); rw [if_neg n66]) ?_
                refine z_put (ci := 5) (C := RX5) (T := TX5) (N := 20) (ty := .int) F 0 16 dX5_isWay_84 inX5 tyX5 tyX5_ok nmX5 kfX5_99 rfl rfl rfl (by decide) rfl (by decide +kernel) rfl rfl (Nat.le_of_ble_eq_true rfl) ?_
                refine z_iinc (v := nI (u + 1)) F dX5_isWay_87 rfl (nI_1 u) (by decide) ?_
                refine z_goto (tgt := 28) F dX5_isWay_90 (by decide) ?_
                exact z_lv rfl (ih2 (u + 1) (by omega) (by omega))
              · have n66 : (zwn pt ns u).2 < pt u + 1 := (nI_ltI (by omega) (by omega)).mp (znle_lt c66)
                refine z_aload_n F dX5_isWay_69 rfl ?_
                refine z_get (ci := 5) (C := RX5) (T := TX5) (N := 20) F 0 19 dX5_isWay_70 inX5 kfX5_50 rfl rfl rfl (by decide) rfl ?_
                refine z_iload_n F dX5_isWay_73 rfl ?_
                refine z_ialdN F 13 0 dX5_isWay_74 rfl rfl rfl (by omega) (by decide) ?_
                refine z_iconst (v := 1) F dX5_isWay_75 (by decide) ?_
                refine z_iadd F dX5_isWay_76 ?_
                refine z_topi (y := nI (pt u + 1)) (nI_1 _) ?_
                refine z_goto (tgt := 84) F dX5_isWay_77 (by decide) ?_
                refine z_topi (y := nI (zwn pt ns (u + 1)).2) (by show _ = nI (if _ then _ else _); rw [if_pos n66]) ?_
                refine z_put (ci := 5) (C := RX5) (T := TX5) (N := 20) (ty := .int) F 0 16 dX5_isWay_84 inX5 tyX5 tyX5_ok nmX5 kfX5_99 rfl rfl rfl (by decide) rfl (by decide +kernel) rfl rfl (Nat.le_of_ble_eq_true rfl) ?_
                refine z_iinc (v := nI (u + 1)) F dX5_isWay_87 rfl (nI_1 u) (by decide) ?_
                refine z_goto (tgt := 28) F dX5_isWay_90 (by decide) ?_
                exact z_lv rfl (ih2 (u + 1) (by omega) (by omega))
        exact z_lv rfl (loop2 (nu + 1) 0 (by omega) (by omega))
      · have hlt : j < 8 := zge_on (by omega) hj1 c10
        refine z_aload_n F dX5_isWay_13 rfl ?_
        refine z_get (ci := 5) (C := RX5) (T := TX5) (N := 20) F 0 18 dX5_isWay_14 inX5 kfX5_47 rfl rfl rfl (by decide) rfl ?_
        refine z_iload_n F dX5_isWay_17 rfl ?_
        refine z_iconst (v := 0) F dX5_isWay_18 (by decide) ?_
        refine z_iastN F 12 0 0 dX5_isWay_19 rfl rfl rfl hlt (by decide) rfl ?_
        refine z_iinc (v := nI (j + 1)) F dX5_isWay_20 rfl (nI_1 j) (by decide) ?_
        refine z_goto (tgt := 7) F dX5_isWay_23 (by decide) ?_
        have h9 := ih (j + 1) (by omega) (by omega)
        rw [← zcpn_s ns (fun _ => 0) j] at h9
        exact z_lv rfl h9
  refine z_aload_n F dX5_isWay_0 rfl ?_
  refine z_iconst (v := 0) F dX5_isWay_1 (by decide) ?_
  refine z_put (ci := 5) (C := RX5) (T := TX5) (N := 20) (ty := .int) F 0 16 dX5_isWay_2 inX5 tyX5 tyX5_ok nmX5 kfX5_99 rfl rfl rfl (by decide) rfl (by decide +kernel) rfl rfl (Nat.le_of_ble_eq_true rfl) ?_
  refine z_iconst (v := 0) F dX5_isWay_5 (by decide) ?_
  refine z_istore_n F dX5_isWay_6 (by decide) ?_
  have h9 := loop 9 0 (by omega) (by omega)
  rw [zcpn_0] at h9
  exact z_lv rfl h9
