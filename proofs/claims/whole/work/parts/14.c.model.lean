theorem zrn_ok {FM : Nat → Nat → Bool} {co : Nat → Nat} {nb nu : Nat} (hb : nb ≤ 6) (hn : nu ≤ 8) : ∀ {n : Nat} {t fin : zM}, zMk nu t → zrn FM co nb nu n t = some fin → zMk nu fin
  | 0, t, fin, _, h => by cases h
  | n + 1, t, fin, hM, h => by
    have k9 := zon_ok (FM := FM) (co := co) (nb := nb) hb hn hM
    cases hq : zns (zon FM co nb nu t).2.2.2.2.2.2 nu (nu - 1) with
    | none =>
      rw [zrn_n hq] at h
      cases h
      exact k9
    | some q =>
      rw [zrn_s hq] at h
      rw [zon_pt] at hq
      obtain ⟨x1, x2⟩ := zns_ok hn hM.1 hM.2.1 (nu - 1) q (zns_lt hq) hq
      refine zrn_ok hb hn ?_ h
      exact ⟨x1, x2, k9.2.2.1, k9.2.2.2.1, k9.2.2.2.2⟩

set_option maxHeartbeats 4000000 in
set_option maxRecDepth 100000 in
theorem c_M_choose_x1 {l : Launch} {D : va_G} {tys : List (ClassId × FieldType)} {am : Nat → Nat} {cA : ClassId} {cd nb : Nat} {ro lo co ks : Nat → Nat} {nu : Nat} {si we ki hw : Nat → Nat} {sl : Nat} {ch : Option Nat} {em : Bool} {bx : Nat → Option Nat} {sx : Nat → Nat} {cn : Nat} {nx : Nat → Option Nat} {ns pt : Nat → Nat} (v1 : Int32) (h : ¬ (0 ≤ v1 ∧ v1 ≤ 6)) : zMi l yX5_choose (zws yX5_choose cX5_choose 3 (some .int)) { frames := 7, cells := 0, slots := 0, locals := 154 } D zcl ((cA, .int) :: tys) zG [.ref (am 0), .int v1] (wM am cA cd nb ro lo co ks nu si we ki hw sl ch em bx sx cn nx ns pt) (fun r w2 => r = 0 ∧ w2 = (wM am cA 1 nb ro lo co ks nu si we ki hw sl ch em bx sx cn nx ns pt)) 0 0 := by
  refine z_ofi (cc := cX5_choose) (maxL := 3) (ret := (some .int)) (by decide) rfl (Nat.le_of_ble_eq_true rfl) ?_
  intro p e s m below meth c A F hr hlk hnm
  refine z_aload_n F dX5_choose_0 rfl ?_
  refine z_iload_n F dX5_choose_1 rfl ?_
  refine z_iconst (v := 0) F dX5_choose_2 (by decide) ?_
  refine z_bipush (v := 6) F dX5_choose_3 (by decide) ?_
  refine z_callSi0 F (c_M_in v1 0 6) (zcwS F.2.2.2.2.1 kcX5_in kmX5_59 ktX5_in knX5 hdX5_in rfl rfl ⟨(Nat.le_of_ble_eq_true rfl), (Nat.le_of_ble_eq_true rfl)⟩) dX5_choose_5 rfl rfl (Nat.le_of_ble_eq_true rfl) ⟨(Nat.le_of_ble_eq_true rfl), (Nat.le_of_ble_eq_true rfl)⟩ ?_
  rintro r w2 ⟨rfl, rfl⟩
  refine z_if_eq (tgt := 15) F dX5_choose_8 (by decide) (fun c8 => ?_) (fun c8 => ?_)
  · refine z_iconst (v := 1) F dX5_choose_15 (by decide) ?_
    refine z_put (ci := 5) (C := RX5) (T := TX5) (N := 20) (ty := .int) F 0 0 dX5_choose_16 inX5 tyX5 tyX5_ok nmX5 kfX5_53 rfl rfl rfl (by decide) rfl (by decide +kernel) rfl rfl (Nat.le_of_ble_eq_true rfl) ?_
    refine z_aload_n F dX5_choose_19 rfl ?_
    refine z_get (ci := 5) (C := RX5) (T := TX5) (N := 20) F 0 0 dX5_choose_20 inX5 kfX5_53 rfl rfl rfl (by decide) rfl ?_
    refine z_if_le (tgt := 28) F dX5_choose_23 (by decide) (fun c23 => ?_) (fun c23 => ?_)
    · exact absurd c23 (by decide)
    · refine z_iconst (v := 0) F dX5_choose_26 (by decide) ?_
      exact z_iret F hr rfl hlk dX5_choose_27 ⟨rfl, rfl⟩ (Nat.le_of_ble_eq_true rfl) (Nat.le_of_ble_eq_true rfl)
  · exact absurd (of_decide_eq_true (zB_1.mp c8)) h

set_option maxHeartbeats 4000000 in
set_option maxRecDepth 100000 in
theorem c_M_choose_e {l : Launch} {D : va_G} {tys : List (ClassId × FieldType)} {am : Nat → Nat} {cA : ClassId} {cd nb : Nat} {ro lo co ks : Nat → Nat} {nu : Nat} {si we ki hw : Nat → Nat} {sl : Nat} {ch : Option Nat} {em : Bool} {bx : Nat → Option Nat} {sx : Nat → Nat} {cn : Nat} {nx : Nat → Option Nat} {ns pt : Nat → Nat} (ok : zok ro lo co ks nb sl si we ki (fun _ => 0) (fun _ => 0) nu) (hh : ∀ x, hw x < 2 ^ 31) {N : Nat} {fin : zM} (mo : Nat) (hm : mo ≤ 6) (hnm2 : nu ≤ mo) (hM0 : zMk nu ((none, bx, sx, cn, nx, ns, zcpn pt (fun _ => 0) nu) : zM)) (hfin : zrn (fun b a => zmf ro lo ks sl si we ki hw nu b a) co nb nu N ((none, bx, sx, cn, nx, ns, zcpn pt (fun _ => 0) nu) : zM) = some fin) : zMi l yX5_choose (zws yX5_choose cX5_choose 3 (some .int)) { frames := 7, cells := 0, slots := 0, locals := 154 } D zcl ((cA, .int) :: tys) zG [.ref (am 0), .int (nI mo)] (wM am cA cd nb ro lo co ks nu si we ki hw sl ch em bx sx cn nx ns pt) (fun r w2 => r = zo (fin.1.map (zct co fin.2.1)) ∧ w2 = (wM am cA 0 nb ro lo co ks nu si we ki hw sl fin.1 fin.1.isSome fin.2.1 fin.2.2.1 fin.2.2.2.1 fin.2.2.2.2.1 fin.2.2.2.2.2.1 fin.2.2.2.2.2.2)) 0 0 := by
  refine z_ofi (cc := cX5_choose) (maxL := 3) (ret := (some .int)) (by decide) rfl (Nat.le_of_ble_eq_true rfl) ?_
  intro p e s m below meth c A F hr hlk hnm
  obtain ⟨o1, o2, o3, o4, o5, o6, o7, o8, o9, o10, o11, o12⟩ := id ok
  have kf := zrn_ok o1 o3 hM0 hfin
  obtain ⟨fc, fbx, fsx, fcn, fnx, fns, fpt⟩ := fin
  refine z_aload_n F dX5_choose_0 rfl ?_
  refine z_iload_n F dX5_choose_1 rfl ?_
  refine z_iconst (v := 0) F dX5_choose_2 (by decide) ?_
  refine z_bipush (v := 6) F dX5_choose_3 (by decide) ?_
  refine z_callSi0 F (c_M_in (nI mo) 0 6) (zcwS F.2.2.2.2.1 kcX5_in kmX5_59 ktX5_in knX5 hdX5_in rfl rfl ⟨(Nat.le_of_ble_eq_true rfl), (Nat.le_of_ble_eq_true rfl)⟩) dX5_choose_5 rfl rfl (Nat.le_of_ble_eq_true rfl) ⟨(Nat.le_of_ble_eq_true rfl), (Nat.le_of_ble_eq_true rfl)⟩ ?_
  rintro r w2 ⟨rfl, rfl⟩
  refine z_if_eq (tgt := 15) F dX5_choose_8 (by decide) (fun c8 => ?_) (fun c8 => ?_)
  · exact absurd (zin (Nat.zero_le _) hm (by decide)) (of_decide_eq_false (zB_0.mp c8))
  · refine z_iconst (v := 0) F dX5_choose_11 (by decide) ?_
    refine z_goto (tgt := 16) F dX5_choose_12 (by decide) ?_
    refine z_put (ci := 5) (C := RX5) (T := TX5) (N := 20) (ty := .int) F 0 0 dX5_choose_16 inX5 tyX5 tyX5_ok nmX5 kfX5_53 rfl rfl rfl (by decide) rfl (by decide +kernel) rfl rfl (Nat.le_of_ble_eq_true rfl) ?_
    refine z_aload_n F dX5_choose_19 rfl ?_
    refine z_get (ci := 5) (C := RX5) (T := TX5) (N := 20) F 0 0 dX5_choose_20 inX5 kfX5_53 rfl rfl rfl (by decide) rfl ?_
    refine z_if_le (tgt := 28) F dX5_choose_23 (by decide) (fun c23 => ?_) (fun c23 => ?_)
    · refine z_aload_n F dX5_choose_28 rfl ?_
      refine z_iconst (v := (-1)) F dX5_choose_29 (by decide) ?_
      refine z_put (ci := 5) (C := RX5) (T := TX5) (N := 20) (ty := .int) F 0 12 dX5_choose_30 inX5 tyX5 tyX5_ok nmX5 kfX5_34 rfl rfl rfl (by decide) rfl (by decide +kernel) rfl rfl (Nat.le_of_ble_eq_true rfl) ?_
      refine z_aload_n F dX5_choose_33 rfl ?_
      refine z_get (ci := 5) (C := RX5) (T := TX5) (N := 20) F 0 6 dX5_choose_34 inX5 kfX5_63 rfl rfl rfl (by decide) rfl ?_
      refine z_iload_n F dX5_choose_37 rfl ?_
      refine z_icmp_gt (tgt := 45) F dX5_choose_38 (by decide) (fun c38 => ?_) (fun c38 => ?_)
      · exact absurd ((nI_ltI (by omega) (by omega)).mp c38) (by omega)
      · refine z_iconst (v := 1) F dX5_choose_41 (by decide) ?_
        refine z_goto (tgt := 46) F dX5_choose_42 (by decide) ?_
        refine z_istore_n F dX5_choose_46 (by decide) ?_
        refine z_iload_n F dX5_choose_47 rfl ?_
        refine z_if_eq (tgt := 58) F dX5_choose_48 (by decide) (fun c48 => ?_) (fun c48 => ?_)
        · exact absurd c48 (by decide)
        · refine z_aload_n F dX5_choose_51 rfl ?_
          refine z_callVv0 F (c_M_exactly (cd := 0) (ch := none) ok hh hM0 hfin) 0 rfl rfl (zcwV F.2.2.2.2.1 kcX5_exactly kmX5_125 kiX5_exactly ksX5_exactly knX5 hdX5_exactly rfl rfl ⟨(Nat.le_of_ble_eq_true rfl), (Nat.le_of_ble_eq_true rfl)⟩) dX5_choose_52 rfl rfl (Nat.le_of_ble_eq_true rfl) ⟨(Nat.le_of_ble_eq_true rfl), (Nat.le_of_ble_eq_true rfl)⟩ ?_
          rintro w2 rfl
          rcases fc with _ | q
          · refine z_goto (tgt := 62) F dX5_choose_55 (by decide) ?_
            refine z_aload_n F dX5_choose_62 rfl ?_
            refine z_iload_n F dX5_choose_63 rfl ?_
            refine z_if_eq (tgt := 79) F dX5_choose_64 (by decide) (fun c64 => ?_) (fun c64 => ?_)
            · exact absurd c64 (by decide)
            · refine z_aload_n F dX5_choose_67 rfl ?_
              refine z_get (ci := 5) (C := RX5) (T := TX5) (N := 20) F 0 12 dX5_choose_68 inX5 kfX5_34 rfl rfl rfl (by decide) rfl ?_
              refine z_iconst (v := (-1)) F dX5_choose_71 (by decide) ?_
              refine z_icmp_eq (tgt := 79) F dX5_choose_72 (by decide) (fun c72 => ?_) (fun c72 => ?_)
              · refine z_iconst (v := 0) F dX5_choose_79 (by decide) ?_
                refine z_put (ci := 5) (C := RX5) (T := TX5) (N := 20) (ty := .boolean) F 0 13 dX5_choose_80 inX5 tyX5 tyX5_ok nmX5 kfX5_131 rfl rfl rfl (by decide) rfl (by decide +kernel) rfl rfl (Nat.le_of_ble_eq_true rfl) ?_
                refine z_aload_n F dX5_choose_83 rfl ?_
                refine z_get (ci := 5) (C := RX5) (T := TX5) (N := 20) F 0 12 dX5_choose_84 inX5 kfX5_34 rfl rfl rfl (by decide) rfl ?_
                refine z_iconst (v := (-1)) F dX5_choose_87 (by decide) ?_
                refine z_icmp_ne (tgt := 95) F dX5_choose_88 (by decide) (fun c88 => ?_) (fun c88 => ?_)
                · exact absurd rfl c88
                · refine z_iconst (v := (-1)) F dX5_choose_91 (by decide) ?_
                  refine z_goto (tgt := 107) F dX5_choose_92 (by decide) ?_
                  exact z_iret F hr rfl hlk dX5_choose_107 ⟨rfl, rfl⟩ (Nat.le_of_ble_eq_true rfl) (Nat.le_of_ble_eq_true rfl)
              · exact absurd rfl c72
          · refine z_goto (tgt := 62) F dX5_choose_55 (by decide) ?_
            refine z_aload_n F dX5_choose_62 rfl ?_
            refine z_iload_n F dX5_choose_63 rfl ?_
            refine z_if_eq (tgt := 79) F dX5_choose_64 (by decide) (fun c64 => ?_) (fun c64 => ?_)
            · exact absurd c64 (by decide)
            · refine z_aload_n F dX5_choose_67 rfl ?_
              refine z_get (ci := 5) (C := RX5) (T := TX5) (N := 20) F 0 12 dX5_choose_68 inX5 kfX5_34 rfl rfl rfl (by decide) rfl ?_
              refine z_iconst (v := (-1)) F dX5_choose_71 (by decide) ?_
              refine z_icmp_eq (tgt := 79) F dX5_choose_72 (by decide) (fun c72 => ?_) (fun c72 => ?_)
              · exact absurd c72 (zo_ne (by have := (kf.2.2.2.2 q rfl).1; omega))
              · refine z_iconst (v := 1) F dX5_choose_75 (by decide) ?_
                refine z_goto (tgt := 80) F dX5_choose_76 (by decide) ?_
                refine z_put (ci := 5) (C := RX5) (T := TX5) (N := 20) (ty := .boolean) F 0 13 dX5_choose_80 inX5 tyX5 tyX5_ok nmX5 kfX5_131 rfl rfl rfl (by decide) rfl (by decide +kernel) rfl rfl (Nat.le_of_ble_eq_true rfl) ?_
                refine z_aload_n F dX5_choose_83 rfl ?_
                refine z_get (ci := 5) (C := RX5) (T := TX5) (N := 20) F 0 12 dX5_choose_84 inX5 kfX5_34 rfl rfl rfl (by decide) rfl ?_
                refine z_iconst (v := (-1)) F dX5_choose_87 (by decide) ?_
                refine z_icmp_ne (tgt := 95) F dX5_choose_88 (by decide) (fun c88 => ?_) (fun c88 => ?_)
                · refine z_aload_n F dX5_choose_95 rfl ?_
                  refine z_aload_n F dX5_choose_96 rfl ?_
                  refine z_get (ci := 5) (C := RX5) (T := TX5) (N := 20) F 0 14 dX5_choose_97 inX5 kfX5_38 rfl rfl rfl (by decide) rfl ?_
                  refine z_aload_n F dX5_choose_100 rfl ?_
                  refine z_get (ci := 5) (C := RX5) (T := TX5) (N := 20) F 0 12 dX5_choose_101 inX5 kfX5_34 rfl rfl rfl (by decide) rfl ?_
                  refine z_callVi0 F (c_M_cost_b (cd := 0) (ch := some q) (em := true) (bx := fbx) (sx := fsx) (cn := fcn) (nx := fnx) (ns := fns) (pt := fpt) q (kf.2.2.2.2 q rfl).1 (kf.2.2.2.2 q rfl).2) 0 rfl rfl (zcwV F.2.2.2.2.1 kcX5_costOf kmX5_102 kiX5_costOf ksX5_costOf knX5 hdX5_costOf rfl rfl ⟨(Nat.le_of_ble_eq_true rfl), (Nat.le_of_ble_eq_true rfl)⟩) dX5_choose_104 rfl rfl (Nat.le_of_ble_eq_true rfl) ⟨(Nat.le_of_ble_eq_true rfl), (Nat.le_of_ble_eq_true rfl)⟩ ?_
                  rintro r w2 ⟨rfl, rfl⟩
                  exact z_iret F hr rfl hlk dX5_choose_107 ⟨rfl, rfl⟩ (Nat.le_of_ble_eq_true rfl) (Nat.le_of_ble_eq_true rfl)
                · exact absurd c88 (zo_ne (by have := (kf.2.2.2.2 q rfl).1; omega))
    · exact absurd (by decide) c23

set_option maxHeartbeats 4000000 in
set_option maxRecDepth 100000 in
theorem c_M_choose_r {l : Launch} {D : va_G} {tys : List (ClassId × FieldType)} {am : Nat → Nat} {cA : ClassId} {cd nb : Nat} {ro lo co ks : Nat → Nat} {nu : Nat} {si we ki hw : Nat → Nat} {sl : Nat} {ch : Option Nat} {em : Bool} {bx : Nat → Option Nat} {sx : Nat → Nat} {cn : Nat} {nx : Nat → Option Nat} {ns pt : Nat → Nat} (ok : zok ro lo co ks nb sl si we ki (fun _ => 0) (fun _ => 0) nu) (hh : ∀ x, hw x < 2 ^ 31) (hns : ∀ k, ns k < 256) (mo : Nat) (hm : mo ≤ 6) (hnm2 : mo < nu) : zMi l yX5_choose (zws yX5_choose cX5_choose 3 (some .int)) { frames := 7, cells := 0, slots := 0, locals := 154 } D zcl ((cA, .int) :: tys) zG [.ref (am 0), .int (nI mo)] (wM am cA cd nb ro lo co ks nu si we ki hw sl ch em bx sx cn nx ns pt) (fun r w2 => r = zo (bif (zmu (fun b a => zmf ro lo ks sl si we ki hw nu b a) co nb (fun u => zwr hw nu u 8) ((true, 0, nx, ns, 0) : zMR) nu).1 then some (zct co (zcpo bx (zmu (fun b a => zmf ro lo ks sl si we ki hw nu b a) co nb (fun u => zwr hw nu u 8) ((true, 0, nx, ns, 0) : zMR) nu).2.2.1 (zmu (fun b a => zmf ro lo ks sl si we ki hw nu b a) co nb (fun u => zwr hw nu u 8) ((true, 0, nx, ns, 0) : zMR) nu).2.2.2.2) (zmu (fun b a => zmf ro lo ks sl si we ki hw nu b a) co nb (fun u => zwr hw nu u 8) ((true, 0, nx, ns, 0) : zMR) nu).2.2.2.2) else none) ∧ w2 = (wM am cA 0 nb ro lo co ks nu si we ki hw sl (bif (zmu (fun b a => zmf ro lo ks sl si we ki hw nu b a) co nb (fun u => zwr hw nu u 8) ((true, 0, nx, ns, 0) : zMR) nu).1 then some (zmu (fun b a => zmf ro lo ks sl si we ki hw nu b a) co nb (fun u => zwr hw nu u 8) ((true, 0, nx, ns, 0) : zMR) nu).2.2.2.2 else none) false (bif (zmu (fun b a => zmf ro lo ks sl si we ki hw nu b a) co nb (fun u => zwr hw nu u 8) ((true, 0, nx, ns, 0) : zMR) nu).1 then zcpo bx (zmu (fun b a => zmf ro lo ks sl si we ki hw nu b a) co nb (fun u => zwr hw nu u 8) ((true, 0, nx, ns, 0) : zMR) nu).2.2.1 (zmu (fun b a => zmf ro lo ks sl si we ki hw nu b a) co nb (fun u => zwr hw nu u 8) ((true, 0, nx, ns, 0) : zMR) nu).2.2.2.2 else bx) (bif (zmu (fun b a => zmf ro lo ks sl si we ki hw nu b a) co nb (fun u => zwr hw nu u 8) ((true, 0, nx, ns, 0) : zMR) nu).1 then zcpn sx (zmu (fun b a => zmf ro lo ks sl si we ki hw nu b a) co nb (fun u => zwr hw nu u 8) ((true, 0, nx, ns, 0) : zMR) nu).2.2.2.1 (zmu (fun b a => zmf ro lo ks sl si we ki hw nu b a) co nb (fun u => zwr hw nu u 8) ((true, 0, nx, ns, 0) : zMR) nu).2.2.2.2 else sx) (zmu (fun b a => zmf ro lo ks sl si we ki hw nu b a) co nb (fun u => zwr hw nu u 8) ((true, 0, nx, ns, 0) : zMR) nu).2.2.2.2 (zmu (fun b a => zmf ro lo ks sl si we ki hw nu b a) co nb (fun u => zwr hw nu u 8) ((true, 0, nx, ns, 0) : zMR) nu).2.2.1 (zmu (fun b a => zmf ro lo ks sl si we ki hw nu b a) co nb (fun u => zwr hw nu u 8) ((true, 0, nx, ns, 0) : zMR) nu).2.2.2.1 pt)) 0 0 := by
  refine z_ofi (cc := cX5_choose) (maxL := 3) (ret := (some .int)) (by decide) rfl (Nat.le_of_ble_eq_true rfl) ?_
  intro p e s m below meth c A F hr hlk hnm
  obtain ⟨o1, o2, o3, o4, o5, o6, o7, o8, o9, o10, o11, o12⟩ := id ok
  obtain ⟨q1, q2, q3, q4⟩ := zmu_ok (FM := (fun b a => zmf ro lo ks sl si we ki hw nu b a)) (co := co) (cm := (fun u => zwr hw nu u 8)) (t := ((true, 0, nx, ns, 0) : zMR)) ⟨by show 0 < 256; decide, hns, Nat.le_refl _, fun _ k hk => absurd hk (Nat.not_lt_zero k)⟩ o1 (fun v hv => zwr_lt o3 hv 8) nu o3
  refine z_aload_n F dX5_choose_0 rfl ?_
  refine z_iload_n F dX5_choose_1 rfl ?_
  refine z_iconst (v := 0) F dX5_choose_2 (by decide) ?_
  refine z_bipush (v := 6) F dX5_choose_3 (by decide) ?_
  refine z_callSi0 F (c_M_in (nI mo) 0 6) (zcwS F.2.2.2.2.1 kcX5_in kmX5_59 ktX5_in knX5 hdX5_in rfl rfl ⟨(Nat.le_of_ble_eq_true rfl), (Nat.le_of_ble_eq_true rfl)⟩) dX5_choose_5 rfl rfl (Nat.le_of_ble_eq_true rfl) ⟨(Nat.le_of_ble_eq_true rfl), (Nat.le_of_ble_eq_true rfl)⟩ ?_
  rintro r w2 ⟨rfl, rfl⟩
  refine z_if_eq (tgt := 15) F dX5_choose_8 (by decide) (fun c8 => ?_) (fun c8 => ?_)
  · exact absurd (zin (Nat.zero_le _) hm (by decide)) (of_decide_eq_false (zB_0.mp c8))
  · refine z_iconst (v := 0) F dX5_choose_11 (by decide) ?_
    refine z_goto (tgt := 16) F dX5_choose_12 (by decide) ?_
    refine z_put (ci := 5) (C := RX5) (T := TX5) (N := 20) (ty := .int) F 0 0 dX5_choose_16 inX5 tyX5 tyX5_ok nmX5 kfX5_53 rfl rfl rfl (by decide) rfl (by decide +kernel) rfl rfl (Nat.le_of_ble_eq_true rfl) ?_
    refine z_aload_n F dX5_choose_19 rfl ?_
    refine z_get (ci := 5) (C := RX5) (T := TX5) (N := 20) F 0 0 dX5_choose_20 inX5 kfX5_53 rfl rfl rfl (by decide) rfl ?_
    refine z_if_le (tgt := 28) F dX5_choose_23 (by decide) (fun c23 => ?_) (fun c23 => ?_)
    · refine z_aload_n F dX5_choose_28 rfl ?_
      refine z_iconst (v := (-1)) F dX5_choose_29 (by decide) ?_
      refine z_put (ci := 5) (C := RX5) (T := TX5) (N := 20) (ty := .int) F 0 12 dX5_choose_30 inX5 tyX5 tyX5_ok nmX5 kfX5_34 rfl rfl rfl (by decide) rfl (by decide +kernel) rfl rfl (Nat.le_of_ble_eq_true rfl) ?_
      refine z_aload_n F dX5_choose_33 rfl ?_
      refine z_get (ci := 5) (C := RX5) (T := TX5) (N := 20) F 0 6 dX5_choose_34 inX5 kfX5_63 rfl rfl rfl (by decide) rfl ?_
      refine z_iload_n F dX5_choose_37 rfl ?_
      refine z_icmp_gt (tgt := 45) F dX5_choose_38 (by decide) (fun c38 => ?_) (fun c38 => ?_)
      · refine z_iconst (v := 0) F dX5_choose_45 (by decide) ?_
        refine z_istore_n F dX5_choose_46 (by decide) ?_
        refine z_iload_n F dX5_choose_47 rfl ?_
        refine z_if_eq (tgt := 58) F dX5_choose_48 (by decide) (fun c48 => ?_) (fun c48 => ?_)
        · refine z_aload_n F dX5_choose_58 rfl ?_
          refine z_callVv0 F (c_M_byRule (cd := 0) (ch := none) ok hh hns) 0 rfl rfl (zcwV F.2.2.2.2.1 kcX5_byRule kmX5_128 kiX5_byRule ksX5_byRule knX5 hdX5_byRule rfl rfl ⟨(Nat.le_of_ble_eq_true rfl), (Nat.le_of_ble_eq_true rfl)⟩) dX5_choose_59 rfl rfl (Nat.le_of_ble_eq_true rfl) ⟨(Nat.le_of_ble_eq_true rfl), (Nat.le_of_ble_eq_true rfl)⟩ ?_
          rintro w2 rfl
          rcases hr1 : (zmu (fun b a => zmf ro lo ks sl si we ki hw nu b a) co nb (fun u => zwr hw nu u 8) ((true, 0, nx, ns, 0) : zMR) nu).1 with _ | _
          · refine z_aload_n F dX5_choose_62 rfl ?_
            refine z_iload_n F dX5_choose_63 rfl ?_
            refine z_if_eq (tgt := 79) F dX5_choose_64 (by decide) (fun c64 => ?_) (fun c64 => ?_)
            · refine z_iconst (v := 0) F dX5_choose_79 (by decide) ?_
              refine z_put (ci := 5) (C := RX5) (T := TX5) (N := 20) (ty := .boolean) F 0 13 dX5_choose_80 inX5 tyX5 tyX5_ok nmX5 kfX5_131 rfl rfl rfl (by decide) rfl (by decide +kernel) rfl rfl (Nat.le_of_ble_eq_true rfl) ?_
              refine z_aload_n F dX5_choose_83 rfl ?_
              refine z_get (ci := 5) (C := RX5) (T := TX5) (N := 20) F 0 12 dX5_choose_84 inX5 kfX5_34 rfl rfl rfl (by decide) rfl ?_
              refine z_iconst (v := (-1)) F dX5_choose_87 (by decide) ?_
              refine z_icmp_ne (tgt := 95) F dX5_choose_88 (by decide) (fun c88 => ?_) (fun c88 => ?_)
              · exact absurd rfl c88
              · refine z_iconst (v := (-1)) F dX5_choose_91 (by decide) ?_
                refine z_goto (tgt := 107) F dX5_choose_92 (by decide) ?_
                exact z_iret F hr rfl hlk dX5_choose_107 ⟨rfl, rfl⟩ (Nat.le_of_ble_eq_true rfl) (Nat.le_of_ble_eq_true rfl)
            · exact absurd rfl c64
          · have hbx : ∀ k, k < (zmu (fun b a => zmf ro lo ks sl si we ki hw nu b a) co nb (fun u => zwr hw nu u 8) ((true, 0, nx, ns, 0) : zMR) nu).2.2.2.2 → ∃ b, zcpo bx (zmu (fun b a => zmf ro lo ks sl si we ki hw nu b a) co nb (fun u => zwr hw nu u 8) ((true, 0, nx, ns, 0) : zMR) nu).2.2.1 (zmu (fun b a => zmf ro lo ks sl si we ki hw nu b a) co nb (fun u => zwr hw nu u 8) ((true, 0, nx, ns, 0) : zMR) nu).2.2.2.2 k = some b ∧ b < 6 := by
              intro k hk
              unfold zcpo
              rw [if_pos hk]
              exact q4 hr1 k hk
            refine z_aload_n F dX5_choose_62 rfl ?_
            refine z_iload_n F dX5_choose_63 rfl ?_
            refine z_if_eq (tgt := 79) F dX5_choose_64 (by decide) (fun c64 => ?_) (fun c64 => ?_)
            · refine z_iconst (v := 0) F dX5_choose_79 (by decide) ?_
              refine z_put (ci := 5) (C := RX5) (T := TX5) (N := 20) (ty := .boolean) F 0 13 dX5_choose_80 inX5 tyX5 tyX5_ok nmX5 kfX5_131 rfl rfl rfl (by decide) rfl (by decide +kernel) rfl rfl (Nat.le_of_ble_eq_true rfl) ?_
              refine z_aload_n F dX5_choose_83 rfl ?_
              refine z_get (ci := 5) (C := RX5) (T := TX5) (N := 20) F 0 12 dX5_choose_84 inX5 kfX5_34 rfl rfl rfl (by decide) rfl ?_
              refine z_iconst (v := (-1)) F dX5_choose_87 (by decide) ?_
              refine z_icmp_ne (tgt := 95) F dX5_choose_88 (by decide) (fun c88 => ?_) (fun c88 => ?_)
              · refine z_aload_n F dX5_choose_95 rfl ?_
                refine z_aload_n F dX5_choose_96 rfl ?_
                refine z_get (ci := 5) (C := RX5) (T := TX5) (N := 20) F 0 14 dX5_choose_97 inX5 kfX5_38 rfl rfl rfl (by decide) rfl ?_
                refine z_aload_n F dX5_choose_100 rfl ?_
                refine z_get (ci := 5) (C := RX5) (T := TX5) (N := 20) F 0 12 dX5_choose_101 inX5 kfX5_34 rfl rfl rfl (by decide) rfl ?_
                refine z_callVi0 F (c_M_cost_b (cd := 0) (ch := some (zmu (fun b a => zmf ro lo ks sl si we ki hw nu b a) co nb (fun u => zwr hw nu u 8) ((true, 0, nx, ns, 0) : zMR) nu).2.2.2.2) (em := false) (bx := zcpo bx (zmu (fun b a => zmf ro lo ks sl si we ki hw nu b a) co nb (fun u => zwr hw nu u 8) ((true, 0, nx, ns, 0) : zMR) nu).2.2.1 (zmu (fun b a => zmf ro lo ks sl si we ki hw nu b a) co nb (fun u => zwr hw nu u 8) ((true, 0, nx, ns, 0) : zMR) nu).2.2.2.2) (sx := zcpn sx (zmu (fun b a => zmf ro lo ks sl si we ki hw nu b a) co nb (fun u => zwr hw nu u 8) ((true, 0, nx, ns, 0) : zMR) nu).2.2.2.1 (zmu (fun b a => zmf ro lo ks sl si we ki hw nu b a) co nb (fun u => zwr hw nu u 8) ((true, 0, nx, ns, 0) : zMR) nu).2.2.2.2) (cn := (zmu (fun b a => zmf ro lo ks sl si we ki hw nu b a) co nb (fun u => zwr hw nu u 8) ((true, 0, nx, ns, 0) : zMR) nu).2.2.2.2) (nx := (zmu (fun b a => zmf ro lo ks sl si we ki hw nu b a) co nb (fun u => zwr hw nu u 8) ((true, 0, nx, ns, 0) : zMR) nu).2.2.1) (ns := (zmu (fun b a => zmf ro lo ks sl si we ki hw nu b a) co nb (fun u => zwr hw nu u 8) ((true, 0, nx, ns, 0) : zMR) nu).2.2.2.1) (zmu (fun b a => zmf ro lo ks sl si we ki hw nu b a) co nb (fun u => zwr hw nu u 8) ((true, 0, nx, ns, 0) : zMR) nu).2.2.2.2 (by omega) hbx) 0 rfl rfl (zcwV F.2.2.2.2.1 kcX5_costOf kmX5_102 kiX5_costOf ksX5_costOf knX5 hdX5_costOf rfl rfl ⟨(Nat.le_of_ble_eq_true rfl), (Nat.le_of_ble_eq_true rfl)⟩) dX5_choose_104 rfl rfl (Nat.le_of_ble_eq_true rfl) ⟨(Nat.le_of_ble_eq_true rfl), (Nat.le_of_ble_eq_true rfl)⟩ ?_
                rintro r w2 ⟨rfl, rfl⟩
                exact z_iret F hr rfl hlk dX5_choose_107 ⟨rfl, rfl⟩ (Nat.le_of_ble_eq_true rfl) (Nat.le_of_ble_eq_true rfl)
              · exact absurd c88 (zo_ne (by omega))
            · exact absurd rfl c64
        · exact absurd rfl c48
      · exact absurd ((nI_leI (by omega) (by omega)).mp (znlt_ge c38)) (by omega)
    · exact absurd (by decide) c23
