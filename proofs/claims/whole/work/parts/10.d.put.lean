set_option maxHeartbeats 4000000 in
set_option maxRecDepth 100000 in
/-- putByRule -/
theorem c_X_putByRule {l : Launch} {D : va_G} {tys : List (ClassId × FieldType)} {ad : Nat → Nat} {cA : ClassId} {ro lo co ks : Nat → Nat} {nb sl : Nat} {si we ki ap tg : Nat → Nat} {nu : Nat} {bn us : Nat → Nat} {nh ct : Nat} {mk ex : Bool} {ob : Nat → Option Nat} {oc : Nat → Nat} {lc : Nat → Option Nat} {fb fs : Nat → Nat} (ok : zok ro lo co ks nb sl si we ki ap tg nu) (okh : zokH ((bn, us, nh, ct) : zCh)) (h0 : nh = 0) : zMi l yX4_putByRule (zws yX4_putByRule cX4_putByRule 4 (some .boolean)) { frames := 6, cells := 0, slots := 0, locals := 131 } D zcl ((cA, .int) :: tys) zG [.ref (ad 0)] (wX ad cA ro lo co ks nb sl si we ki ap tg nu bn us nh ct mk ex ob oc lc fb fs) (fun r w2 => r = zB (zbr (zff ro lo ks sl si we ki ap tg nu) co nb (fun u => zco tg nu u nu) ((bn, us, nh, ct) : zCh) nu).1 ∧ w2 = (wX ad cA ro lo co ks nb sl si we ki ap tg nu (zbr (zff ro lo ks sl si we ki ap tg nu) co nb (fun u => zco tg nu u nu) ((bn, us, nh, ct) : zCh) nu).2.2.1 (zbr (zff ro lo ks sl si we ki ap tg nu) co nb (fun u => zco tg nu u nu) ((bn, us, nh, ct) : zCh) nu).2.2.2.1 (zbr (zff ro lo ks sl si we ki ap tg nu) co nb (fun u => zco tg nu u nu) ((bn, us, nh, ct) : zCh) nu).2.2.2.2.1 (zbr (zff ro lo ks sl si we ki ap tg nu) co nb (fun u => zco tg nu u nu) ((bn, us, nh, ct) : zCh) nu).2.2.2.2.2 mk ex ob oc lc fb fs)) 0 0 := by
  refine z_ofi (cc := cX4_putByRule) (maxL := 4) (ret := (some .boolean)) (by decide) rfl (Nat.le_of_ble_eq_true rfl) ?_
  intro p e s m below meth c A F hr hlk hnm
  obtain ⟨o1, o2, o3, o4, o5, o6, o7, o8, o9, o10, o11, o12⟩ := id ok
  have loop : ∀ (n u : Nat), u ≤ nu → nu + 1 ≤ u + n → (zbr (zff ro lo ks sl si we ki ap tg nu) co nb (fun u => zco tg nu u nu) ((bn, us, nh, ct) : zCh) u).1 = true → zW p l e (headSpec (zws yX4_putByRule cX4_putByRule 4 (some .boolean)) { frames := 6, cells := 0, slots := 0, locals := 131 }).room s m [.ref (ad 0)].toArray below meth c 4 D zcl A 0 0 (MQ below (va_Qi (fun r w2 => r = zB (zbr (zff ro lo ks sl si we ki ap tg nu) co nb (fun u => zco tg nu u nu) ((bn, us, nh, ct) : zCh) nu).1 ∧ w2 = (wX ad cA ro lo co ks nb sl si we ki ap tg nu (zbr (zff ro lo ks sl si we ki ap tg nu) co nb (fun u => zco tg nu u nu) ((bn, us, nh, ct) : zCh) nu).2.2.1 (zbr (zff ro lo ks sl si we ki ap tg nu) co nb (fun u => zco tg nu u nu) ((bn, us, nh, ct) : zCh) nu).2.2.2.1 (zbr (zff ro lo ks sl si we ki ap tg nu) co nb (fun u => zco tg nu u nu) ((bn, us, nh, ct) : zCh) nu).2.2.2.2.1 (zbr (zff ro lo ks sl si we ki ap tg nu) co nb (fun u => zco tg nu u nu) ((bn, us, nh, ct) : zCh) nu).2.2.2.2.2 mk ex ob oc lc fb fs)) (zEnd D zcl A) A) [.ref (ad 0)].toArray s 0 0 A) (wX ad cA ro lo co ks nb sl si we ki ap tg nu (zbr (zff ro lo ks sl si we ki ap tg nu) co nb (fun u => zco tg nu u nu) ((bn, us, nh, ct) : zCh) u).2.2.1 (zbr (zff ro lo ks sl si we ki ap tg nu) co nb (fun u => zco tg nu u nu) ((bn, us, nh, ct) : zCh) u).2.2.2.1 (zbr (zff ro lo ks sl si we ki ap tg nu) co nb (fun u => zco tg nu u nu) ((bn, us, nh, ct) : zCh) u).2.2.2.2.1 (zbr (zff ro lo ks sl si we ki ap tg nu) co nb (fun u => zco tg nu u nu) ((bn, us, nh, ct) : zCh) u).2.2.2.2.2 mk ex ob oc lc fb fs) [(0, .ref (ad 0)), (1, .int (nI (zbr (zff ro lo ks sl si we ki ap tg nu) co nb (fun u => zco tg nu u nu) ((bn, us, nh, ct) : zCh) u).2.1)), (2, .int (nI u))] 4 [] := by
    intro n
    induction n with
    | zero => intro u h1 h2; omega
    | succ n ih =>
      intro u hu1 hu2 hg
      obtain ⟨q1, q2, q3⟩ := zbr_ok (FF := zff ro lo ks sl si we ki ap tg nu) (co := co) (cm := (fun u => zco tg nu u nu)) okh h0 o1 (fun v hv => zco_lt (k := 8) o12 hv nu) u (by omega)
      refine z_iload_n F dX4_putByRule_4 rfl ?_
      refine z_aload_n F dX4_putByRule_5 rfl ?_
      refine z_get (ci := 4) (C := RX4) (T := TX4) (N := 4) F 0 1 dX4_putByRule_6 inX4 kfX4_19 rfl rfl rfl (by decide) rfl ?_
      refine z_getN (ci := 3) (C := RX3) (T := TX3) (N := 6) F 6 5 dX4_putByRule_9 inX3 (nfX4_84 F.2.2.2.2.2.2.2.1) rfl rfl rfl (by decide) rfl ?_
      refine z_icmp_ge (tgt := 52) F dX4_putByRule_12 (by decide) (fun c12 => ?_) (fun c12 => ?_)
      · have eu := zge_end hu1 (by omega) c12
        refine z_iconst (v := 1) F dX4_putByRule_52 (by decide) ?_
        exact z_iret F hr rfl hlk dX4_putByRule_53 ⟨by have e := hg; rw [eu] at e; rw [e]; rfl, by rw [eu]⟩ (Nat.le_of_ble_eq_true rfl) (Nat.le_of_ble_eq_true rfl)
      · have hlt := zge_on (by omega) hu1 c12
        refine z_iload_n F dX4_putByRule_15 rfl ?_
        refine z_iload_n F dX4_putByRule_16 rfl ?_
        refine z_callSi0 F (c_holds (zbr (zff ro lo ks sl si we ki ap tg nu) co nb (fun u => zco tg nu u nu) ((bn, us, nh, ct) : zCh) u).2.1 u (Nat.lt_trans q3 (by decide)) (by omega)) (zcwS F.2.2.2.2.1 kcX4_holds kmX4_163 ktX4_holds knX4 hdX4_holds rfl rfl ⟨(Nat.le_of_ble_eq_true rfl), (Nat.le_of_ble_eq_true rfl)⟩) dX4_putByRule_17 rfl rfl (Nat.le_of_ble_eq_true rfl) ⟨(Nat.le_of_ble_eq_true rfl), (Nat.le_of_ble_eq_true rfl)⟩ ?_
        rintro r w2 ⟨rfl, rfl⟩
        refine z_if_ne (tgt := 46) F dX4_putByRule_20 (by decide) (fun c20 => ?_) (fun c20 => ?_)
        · refine z_iinc (v := nI (u + 1)) F dX4_putByRule_46 rfl (nI_1 u) (by decide) ?_
          refine z_goto (tgt := 4) F dX4_putByRule_49 (by decide) ?_
          have e9 : (zbr (zff ro lo ks sl si we ki ap tg nu) co nb (fun u => zco tg nu u nu) ((bn, us, nh, ct) : zCh) (u + 1)) = _ := zrs_k hg (zB_1.mp c20)
          have h9 := ih (u + 1) (by omega) (by omega) (by rw [e9]; exact hg)
          rw [e9] at h9
          exact z_lv rfl h9
        · refine z_aload_n F dX4_putByRule_23 rfl ?_
          refine z_get (ci := 4) (C := RX4) (T := TX4) (N := 4) F 0 1 dX4_putByRule_24 inX4 kfX4_19 rfl rfl rfl (by decide) rfl ?_
          refine z_iload_n F dX4_putByRule_27 rfl ?_
          refine z_callVi (w1 := ((ad 0, .inr (4, [.ref (ad 1), .ref (ad 6), .ref (ad 12), .ref (ad 15)])) :: wC (ad 1) (ad 2) (ad 3) (ad 4) (ad 5) cA ro lo co ks nb sl)) (w3 := (wH (ad 12) (ad 13) (ad 14) cA (zbr (zff ro lo ks sl si we ki ap tg nu) co nb (fun u => zco tg nu u nu) ((bn, us, nh, ct) : zCh) u).2.2.1 (zbr (zff ro lo ks sl si we ki ap tg nu) co nb (fun u => zco tg nu u nu) ((bn, us, nh, ct) : zCh) u).2.2.2.1 (zbr (zff ro lo ks sl si we ki ap tg nu) co nb (fun u => zco tg nu u nu) ((bn, us, nh, ct) : zCh) u).2.2.2.2.1 (zbr (zff ro lo ks sl si we ki ap tg nu) co nb (fun u => zco tg nu u nu) ((bn, us, nh, ct) : zCh) u).2.2.2.2.2 mk ex ++ wE (ad 15) (ad 16) (ad 17) (ad 18) (ad 19) (ad 20) cA ob oc lc fb fs)) F (c_U_companyOf o3 o12 u hlt) 0 rfl rfl (zcwV F.2.2.2.2.1 kcX3_companyOf kmX4_139 kiX3_companyOf ksX3_companyOf knX3 hdX3_companyOf rfl rfl ⟨(Nat.le_of_ble_eq_true rfl), (Nat.le_of_ble_eq_true rfl)⟩) dX4_putByRule_28 rfl rfl rfl (Nat.le_of_ble_eq_true rfl) ⟨(Nat.le_of_ble_eq_true rfl), (Nat.le_of_ble_eq_true rfl)⟩ ?_
          rintro r w2 ⟨rfl, rfl⟩
          refine z_eq (ws2 := (wX ad cA ro lo co ks nb sl si we ki ap tg nu (zbr (zff ro lo ks sl si we ki ap tg nu) co nb (fun u => zco tg nu u nu) ((bn, us, nh, ct) : zCh) u).2.2.1 (zbr (zff ro lo ks sl si we ki ap tg nu) co nb (fun u => zco tg nu u nu) ((bn, us, nh, ct) : zCh) u).2.2.2.1 (zbr (zff ro lo ks sl si we ki ap tg nu) co nb (fun u => zco tg nu u nu) ((bn, us, nh, ct) : zCh) u).2.2.2.2.1 (zbr (zff ro lo ks sl si we ki ap tg nu) co nb (fun u => zco tg nu u nu) ((bn, us, nh, ct) : zCh) u).2.2.2.2.2 mk ex ob oc lc fb fs)) rfl rfl rfl rfl ?_
          refine z_istore_n F dX4_putByRule_31 (by decide) ?_
          refine z_aload_n F dX4_putByRule_32 rfl ?_
          refine z_iload_n F dX4_putByRule_33 rfl ?_
          refine z_callVi0 F (c_X_putCompany (bn := (zbr (zff ro lo ks sl si we ki ap tg nu) co nb (fun u => zco tg nu u nu) ((bn, us, nh, ct) : zCh) u).2.2.1) (us := (zbr (zff ro lo ks sl si we ki ap tg nu) co nb (fun u => zco tg nu u nu) ((bn, us, nh, ct) : zCh) u).2.2.2.1) (nh := (zbr (zff ro lo ks sl si we ki ap tg nu) co nb (fun u => zco tg nu u nu) ((bn, us, nh, ct) : zCh) u).2.2.2.2.1) (ct := (zbr (zff ro lo ks sl si we ki ap tg nu) co nb (fun u => zco tg nu u nu) ((bn, us, nh, ct) : zCh) u).2.2.2.2.2) ok q1 (by omega) (zco tg nu u nu) (zco_lt (k := 8) o12 (by omega) nu)) 0 rfl rfl (zcwV F.2.2.2.2.1 kcX4_putCompany kmX4_221 kiX4_putCompany ksX4_putCompany knX4 hdX4_putCompany rfl rfl ⟨(Nat.le_of_ble_eq_true rfl), (Nat.le_of_ble_eq_true rfl)⟩) dX4_putByRule_34 rfl rfl (Nat.le_of_ble_eq_true rfl) ⟨(Nat.le_of_ble_eq_true rfl), (Nat.le_of_ble_eq_true rfl)⟩ ?_
          rintro r w2 ⟨rfl, rfl⟩
          refine z_if_ne (tgt := 42) F dX4_putByRule_37 (by decide) (fun c37 => ?_) (fun c37 => ?_)
          · refine z_iload_n F dX4_putByRule_42 rfl ?_
            refine z_iload_n F dX4_putByRule_43 rfl ?_
            refine z_ior F dX4_putByRule_44 ?_
            refine z_topi (y := nI ((zbr (zff ro lo ks sl si we ki ap tg nu) co nb (fun u => zco tg nu u nu) ((bn, us, nh, ct) : zCh) u).2.1 ||| zco tg nu u nu)) (zb_or _ _) ?_
            refine z_istore_n F dX4_putByRule_45 (by decide) ?_
            refine z_iinc (v := nI (u + 1)) F dX4_putByRule_46 rfl (nI_1 u) (by decide) ?_
            refine z_goto (tgt := 4) F dX4_putByRule_49 (by decide) ?_
            have e9 : (zbr (zff ro lo ks sl si we ki ap tg nu) co nb (fun u => zco tg nu u nu) ((bn, us, nh, ct) : zCh) (u + 1)) = _ := zrs_p hg (zB_0.mp c20)
            have h9 := ih (u + 1) (by omega) (by omega) (by rw [e9]; exact zB_1.mp c37)
            rw [e9] at h9
            exact z_lv rfl h9
          · have e9 : (zbr (zff ro lo ks sl si we ki ap tg nu) co nb (fun u => zco tg nu u nu) ((bn, us, nh, ct) : zCh) (u + 1)) = _ := zrs_p hg (zB_0.mp c20)
            have f9 : (zbr (zff ro lo ks sl si we ki ap tg nu) co nb (fun u => zco tg nu u nu) ((bn, us, nh, ct) : zCh) (u + 1)).1 = false := by rw [e9]; exact zB_0.mp c37
            have g9 := zbr_up f9 (nu - (u + 1))
            rw [show u + 1 + (nu - (u + 1)) = nu by omega, e9] at g9
            refine z_iconst (v := 0) F dX4_putByRule_40 (by decide) ?_
            exact z_iret F hr rfl hlk dX4_putByRule_41 ⟨by rw [g9, zB_0.mp c37]; rfl, by rw [g9]⟩ (Nat.le_of_ble_eq_true rfl) (Nat.le_of_ble_eq_true rfl)
  refine z_iconst (v := 0) F dX4_putByRule_0 (by decide) ?_
  refine z_istore_n F dX4_putByRule_1 (by decide) ?_
  refine z_iconst (v := 0) F dX4_putByRule_2 (by decide) ?_
  refine z_istore_n F dX4_putByRule_3 (by decide) ?_
  exact z_lv rfl (loop (nu + 1) 0 (by omega) (by omega) rfl)

set_option maxHeartbeats 4000000 in
set_option maxRecDepth 100000 in
/-- putExactly -/
theorem c_X_putExactly {l : Launch} {D : va_G} {tys : List (ClassId × FieldType)} {ad : Nat → Nat} {cA : ClassId} {ro lo co ks : Nat → Nat} {nb sl : Nat} {si we ki ap tg : Nat → Nat} {nu : Nat} {bn us : Nat → Nat} {nh ct : Nat} {mk ex : Bool} {ob : Nat → Option Nat} {oc : Nat → Nat} {lc : Nat → Option Nat} {fb fs : Nat → Nat} (ok : zok ro lo co ks nb sl si we ki ap tg nu) (hu6 : nu ≤ 6) (hn : nh + 6 ≤ 8) (oo1 : ∀ x, oc x ≤ 1000) (oo2 : ∀ x b, ob x = some b → b < 6) : zMi l yX4_putExactly (zws yX4_putExactly cX4_putExactly 4 (some .boolean)) { frames := 5, cells := 0, slots := 0, locals := 108 } D zcl ((cA, .int) :: tys) zG [.ref (ad 0)] (wX ad cA ro lo co ks nb sl si we ki ap tg nu bn us nh ct mk ex ob oc lc fb fs) (fun r w2 => r = zB ((zall (zfr (zos (zff ro lo ks sl si we ki ap tg nu) co nb) ((zclr ob 64, oc) : zO) 1 ((2 ^ nu - 1) + 1)).1 (zfr (zos (zff ro lo ks sl si we ki ap tg nu) co nb) ((zclr ob 64, oc) : zO) 1 ((2 ^ nu - 1) + 1)).2 (2 ^ nu - 1) (zt0 lc fb fs)).1 (2 ^ nu - 1)).isSome ∧ w2 = (wX ad cA ro lo co ks nb sl si we ki ap tg nu (zpb (zfr (zos (zff ro lo ks sl si we ki ap tg nu) co nb) ((zclr ob 64, oc) : zO) 1 ((2 ^ nu - 1) + 1)).1 (zfr (zos (zff ro lo ks sl si we ki ap tg nu) co nb) ((zclr ob 64, oc) : zO) 1 ((2 ^ nu - 1) + 1)).2 (zall (zfr (zos (zff ro lo ks sl si we ki ap tg nu) co nb) ((zclr ob 64, oc) : zO) 1 ((2 ^ nu - 1) + 1)).1 (zfr (zos (zff ro lo ks sl si we ki ap tg nu) co nb) ((zclr ob 64, oc) : zO) 1 ((2 ^ nu - 1) + 1)).2 (2 ^ nu - 1) (zt0 lc fb fs)) (2 ^ nu - 1) (((2 ^ nu - 1), bn, us, nh, ct) : zX)).2.1 (zpb (zfr (zos (zff ro lo ks sl si we ki ap tg nu) co nb) ((zclr ob 64, oc) : zO) 1 ((2 ^ nu - 1) + 1)).1 (zfr (zos (zff ro lo ks sl si we ki ap tg nu) co nb) ((zclr ob 64, oc) : zO) 1 ((2 ^ nu - 1) + 1)).2 (zall (zfr (zos (zff ro lo ks sl si we ki ap tg nu) co nb) ((zclr ob 64, oc) : zO) 1 ((2 ^ nu - 1) + 1)).1 (zfr (zos (zff ro lo ks sl si we ki ap tg nu) co nb) ((zclr ob 64, oc) : zO) 1 ((2 ^ nu - 1) + 1)).2 (2 ^ nu - 1) (zt0 lc fb fs)) (2 ^ nu - 1) (((2 ^ nu - 1), bn, us, nh, ct) : zX)).2.2.1 (zpb (zfr (zos (zff ro lo ks sl si we ki ap tg nu) co nb) ((zclr ob 64, oc) : zO) 1 ((2 ^ nu - 1) + 1)).1 (zfr (zos (zff ro lo ks sl si we ki ap tg nu) co nb) ((zclr ob 64, oc) : zO) 1 ((2 ^ nu - 1) + 1)).2 (zall (zfr (zos (zff ro lo ks sl si we ki ap tg nu) co nb) ((zclr ob 64, oc) : zO) 1 ((2 ^ nu - 1) + 1)).1 (zfr (zos (zff ro lo ks sl si we ki ap tg nu) co nb) ((zclr ob 64, oc) : zO) 1 ((2 ^ nu - 1) + 1)).2 (2 ^ nu - 1) (zt0 lc fb fs)) (2 ^ nu - 1) (((2 ^ nu - 1), bn, us, nh, ct) : zX)).2.2.2.1 (zpb (zfr (zos (zff ro lo ks sl si we ki ap tg nu) co nb) ((zclr ob 64, oc) : zO) 1 ((2 ^ nu - 1) + 1)).1 (zfr (zos (zff ro lo ks sl si we ki ap tg nu) co nb) ((zclr ob 64, oc) : zO) 1 ((2 ^ nu - 1) + 1)).2 (zall (zfr (zos (zff ro lo ks sl si we ki ap tg nu) co nb) ((zclr ob 64, oc) : zO) 1 ((2 ^ nu - 1) + 1)).1 (zfr (zos (zff ro lo ks sl si we ki ap tg nu) co nb) ((zclr ob 64, oc) : zO) 1 ((2 ^ nu - 1) + 1)).2 (2 ^ nu - 1) (zt0 lc fb fs)) (2 ^ nu - 1) (((2 ^ nu - 1), bn, us, nh, ct) : zX)).2.2.2.2 mk ex (zfr (zos (zff ro lo ks sl si we ki ap tg nu) co nb) ((zclr ob 64, oc) : zO) 1 ((2 ^ nu - 1) + 1)).1 (zfr (zos (zff ro lo ks sl si we ki ap tg nu) co nb) ((zclr ob 64, oc) : zO) 1 ((2 ^ nu - 1) + 1)).2 (zall (zfr (zos (zff ro lo ks sl si we ki ap tg nu) co nb) ((zclr ob 64, oc) : zO) 1 ((2 ^ nu - 1) + 1)).1 (zfr (zos (zff ro lo ks sl si we ki ap tg nu) co nb) ((zclr ob 64, oc) : zO) 1 ((2 ^ nu - 1) + 1)).2 (2 ^ nu - 1) (zt0 lc fb fs)).1 (zall (zfr (zos (zff ro lo ks sl si we ki ap tg nu) co nb) ((zclr ob 64, oc) : zO) 1 ((2 ^ nu - 1) + 1)).1 (zfr (zos (zff ro lo ks sl si we ki ap tg nu) co nb) ((zclr ob 64, oc) : zO) 1 ((2 ^ nu - 1) + 1)).2 (2 ^ nu - 1) (zt0 lc fb fs)).2.1 (zall (zfr (zos (zff ro lo ks sl si we ki ap tg nu) co nb) ((zclr ob 64, oc) : zO) 1 ((2 ^ nu - 1) + 1)).1 (zfr (zos (zff ro lo ks sl si we ki ap tg nu) co nb) ((zclr ob 64, oc) : zO) 1 ((2 ^ nu - 1) + 1)).2 (2 ^ nu - 1) (zt0 lc fb fs)).2.2)) 0 0 := by
  refine z_ofi (cc := cX4_putExactly) (maxL := 4) (ret := (some .boolean)) (by decide) rfl (Nat.le_of_ble_eq_true rfl) ?_
  intro p e s m below meth c A F hr hlk hnm
  obtain ⟨o1, o2, o3, o4, o5, o6, o7, o8, o9, o10, o11, o12⟩ := id ok
  have hp : 0 < 2 ^ nu := Nat.two_pow_pos nu
  have hp2 : 2 ^ nu ≤ 2 ^ 6 := Nat.pow_le_pow_right (by decide) hu6
  have hy : (2 ^ nu - 1) < 64 := by omega
  have oko : zokO (zfr (zos (zff ro lo ks sl si we ki ap tg nu) co nb) ((zclr ob 64, oc) : zO) 1 ((2 ^ nu - 1) + 1)) := zfr_ok (I := zokO) ⟨oo1, fun x b hb => by
      have hb : zclr ob 64 x = some b := hb
      unfold zclr at hb
      by_cases q : x < 64
      · rw [if_pos q] at hb; cases hb
      · rw [if_neg q] at hb; exact oo2 x b hb⟩ _ (fun x b _ hb => zos_ok o1 o6 hb)
  have loop : ∀ (n x : Nat), 1 ≤ x → x ≤ (2 ^ nu - 1) + 1 → (2 ^ nu - 1) + 2 ≤ x + n → zW p l e (headSpec (zws yX4_putExactly cX4_putExactly 4 (some .boolean)) { frames := 5, cells := 0, slots := 0, locals := 108 }).room s m [.ref (ad 0)].toArray below meth c 4 D zcl A 0 0 (MQ below (va_Qi (fun r w2 => r = zB ((zall (zfr (zos (zff ro lo ks sl si we ki ap tg nu) co nb) ((zclr ob 64, oc) : zO) 1 ((2 ^ nu - 1) + 1)).1 (zfr (zos (zff ro lo ks sl si we ki ap tg nu) co nb) ((zclr ob 64, oc) : zO) 1 ((2 ^ nu - 1) + 1)).2 (2 ^ nu - 1) (zt0 lc fb fs)).1 (2 ^ nu - 1)).isSome ∧ w2 = (wX ad cA ro lo co ks nb sl si we ki ap tg nu (zpb (zfr (zos (zff ro lo ks sl si we ki ap tg nu) co nb) ((zclr ob 64, oc) : zO) 1 ((2 ^ nu - 1) + 1)).1 (zfr (zos (zff ro lo ks sl si we ki ap tg nu) co nb) ((zclr ob 64, oc) : zO) 1 ((2 ^ nu - 1) + 1)).2 (zall (zfr (zos (zff ro lo ks sl si we ki ap tg nu) co nb) ((zclr ob 64, oc) : zO) 1 ((2 ^ nu - 1) + 1)).1 (zfr (zos (zff ro lo ks sl si we ki ap tg nu) co nb) ((zclr ob 64, oc) : zO) 1 ((2 ^ nu - 1) + 1)).2 (2 ^ nu - 1) (zt0 lc fb fs)) (2 ^ nu - 1) (((2 ^ nu - 1), bn, us, nh, ct) : zX)).2.1 (zpb (zfr (zos (zff ro lo ks sl si we ki ap tg nu) co nb) ((zclr ob 64, oc) : zO) 1 ((2 ^ nu - 1) + 1)).1 (zfr (zos (zff ro lo ks sl si we ki ap tg nu) co nb) ((zclr ob 64, oc) : zO) 1 ((2 ^ nu - 1) + 1)).2 (zall (zfr (zos (zff ro lo ks sl si we ki ap tg nu) co nb) ((zclr ob 64, oc) : zO) 1 ((2 ^ nu - 1) + 1)).1 (zfr (zos (zff ro lo ks sl si we ki ap tg nu) co nb) ((zclr ob 64, oc) : zO) 1 ((2 ^ nu - 1) + 1)).2 (2 ^ nu - 1) (zt0 lc fb fs)) (2 ^ nu - 1) (((2 ^ nu - 1), bn, us, nh, ct) : zX)).2.2.1 (zpb (zfr (zos (zff ro lo ks sl si we ki ap tg nu) co nb) ((zclr ob 64, oc) : zO) 1 ((2 ^ nu - 1) + 1)).1 (zfr (zos (zff ro lo ks sl si we ki ap tg nu) co nb) ((zclr ob 64, oc) : zO) 1 ((2 ^ nu - 1) + 1)).2 (zall (zfr (zos (zff ro lo ks sl si we ki ap tg nu) co nb) ((zclr ob 64, oc) : zO) 1 ((2 ^ nu - 1) + 1)).1 (zfr (zos (zff ro lo ks sl si we ki ap tg nu) co nb) ((zclr ob 64, oc) : zO) 1 ((2 ^ nu - 1) + 1)).2 (2 ^ nu - 1) (zt0 lc fb fs)) (2 ^ nu - 1) (((2 ^ nu - 1), bn, us, nh, ct) : zX)).2.2.2.1 (zpb (zfr (zos (zff ro lo ks sl si we ki ap tg nu) co nb) ((zclr ob 64, oc) : zO) 1 ((2 ^ nu - 1) + 1)).1 (zfr (zos (zff ro lo ks sl si we ki ap tg nu) co nb) ((zclr ob 64, oc) : zO) 1 ((2 ^ nu - 1) + 1)).2 (zall (zfr (zos (zff ro lo ks sl si we ki ap tg nu) co nb) ((zclr ob 64, oc) : zO) 1 ((2 ^ nu - 1) + 1)).1 (zfr (zos (zff ro lo ks sl si we ki ap tg nu) co nb) ((zclr ob 64, oc) : zO) 1 ((2 ^ nu - 1) + 1)).2 (2 ^ nu - 1) (zt0 lc fb fs)) (2 ^ nu - 1) (((2 ^ nu - 1), bn, us, nh, ct) : zX)).2.2.2.2 mk ex (zfr (zos (zff ro lo ks sl si we ki ap tg nu) co nb) ((zclr ob 64, oc) : zO) 1 ((2 ^ nu - 1) + 1)).1 (zfr (zos (zff ro lo ks sl si we ki ap tg nu) co nb) ((zclr ob 64, oc) : zO) 1 ((2 ^ nu - 1) + 1)).2 (zall (zfr (zos (zff ro lo ks sl si we ki ap tg nu) co nb) ((zclr ob 64, oc) : zO) 1 ((2 ^ nu - 1) + 1)).1 (zfr (zos (zff ro lo ks sl si we ki ap tg nu) co nb) ((zclr ob 64, oc) : zO) 1 ((2 ^ nu - 1) + 1)).2 (2 ^ nu - 1) (zt0 lc fb fs)).1 (zall (zfr (zos (zff ro lo ks sl si we ki ap tg nu) co nb) ((zclr ob 64, oc) : zO) 1 ((2 ^ nu - 1) + 1)).1 (zfr (zos (zff ro lo ks sl si we ki ap tg nu) co nb) ((zclr ob 64, oc) : zO) 1 ((2 ^ nu - 1) + 1)).2 (2 ^ nu - 1) (zt0 lc fb fs)).2.1 (zall (zfr (zos (zff ro lo ks sl si we ki ap tg nu) co nb) ((zclr ob 64, oc) : zO) 1 ((2 ^ nu - 1) + 1)).1 (zfr (zos (zff ro lo ks sl si we ki ap tg nu) co nb) ((zclr ob 64, oc) : zO) 1 ((2 ^ nu - 1) + 1)).2 (2 ^ nu - 1) (zt0 lc fb fs)).2.2)) (zEnd D zcl A) A) [.ref (ad 0)].toArray s 0 0 A) (wX ad cA ro lo co ks nb sl si we ki ap tg nu bn us nh ct mk ex (zfr (zos (zff ro lo ks sl si we ki ap tg nu) co nb) ((zclr ob 64, oc) : zO) 1 x).1 (zfr (zos (zff ro lo ks sl si we ki ap tg nu) co nb) ((zclr ob 64, oc) : zO) 1 x).2 (zuo (zclr lc 64) 0 (some 0)) (zu fb 0 0) fs) [(0, .ref (ad 0)), (1, .int (nI (2 ^ nu - 1))), (2, .int (nI x))] 17 [] := by
    intro n
    induction n with
    | zero => intro x h1 h2 h3; omega
    | succ n ih =>
      intro x hx1 hx2 hx3
      refine z_iload_n F dX4_putExactly_17 rfl ?_
      refine z_iload_n F dX4_putExactly_18 rfl ?_
      refine z_icmp_gt (tgt := 63) F dX4_putExactly_19 (by decide) (fun c19 => ?_) (fun c19 => ?_)
      · have ex1 : x = (2 ^ nu - 1) + 1 := by rw [nI_ltI (by omega) (by omega)] at c19; omega
        subst ex1
        refine z_aload_n F dX4_putExactly_63 rfl ?_
        refine z_get (ci := 4) (C := RX4) (T := TX4) (N := 4) F 0 3 dX4_putExactly_64 inX4 kfX4_33 rfl rfl rfl (by decide) rfl ?_
        refine z_iload_n F dX4_putExactly_67 rfl ?_
        refine z_aload_n F dX4_putExactly_68 rfl ?_
        refine z_get (ci := 4) (C := RX4) (T := TX4) (N := 4) F 0 2 dX4_putExactly_69 inX4 kfX4_26 rfl rfl rfl (by decide) rfl ?_
        refine z_callVi (w1 := ((ad 0, .inr (4, [.ref (ad 1), .ref (ad 6), .ref (ad 12), .ref (ad 15)])) :: (wC (ad 1) (ad 2) (ad 3) (ad 4) (ad 5) cA ro lo co ks nb sl ++ wU (ad 6) (ad 7) (ad 8) (ad 9) (ad 10) (ad 11) cA si we ki ap tg nu))) (w3 := []) F (c_E_putBest (ob := (zfr (zos (zff ro lo ks sl si we ki ap tg nu) co nb) ((zclr ob 64, oc) : zO) 1 ((2 ^ nu - 1) + 1)).1) (oc := (zfr (zos (zff ro lo ks sl si we ki ap tg nu) co nb) ((zclr ob 64, oc) : zO) 1 ((2 ^ nu - 1) + 1)).2) (t := zt0 lc fb fs) (zt0_ok lc fb fs oko) hn (2 ^ nu - 1) hy) 3 rfl rfl (zcwV F.2.2.2.2.1 kcX2_putBest kmX4_217 kiX2_putBest ksX2_putBest knX2 hdX2_putBest rfl rfl ⟨(Nat.le_of_ble_eq_true rfl), (Nat.le_of_ble_eq_true rfl)⟩) dX4_putExactly_72 rfl rfl rfl (Nat.le_of_ble_eq_true rfl) ⟨(Nat.le_of_ble_eq_true rfl), (Nat.le_of_ble_eq_true rfl)⟩ ?_
        rintro r w2 ⟨rfl, rfl⟩
        exact z_iret F hr (zB_nar _) hlk dX4_putExactly_75 ⟨rfl, rfl⟩ (Nat.le_of_ble_eq_true rfl) (Nat.le_of_ble_eq_true rfl)
      · have hxy : x ≤ (2 ^ nu - 1) := by rw [nI_ltI (by omega) (by omega)] at c19; omega
        refine z_aload_n F dX4_putExactly_22 rfl ?_
        refine z_get (ci := 4) (C := RX4) (T := TX4) (N := 4) F 0 0 dX4_putExactly_23 inX4 kfX4_12 rfl rfl rfl (by decide) rfl ?_
        refine z_aload_n F dX4_putExactly_26 rfl ?_
        refine z_iload_n F dX4_putExactly_27 rfl ?_
        refine z_callVi0 F (c_X_for ok x (by omega)) 0 rfl rfl (zcwV F.2.2.2.2.1 kcX4_boxesFor kmX4_205 kiX4_boxesFor ksX4_boxesFor knX4 hdX4_boxesFor rfl rfl ⟨(Nat.le_of_ble_eq_true rfl), (Nat.le_of_ble_eq_true rfl)⟩) dX4_putExactly_28 rfl rfl (Nat.le_of_ble_eq_true rfl) ⟨(Nat.le_of_ble_eq_true rfl), (Nat.le_of_ble_eq_true rfl)⟩ ?_
        rintro r w2 ⟨rfl, rfl⟩
        refine z_callVi (w1 := [(ad 0, .inr (4, [.ref (ad 1), .ref (ad 6), .ref (ad 12), .ref (ad 15)]))]) (w3 := (wU (ad 6) (ad 7) (ad 8) (ad 9) (ad 10) (ad 11) cA si we ki ap tg nu ++ (wH (ad 12) (ad 13) (ad 14) cA bn us nh ct mk ex ++ wE (ad 15) (ad 16) (ad 17) (ad 18) (ad 19) (ad 20) cA (zfr (zos (zff ro lo ks sl si we ki ap tg nu) co nb) ((zclr ob 64, oc) : zO) 1 x).1 (zfr (zos (zff ro lo ks sl si we ki ap tg nu) co nb) ((zclr ob 64, oc) : zO) 1 x).2 (zuo (zclr lc 64) 0 (some 0)) (zu fb 0 0) fs))) F (c_C_cheapestOf o1 (zk9 o6 (by decide)) (zset (zff ro lo ks sl si we ki ap tg nu x) nb) (zset31 o1)) 0 rfl rfl (zcwV F.2.2.2.2.1 kcX0_cheapestOf kmX4_208 kiX0_cheapestOf ksX0_cheapestOf knX0 hdX0_cheapestOf rfl rfl ⟨(Nat.le_of_ble_eq_true rfl), (Nat.le_of_ble_eq_true rfl)⟩) dX4_putExactly_31 rfl rfl rfl (Nat.le_of_ble_eq_true rfl) ⟨(Nat.le_of_ble_eq_true rfl), (Nat.le_of_ble_eq_true rfl)⟩ ?_
        rintro r w2 ⟨rfl, rfl⟩
        refine z_eq (ws2 := (wX ad cA ro lo co ks nb sl si we ki ap tg nu bn us nh ct mk ex (zfr (zos (zff ro lo ks sl si we ki ap tg nu) co nb) ((zclr ob 64, oc) : zO) 1 x).1 (zfr (zos (zff ro lo ks sl si we ki ap tg nu) co nb) ((zclr ob 64, oc) : zO) 1 x).2 (zuo (zclr lc 64) 0 (some 0)) (zu fb 0 0) fs)) rfl rfl rfl rfl ?_
        rw [zset_che]
        rcases hz2 : zche (zff ro lo ks sl si we ki ap tg nu x) co nb with _ | b
        · refine z_istore_n F dX4_putExactly_34 (by decide) ?_
          refine z_iload_n F dX4_putExactly_35 rfl ?_
          refine z_iconst (v := (-1)) F dX4_putExactly_36 (by decide) ?_
          refine z_icmp_eq (tgt := 57) F dX4_putExactly_37 (by decide) (fun c37 => ?_) (fun c37 => ?_)
          · refine z_iinc (v := nI (x + 1)) F dX4_putExactly_57 rfl (nI_1 x) (by decide) ?_
            refine z_goto (tgt := 17) F dX4_putExactly_60 (by decide) ?_
            have h9 := ih (x + 1) (by omega) (by omega) (by omega)
            rw [zfr_s hx1, zos_n hz2] at h9
            exact z_lv rfl h9
          · exact absurd rfl c37
        · refine z_istore_n F dX4_putExactly_34 (by decide) ?_
          refine z_iload_n F dX4_putExactly_35 rfl ?_
          refine z_iconst (v := (-1)) F dX4_putExactly_36 (by decide) ?_
          refine z_icmp_eq (tgt := 57) F dX4_putExactly_37 (by decide) (fun c37 => ?_) (fun c37 => ?_)
          · exact absurd c37 (zo_ne (by have := (zche_lt hz2).1; omega))
          · refine z_aload_n F dX4_putExactly_40 rfl ?_
            refine z_get (ci := 4) (C := RX4) (T := TX4) (N := 4) F 0 3 dX4_putExactly_41 inX4 kfX4_33 rfl rfl rfl (by decide) rfl ?_
            refine z_iload_n F dX4_putExactly_44 rfl ?_
            refine z_iload_n F dX4_putExactly_45 rfl ?_
            refine z_aload_n F dX4_putExactly_46 rfl ?_
            refine z_get (ci := 4) (C := RX4) (T := TX4) (N := 4) F 0 0 dX4_putExactly_47 inX4 kfX4_12 rfl rfl rfl (by decide) rfl ?_
            refine z_iload_n F dX4_putExactly_50 rfl ?_
            refine z_callVi (w1 := [(ad 0, .inr (4, [.ref (ad 1), .ref (ad 6), .ref (ad 12), .ref (ad 15)]))]) (w3 := (wU (ad 6) (ad 7) (ad 8) (ad 9) (ad 10) (ad 11) cA si we ki ap tg nu ++ (wH (ad 12) (ad 13) (ad 14) cA bn us nh ct mk ex ++ wE (ad 15) (ad 16) (ad 17) (ad 18) (ad 19) (ad 20) cA (zfr (zos (zff ro lo ks sl si we ki ap tg nu) co nb) ((zclr ob 64, oc) : zO) 1 x).1 (zfr (zos (zff ro lo ks sl si we ki ap tg nu) co nb) ((zclr ob 64, oc) : zO) 1 x).2 (zuo (zclr lc 64) 0 (some 0)) (zu fb 0 0) fs))) F (c_C_costOf o1 b (zche_lt hz2).1) 0 rfl rfl (zcwV F.2.2.2.2.1 kcX0_costOf kmX4_211 kiX0_costOf ksX0_costOf knX0 hdX0_costOf rfl rfl ⟨(Nat.le_of_ble_eq_true rfl), (Nat.le_of_ble_eq_true rfl)⟩) dX4_putExactly_51 rfl rfl rfl (Nat.le_of_ble_eq_true rfl) ⟨(Nat.le_of_ble_eq_true rfl), (Nat.le_of_ble_eq_true rfl)⟩ ?_
            rintro r w2 ⟨rfl, rfl⟩
            refine z_eq (ws2 := (wX ad cA ro lo co ks nb sl si we ki ap tg nu bn us nh ct mk ex (zfr (zos (zff ro lo ks sl si we ki ap tg nu) co nb) ((zclr ob 64, oc) : zO) 1 x).1 (zfr (zos (zff ro lo ks sl si we ki ap tg nu) co nb) ((zclr ob 64, oc) : zO) 1 x).2 (zuo (zclr lc 64) 0 (some 0)) (zu fb 0 0) fs)) rfl rfl rfl rfl ?_
            refine z_callVv (w1 := ((ad 0, .inr (4, [.ref (ad 1), .ref (ad 6), .ref (ad 12), .ref (ad 15)])) :: (wC (ad 1) (ad 2) (ad 3) (ad 4) (ad 5) cA ro lo co ks nb sl ++ (wU (ad 6) (ad 7) (ad 8) (ad 9) (ad 10) (ad 11) cA si we ki ap tg nu ++ wH (ad 12) (ad 13) (ad 14) cA bn us nh ct mk ex)))) (w3 := []) F (c_E_offer x b (co b) (by omega) (by omega)) 0 rfl rfl (zcwV F.2.2.2.2.1 kcX2_offer kmX4_214 kiX2_offer ksX2_offer knX2 hdX2_offer rfl rfl ⟨(Nat.le_of_ble_eq_true rfl), (Nat.le_of_ble_eq_true rfl)⟩) dX4_putExactly_54 rfl rfl rfl (Nat.le_of_ble_eq_true rfl) ⟨(Nat.le_of_ble_eq_true rfl), (Nat.le_of_ble_eq_true rfl)⟩ ?_
            rintro w2 rfl
            refine z_iinc (v := nI (x + 1)) F dX4_putExactly_57 rfl (nI_1 x) (by decide) ?_
            refine z_goto (tgt := 17) F dX4_putExactly_60 (by decide) ?_
            have h9 := ih (x + 1) (by omega) (by omega) (by omega)
            rw [zfr_s hx1, zos_s hz2] at h9
            exact z_lv rfl h9
  refine z_aload_n F dX4_putExactly_0 rfl ?_
  refine z_get (ci := 4) (C := RX4) (T := TX4) (N := 4) F 0 1 dX4_putExactly_1 inX4 kfX4_19 rfl rfl rfl (by decide) rfl ?_
  refine z_callVi (w1 := ((ad 0, .inr (4, [.ref (ad 1), .ref (ad 6), .ref (ad 12), .ref (ad 15)])) :: wC (ad 1) (ad 2) (ad 3) (ad 4) (ad 5) cA ro lo co ks nb sl)) (w3 := (wH (ad 12) (ad 13) (ad 14) cA bn us nh ct mk ex ++ wE (ad 15) (ad 16) (ad 17) (ad 18) (ad 19) (ad 20) cA ob oc lc fb fs)) F (c_U_all o3) 0 rfl rfl (zcwV F.2.2.2.2.1 kcX3_all kmX4_200 kiX3_all ksX3_all knX3 hdX3_all rfl rfl ⟨(Nat.le_of_ble_eq_true rfl), (Nat.le_of_ble_eq_true rfl)⟩) dX4_putExactly_4 rfl rfl rfl (Nat.le_of_ble_eq_true rfl) ⟨(Nat.le_of_ble_eq_true rfl), (Nat.le_of_ble_eq_true rfl)⟩ ?_
  rintro r w2 ⟨rfl, rfl⟩
  refine z_eq (ws2 := (wX ad cA ro lo co ks nb sl si we ki ap tg nu bn us nh ct mk ex ob oc lc fb fs)) rfl rfl rfl rfl ?_
  refine z_istore_n F dX4_putExactly_7 (by decide) ?_
  refine z_aload_n F dX4_putExactly_8 rfl ?_
  refine z_get (ci := 4) (C := RX4) (T := TX4) (N := 4) F 0 3 dX4_putExactly_9 inX4 kfX4_33 rfl rfl rfl (by decide) rfl ?_
  refine z_callVv (w1 := ((ad 0, .inr (4, [.ref (ad 1), .ref (ad 6), .ref (ad 12), .ref (ad 15)])) :: (wC (ad 1) (ad 2) (ad 3) (ad 4) (ad 5) cA ro lo co ks nb sl ++ (wU (ad 6) (ad 7) (ad 8) (ad 9) (ad 10) (ad 11) cA si we ki ap tg nu ++ wH (ad 12) (ad 13) (ad 14) cA bn us nh ct mk ex)))) (w3 := []) F (c_E_clear) 0 rfl rfl (zcwV F.2.2.2.2.1 kcX2_clear kmX4_204 kiX2_clear ksX2_clear knX2 hdX2_clear rfl rfl ⟨(Nat.le_of_ble_eq_true rfl), (Nat.le_of_ble_eq_true rfl)⟩) dX4_putExactly_12 rfl rfl rfl (Nat.le_of_ble_eq_true rfl) ⟨(Nat.le_of_ble_eq_true rfl), (Nat.le_of_ble_eq_true rfl)⟩ ?_
  rintro w2 rfl
  refine z_eq (ws2 := (wX ad cA ro lo co ks nb sl si we ki ap tg nu bn us nh ct mk ex (zclr ob 64) oc (zuo (zclr lc 64) 0 (some 0)) (zu fb 0 0) fs)) rfl rfl rfl rfl ?_
  refine z_iconst (v := 1) F dX4_putExactly_15 (by decide) ?_
  refine z_istore_n F dX4_putExactly_16 (by decide) ?_
  have h9 := loop ((2 ^ nu - 1) + 2) 1 (by omega) (by omega) (by omega)
  rw [zfr_0 _ _ _ _ (Nat.le_refl _)] at h9
  exact z_lv rfl h9
