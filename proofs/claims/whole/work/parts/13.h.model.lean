theorem zns_lt {pt q : Nat → Nat} {nu : Nat} (h : zns pt nu (nu - 1) = some q) : nu - 1 < nu := by
  rcases Nat.eq_zero_or_pos nu with z | z
  · subst z; cases h
  · omega

set_option maxHeartbeats 4000000 in
set_option maxRecDepth 100000 in
theorem c_M_exactly {l : Launch} {D : va_G} {tys : List (ClassId × FieldType)} {am : Nat → Nat} {cA : ClassId} {cd nb : Nat} {ro lo co ks : Nat → Nat} {nu : Nat} {si we ki hw : Nat → Nat} {sl : Nat} {ch : Option Nat} {em : Bool} {bx : Nat → Option Nat} {sx : Nat → Nat} {cn : Nat} {nx : Nat → Option Nat} {ns pt : Nat → Nat} (ok : zok ro lo co ks nb sl si we ki (fun _ => 0) (fun _ => 0) nu) (hh : ∀ x, hw x < 2 ^ 31) {N : Nat} {fin : zM} (hM0 : zMk nu ((ch, bx, sx, cn, nx, ns, zcpn pt (fun _ => 0) nu) : zM)) (hfin : zrn (fun b a => zmf ro lo ks sl si we ki hw nu b a) co nb nu N ((ch, bx, sx, cn, nx, ns, zcpn pt (fun _ => 0) nu) : zM) = some fin) : zMv l yX5_exactly (zws yX5_exactly cX5_exactly 2 none) { frames := 6, cells := 0, slots := 0, locals := 133 } D zcl ((cA, .int) :: tys) zG [.ref (am 0)] (wM am cA cd nb ro lo co ks nu si we ki hw sl ch em bx sx cn nx ns pt) (fun w2 => w2 = (wM am cA cd nb ro lo co ks nu si we ki hw sl fin.1 em fin.2.1 fin.2.2.1 fin.2.2.2.1 fin.2.2.2.2.1 fin.2.2.2.2.2.1 fin.2.2.2.2.2.2)) 0 0 := by
  refine z_ofv (cc := cX5_exactly) (maxL := 2) (ret := none) (by decide) rfl (Nat.le_of_ble_eq_true rfl) ?_
  intro p e s m below meth c A F hr hlk hnm
  obtain ⟨o1, o2, o3, o4, o5, o6, o7, o8, o9, o10, o11, o12⟩ := id ok
  have main : ∀ (n : Nat) (t : zM), zMk nu t → zrn (fun b a => zmf ro lo ks sl si we ki hw nu b a) co nb nu n t = some fin → zW p l e (headSpec (zws yX5_exactly cX5_exactly 2 none) { frames := 6, cells := 0, slots := 0, locals := 133 }).room s m [.ref (am 0)].toArray below meth c 2 D zcl A 0 0 (MQ below (va_Qv (fun w2 => w2 = (wM am cA cd nb ro lo co ks nu si we ki hw sl fin.1 em fin.2.1 fin.2.2.1 fin.2.2.2.1 fin.2.2.2.2.1 fin.2.2.2.2.2.1 fin.2.2.2.2.2.2)) (zEnd D zcl A) A) [.ref (am 0)].toArray s 0 0 A) (wM am cA cd nb ro lo co ks nu si we ki hw sl t.1 em t.2.1 t.2.2.1 t.2.2.2.1 t.2.2.2.2.1 t.2.2.2.2.2.1 t.2.2.2.2.2.2) [(0, .ref (am 0)), (1, .int 1)] 25 [] := by
    intro n
    induction n with
    | zero => intro t hM hfin; cases hfin
    | succ n ih =>
      intro t hM hfin
      refine z_iload_n F dX5_exactly_25 rfl ?_
      refine z_if_eq (tgt := 55) F dX5_exactly_26 (by decide) (fun c26 => ?_) (fun c26 => ?_)
      · exact absurd c26 (by decide)
      · refine z_aload_n F dX5_exactly_29 rfl ?_
        refine z_callVi0 F (c_M_isWay (ch := t.1) (bx := t.2.1) (sx := t.2.2.1) (cn := t.2.2.2.1) (nx := t.2.2.2.2.1) (ns := t.2.2.2.2.2.1) (pt := t.2.2.2.2.2.2) ok hh hM.1 hM.2.2.1) 0 rfl rfl (zcwV F.2.2.2.2.1 kcX5_isWay kmX5_109 kiX5_isWay ksX5_isWay knX5 hdX5_isWay rfl rfl ⟨(Nat.le_of_ble_eq_true rfl), (Nat.le_of_ble_eq_true rfl)⟩) dX5_exactly_30 rfl rfl (Nat.le_of_ble_eq_true rfl) ⟨(Nat.le_of_ble_eq_true rfl), (Nat.le_of_ble_eq_true rfl)⟩ ?_
        rintro r w2 ⟨rfl, rfl⟩
        refine z_if_eq (tgt := 47) F dX5_exactly_33 (by decide) (fun c33 => ?_) (fun c33 => ?_)
        · refine z_aload_n F dX5_exactly_47 rfl ?_
          refine z_callVi0 F (c_M_next (ch := (zmy (fun b a => zmf ro lo ks sl si we ki hw nu b a) co nb nu t).1) (bx := (zmy (fun b a => zmf ro lo ks sl si we ki hw nu b a) co nb nu t).2.1) (sx := (zmy (fun b a => zmf ro lo ks sl si we ki hw nu b a) co nb nu t).2.2.1) (cn := (zmy (fun b a => zmf ro lo ks sl si we ki hw nu b a) co nb nu t).2.2.2.1) (nx := (zmy (fun b a => zmf ro lo ks sl si we ki hw nu b a) co nb nu t).2.2.2.2.1) (ns := (zmy (fun b a => zmf ro lo ks sl si we ki hw nu b a) co nb nu t).2.2.2.2.2.1) (pt := t.2.2.2.2.2.2) o3 hM.2.1) 0 rfl rfl (zcwV F.2.2.2.2.1 kcX5_next kmX5_119 kiX5_next ksX5_next knX5 hdX5_next rfl rfl ⟨(Nat.le_of_ble_eq_true rfl), (Nat.le_of_ble_eq_true rfl)⟩) dX5_exactly_48 rfl rfl (Nat.le_of_ble_eq_true rfl) ⟨(Nat.le_of_ble_eq_true rfl), (Nat.le_of_ble_eq_true rfl)⟩ ?_
          rintro r w2 ⟨rfl, rfl⟩
          refine z_istore_n F dX5_exactly_51 (by decide) ?_
          refine z_goto (tgt := 25) F dX5_exactly_52 (by decide) ?_
          have e9 : (zon (fun b a => zmf ro lo ks sl si we ki hw nu b a) co nb nu t) = (zmy (fun b a => zmf ro lo ks sl si we ki hw nu b a) co nb nu t) := by unfold zon; rw [show zmg (fun b a => zmf ro lo ks sl si we ki hw nu b a) co nb nu t = false from zB_0.mp c33]; rfl
          rcases hq : zns t.2.2.2.2.2.2 nu (nu - 1) with _ | q
          · have e8 := hfin
            rw [zrn_n (by rw [zon_pt]; exact hq), e9] at e8
            have e8 : (zmy (fun b a => zmf ro lo ks sl si we ki hw nu b a) co nb nu t) = fin := Option.some.inj e8
            refine z_iload_n F dX5_exactly_25 rfl ?_
            refine z_if_eq (tgt := 55) F dX5_exactly_26 (by decide) (fun c26 => ?_) (fun c26 => ?_)
            · exact z_vret F hr hlk dX5_exactly_55 (by rw [← e8]; rfl) (Nat.le_of_ble_eq_true rfl) (Nat.le_of_ble_eq_true rfl)
            · exact absurd rfl c26
          · have e8 := hfin
            rw [zrn_s (by rw [zon_pt]; exact hq)] at e8
            have k9 := zon_ok (FM := (fun b a => zmf ro lo ks sl si we ki hw nu b a)) (co := co) (nb := nb) o1 o3 hM
            obtain ⟨x1, x2⟩ := zns_ok o3 hM.1 hM.2.1 (nu - 1) q (zns_lt hq) hq
            have h9 := ih ((zon (fun b a => zmf ro lo ks sl si we ki hw nu b a) co nb nu t).1, (zon (fun b a => zmf ro lo ks sl si we ki hw nu b a) co nb nu t).2.1, (zon (fun b a => zmf ro lo ks sl si we ki hw nu b a) co nb nu t).2.2.1, (zon (fun b a => zmf ro lo ks sl si we ki hw nu b a) co nb nu t).2.2.2.1, (zon (fun b a => zmf ro lo ks sl si we ki hw nu b a) co nb nu t).2.2.2.2.1, (zon (fun b a => zmf ro lo ks sl si we ki hw nu b a) co nb nu t).2.2.2.2.2.1, q) ⟨x1, x2, k9.2.2.1, k9.2.2.2.1, k9.2.2.2.2⟩ e8
            rw [e9] at h9
            exact z_lv rfl h9
        · refine z_aload_n F dX5_exactly_36 rfl ?_
          refine z_callVi0 F (c_M_isBetter (ch := (zmy (fun b a => zmf ro lo ks sl si we ki hw nu b a) co nb nu t).1) (bx := (zmy (fun b a => zmf ro lo ks sl si we ki hw nu b a) co nb nu t).2.1) (sx := (zmy (fun b a => zmf ro lo ks sl si we ki hw nu b a) co nb nu t).2.2.1) (cn := (zmy (fun b a => zmf ro lo ks sl si we ki hw nu b a) co nb nu t).2.2.2.1) (nx := (zmy (fun b a => zmf ro lo ks sl si we ki hw nu b a) co nb nu t).2.2.2.2.1) (ns := (zmy (fun b a => zmf ro lo ks sl si we ki hw nu b a) co nb nu t).2.2.2.2.2.1) (pt := (zmy (fun b a => zmf ro lo ks sl si we ki hw nu b a) co nb nu t).2.2.2.2.2.2) (Nat.le_trans (zwn_le nu hM.1) o3) o6 (zmy_box o1 (zB_1.mp c33)) (zwn_lt hM.2.2.1 nu o3) hM.2.2.2.1 hM.2.2.2.2) 0 rfl rfl (zcwV F.2.2.2.2.1 kcX5_isBetter kmX5_113 kiX5_isBetter ksX5_isBetter knX5 hdX5_isBetter rfl rfl ⟨(Nat.le_of_ble_eq_true rfl), (Nat.le_of_ble_eq_true rfl)⟩) dX5_exactly_37 rfl rfl (Nat.le_of_ble_eq_true rfl) ⟨(Nat.le_of_ble_eq_true rfl), (Nat.le_of_ble_eq_true rfl)⟩ ?_
          rintro r w2 ⟨rfl, rfl⟩
          refine z_if_eq (tgt := 47) F dX5_exactly_40 (by decide) (fun c40 => ?_) (fun c40 => ?_)
          · refine z_aload_n F dX5_exactly_47 rfl ?_
            refine z_callVi0 F (c_M_next (ch := (zmy (fun b a => zmf ro lo ks sl si we ki hw nu b a) co nb nu t).1) (bx := (zmy (fun b a => zmf ro lo ks sl si we ki hw nu b a) co nb nu t).2.1) (sx := (zmy (fun b a => zmf ro lo ks sl si we ki hw nu b a) co nb nu t).2.2.1) (cn := (zmy (fun b a => zmf ro lo ks sl si we ki hw nu b a) co nb nu t).2.2.2.1) (nx := (zmy (fun b a => zmf ro lo ks sl si we ki hw nu b a) co nb nu t).2.2.2.2.1) (ns := (zmy (fun b a => zmf ro lo ks sl si we ki hw nu b a) co nb nu t).2.2.2.2.2.1) (pt := t.2.2.2.2.2.2) o3 hM.2.1) 0 rfl rfl (zcwV F.2.2.2.2.1 kcX5_next kmX5_119 kiX5_next ksX5_next knX5 hdX5_next rfl rfl ⟨(Nat.le_of_ble_eq_true rfl), (Nat.le_of_ble_eq_true rfl)⟩) dX5_exactly_48 rfl rfl (Nat.le_of_ble_eq_true rfl) ⟨(Nat.le_of_ble_eq_true rfl), (Nat.le_of_ble_eq_true rfl)⟩ ?_
            rintro r w2 ⟨rfl, rfl⟩
            refine z_istore_n F dX5_exactly_51 (by decide) ?_
            refine z_goto (tgt := 25) F dX5_exactly_52 (by decide) ?_
            have e9 : (zon (fun b a => zmf ro lo ks sl si we ki hw nu b a) co nb nu t) = (zmy (fun b a => zmf ro lo ks sl si we ki hw nu b a) co nb nu t) := by unfold zon; rw [show zmb co t.1 t.2.1 t.2.2.1 (zmy (fun b a => zmf ro lo ks sl si we ki hw nu b a) co nb nu t).2.2.2.1 (zmy (fun b a => zmf ro lo ks sl si we ki hw nu b a) co nb nu t).2.2.2.2.1 (zmy (fun b a => zmf ro lo ks sl si we ki hw nu b a) co nb nu t).2.2.2.2.2.1 = false from zB_0.mp c40, Bool.and_false]; rfl
            rcases hq : zns t.2.2.2.2.2.2 nu (nu - 1) with _ | q
            · have e8 := hfin
              rw [zrn_n (by rw [zon_pt]; exact hq), e9] at e8
              have e8 : (zmy (fun b a => zmf ro lo ks sl si we ki hw nu b a) co nb nu t) = fin := Option.some.inj e8
              refine z_iload_n F dX5_exactly_25 rfl ?_
              refine z_if_eq (tgt := 55) F dX5_exactly_26 (by decide) (fun c26 => ?_) (fun c26 => ?_)
              · exact z_vret F hr hlk dX5_exactly_55 (by rw [← e8]; rfl) (Nat.le_of_ble_eq_true rfl) (Nat.le_of_ble_eq_true rfl)
              · exact absurd rfl c26
            · have e8 := hfin
              rw [zrn_s (by rw [zon_pt]; exact hq)] at e8
              have k9 := zon_ok (FM := (fun b a => zmf ro lo ks sl si we ki hw nu b a)) (co := co) (nb := nb) o1 o3 hM
              obtain ⟨x1, x2⟩ := zns_ok o3 hM.1 hM.2.1 (nu - 1) q (zns_lt hq) hq
              have h9 := ih ((zon (fun b a => zmf ro lo ks sl si we ki hw nu b a) co nb nu t).1, (zon (fun b a => zmf ro lo ks sl si we ki hw nu b a) co nb nu t).2.1, (zon (fun b a => zmf ro lo ks sl si we ki hw nu b a) co nb nu t).2.2.1, (zon (fun b a => zmf ro lo ks sl si we ki hw nu b a) co nb nu t).2.2.2.1, (zon (fun b a => zmf ro lo ks sl si we ki hw nu b a) co nb nu t).2.2.2.2.1, (zon (fun b a => zmf ro lo ks sl si we ki hw nu b a) co nb nu t).2.2.2.2.2.1, q) ⟨x1, x2, k9.2.2.1, k9.2.2.2.1, k9.2.2.2.2⟩ e8
              rw [e9] at h9
              exact z_lv rfl h9
          · refine z_aload_n F dX5_exactly_43 rfl ?_
            refine z_callVv0 F (c_M_keep (ch := (zmy (fun b a => zmf ro lo ks sl si we ki hw nu b a) co nb nu t).1) (bx := (zmy (fun b a => zmf ro lo ks sl si we ki hw nu b a) co nb nu t).2.1) (sx := (zmy (fun b a => zmf ro lo ks sl si we ki hw nu b a) co nb nu t).2.2.1) (cn := (zmy (fun b a => zmf ro lo ks sl si we ki hw nu b a) co nb nu t).2.2.2.1) (nx := (zmy (fun b a => zmf ro lo ks sl si we ki hw nu b a) co nb nu t).2.2.2.2.1) (ns := (zmy (fun b a => zmf ro lo ks sl si we ki hw nu b a) co nb nu t).2.2.2.2.2.1) (pt := (zmy (fun b a => zmf ro lo ks sl si we ki hw nu b a) co nb nu t).2.2.2.2.2.2) (Nat.le_trans (zwn_le nu hM.1) o3)) 0 rfl rfl (zcwV F.2.2.2.2.1 kcX5_keep kmX5_116 kiX5_keep ksX5_keep knX5 hdX5_keep rfl rfl ⟨(Nat.le_of_ble_eq_true rfl), (Nat.le_of_ble_eq_true rfl)⟩) dX5_exactly_44 rfl rfl (Nat.le_of_ble_eq_true rfl) ⟨(Nat.le_of_ble_eq_true rfl), (Nat.le_of_ble_eq_true rfl)⟩ ?_
            rintro w2 rfl
            refine z_aload_n F dX5_exactly_47 rfl ?_
            refine z_callVi0 F (c_M_next (ch := (zkp (zmy (fun b a => zmf ro lo ks sl si we ki hw nu b a) co nb nu t)).1) (bx := (zkp (zmy (fun b a => zmf ro lo ks sl si we ki hw nu b a) co nb nu t)).2.1) (sx := (zkp (zmy (fun b a => zmf ro lo ks sl si we ki hw nu b a) co nb nu t)).2.2.1) (cn := (zkp (zmy (fun b a => zmf ro lo ks sl si we ki hw nu b a) co nb nu t)).2.2.2.1) (nx := (zkp (zmy (fun b a => zmf ro lo ks sl si we ki hw nu b a) co nb nu t)).2.2.2.2.1) (ns := (zkp (zmy (fun b a => zmf ro lo ks sl si we ki hw nu b a) co nb nu t)).2.2.2.2.2.1) (pt := t.2.2.2.2.2.2) o3 hM.2.1) 0 rfl rfl (zcwV F.2.2.2.2.1 kcX5_next kmX5_119 kiX5_next ksX5_next knX5 hdX5_next rfl rfl ⟨(Nat.le_of_ble_eq_true rfl), (Nat.le_of_ble_eq_true rfl)⟩) dX5_exactly_48 rfl rfl (Nat.le_of_ble_eq_true rfl) ⟨(Nat.le_of_ble_eq_true rfl), (Nat.le_of_ble_eq_true rfl)⟩ ?_
            rintro r w2 ⟨rfl, rfl⟩
            refine z_istore_n F dX5_exactly_51 (by decide) ?_
            refine z_goto (tgt := 25) F dX5_exactly_52 (by decide) ?_
            have e9 : (zon (fun b a => zmf ro lo ks sl si we ki hw nu b a) co nb nu t) = (zkp (zmy (fun b a => zmf ro lo ks sl si we ki hw nu b a) co nb nu t)) := by unfold zon; rw [show zmg (fun b a => zmf ro lo ks sl si we ki hw nu b a) co nb nu t = true from zB_1.mp c33, show zmb co t.1 t.2.1 t.2.2.1 (zmy (fun b a => zmf ro lo ks sl si we ki hw nu b a) co nb nu t).2.2.2.1 (zmy (fun b a => zmf ro lo ks sl si we ki hw nu b a) co nb nu t).2.2.2.2.1 (zmy (fun b a => zmf ro lo ks sl si we ki hw nu b a) co nb nu t).2.2.2.2.2.1 = true from zB_1.mp c40]; rfl
            rcases hq : zns t.2.2.2.2.2.2 nu (nu - 1) with _ | q
            · have e8 := hfin
              rw [zrn_n (by rw [zon_pt]; exact hq), e9] at e8
              have e8 : (zkp (zmy (fun b a => zmf ro lo ks sl si we ki hw nu b a) co nb nu t)) = fin := Option.some.inj e8
              refine z_iload_n F dX5_exactly_25 rfl ?_
              refine z_if_eq (tgt := 55) F dX5_exactly_26 (by decide) (fun c26 => ?_) (fun c26 => ?_)
              · exact z_vret F hr hlk dX5_exactly_55 (by rw [← e8]; rfl) (Nat.le_of_ble_eq_true rfl) (Nat.le_of_ble_eq_true rfl)
              · exact absurd rfl c26
            · have e8 := hfin
              rw [zrn_s (by rw [zon_pt]; exact hq)] at e8
              have k9 := zon_ok (FM := (fun b a => zmf ro lo ks sl si we ki hw nu b a)) (co := co) (nb := nb) o1 o3 hM
              obtain ⟨x1, x2⟩ := zns_ok o3 hM.1 hM.2.1 (nu - 1) q (zns_lt hq) hq
              have h9 := ih ((zon (fun b a => zmf ro lo ks sl si we ki hw nu b a) co nb nu t).1, (zon (fun b a => zmf ro lo ks sl si we ki hw nu b a) co nb nu t).2.1, (zon (fun b a => zmf ro lo ks sl si we ki hw nu b a) co nb nu t).2.2.1, (zon (fun b a => zmf ro lo ks sl si we ki hw nu b a) co nb nu t).2.2.2.1, (zon (fun b a => zmf ro lo ks sl si we ki hw nu b a) co nb nu t).2.2.2.2.1, (zon (fun b a => zmf ro lo ks sl si we ki hw nu b a) co nb nu t).2.2.2.2.2.1, q) ⟨x1, x2, k9.2.2.1, k9.2.2.2.1, k9.2.2.2.2⟩ e8
              rw [e9] at h9
              exact z_lv rfl h9
  have loop : ∀ (n j : Nat), j ≤ nu → nu + 1 ≤ j + n → zW p l e (headSpec (zws yX5_exactly cX5_exactly 2 none) { frames := 6, cells := 0, slots := 0, locals := 133 }).room s m [.ref (am 0)].toArray below meth c 2 D zcl A 0 0 (MQ below (va_Qv (fun w2 => w2 = (wM am cA cd nb ro lo co ks nu si we ki hw sl fin.1 em fin.2.1 fin.2.2.1 fin.2.2.2.1 fin.2.2.2.2.1 fin.2.2.2.2.2.1 fin.2.2.2.2.2.2)) (zEnd D zcl A) A) [.ref (am 0)].toArray s 0 0 A) (wM am cA cd nb ro lo co ks nu si we ki hw sl ch em bx sx cn nx ns (zcpn pt (fun _ => 0) j)) [(0, .ref (am 0)), (1, .int (nI j))] 2 [] := by
    intro n
    induction n with
    | zero => intro j h1 h2; omega
    | succ n ih =>
      intro j hj1 hj2
      refine z_iload_n F dX5_exactly_2 rfl ?_
      refine z_aload_n F dX5_exactly_3 rfl ?_
      refine z_get (ci := 5) (C := RX5) (T := TX5) (N := 20) F 0 6 dX5_exactly_4 inX5 kfX5_63 rfl rfl rfl (by decide) rfl ?_
      refine z_icmp_ge (tgt := 23) F dX5_exactly_7 (by decide) (fun c7 => ?_) (fun c7 => ?_)
      · have ej := zge_end hj1 (by omega) c7
        rw [ej]
        refine z_iconst (v := 1) F dX5_exactly_23 (by decide) ?_
        refine z_istore_n F dX5_exactly_24 (by decide) ?_
        exact z_lv rfl (main N ((ch, bx, sx, cn, nx, ns, zcpn pt (fun _ => 0) nu) : zM) hM0 hfin)
      · have hlt := zge_on (by omega) hj1 c7
        refine z_aload_n F dX5_exactly_10 rfl ?_
        refine z_get (ci := 5) (C := RX5) (T := TX5) (N := 20) F 0 19 dX5_exactly_11 inX5 kfX5_50 rfl rfl rfl (by decide) rfl ?_
        refine z_iload_n F dX5_exactly_14 rfl ?_
        refine z_iconst (v := 0) F dX5_exactly_15 (by decide) ?_
        refine z_iastN F 13 0 0 dX5_exactly_16 rfl rfl rfl (by omega) (by decide) rfl ?_
        refine z_iinc (v := nI (j + 1)) F dX5_exactly_17 rfl (nI_1 j) (by decide) ?_
        refine z_goto (tgt := 2) F dX5_exactly_20 (by decide) ?_
        have h9 := ih (j + 1) (by omega) (by omega)
        rw [← zcpn_s pt (fun _ => 0) j] at h9
        exact z_lv rfl h9
  refine z_iconst (v := 0) F dX5_exactly_0 (by decide) ?_
  refine z_istore_n F dX5_exactly_1 (by decide) ?_
  have h9 := loop (nu + 1) 0 (by omega) (by omega)
  rw [zcpn_0] at h9
  exact z_lv rfl h9

set_option maxHeartbeats 4000000 in
set_option maxRecDepth 100000 in
theorem c_M_byRule {l : Launch} {D : va_G} {tys : List (ClassId × FieldType)} {am : Nat → Nat} {cA : ClassId} {cd nb : Nat} {ro lo co ks : Nat → Nat} {nu : Nat} {si we ki hw : Nat → Nat} {sl : Nat} {ch : Option Nat} {em : Bool} {bx : Nat → Option Nat} {sx : Nat → Nat} {cn : Nat} {nx : Nat → Option Nat} {ns pt : Nat → Nat} (ok : zok ro lo co ks nb sl si we ki (fun _ => 0) (fun _ => 0) nu) (hh : ∀ x, hw x < 2 ^ 31) (hns : ∀ k, ns k < 256) : zMv l yX5_byRule (zws yX5_byRule cX5_byRule 5 none) { frames := 5, cells := 0, slots := 0, locals := 112 } D zcl ((cA, .int) :: tys) zG [.ref (am 0)] (wM am cA cd nb ro lo co ks nu si we ki hw sl ch em bx sx cn nx ns pt) (fun w2 => w2 = (wM am cA cd nb ro lo co ks nu si we ki hw sl (bif (zmu (fun b a => zmf ro lo ks sl si we ki hw nu b a) co nb (fun u => zwr hw nu u 8) ((true, 0, nx, ns, 0) : zMR) nu).1 then some (zmu (fun b a => zmf ro lo ks sl si we ki hw nu b a) co nb (fun u => zwr hw nu u 8) ((true, 0, nx, ns, 0) : zMR) nu).2.2.2.2 else ch) em (bif (zmu (fun b a => zmf ro lo ks sl si we ki hw nu b a) co nb (fun u => zwr hw nu u 8) ((true, 0, nx, ns, 0) : zMR) nu).1 then zcpo bx (zmu (fun b a => zmf ro lo ks sl si we ki hw nu b a) co nb (fun u => zwr hw nu u 8) ((true, 0, nx, ns, 0) : zMR) nu).2.2.1 (zmu (fun b a => zmf ro lo ks sl si we ki hw nu b a) co nb (fun u => zwr hw nu u 8) ((true, 0, nx, ns, 0) : zMR) nu).2.2.2.2 else bx) (bif (zmu (fun b a => zmf ro lo ks sl si we ki hw nu b a) co nb (fun u => zwr hw nu u 8) ((true, 0, nx, ns, 0) : zMR) nu).1 then zcpn sx (zmu (fun b a => zmf ro lo ks sl si we ki hw nu b a) co nb (fun u => zwr hw nu u 8) ((true, 0, nx, ns, 0) : zMR) nu).2.2.2.1 (zmu (fun b a => zmf ro lo ks sl si we ki hw nu b a) co nb (fun u => zwr hw nu u 8) ((true, 0, nx, ns, 0) : zMR) nu).2.2.2.2 else sx) (zmu (fun b a => zmf ro lo ks sl si we ki hw nu b a) co nb (fun u => zwr hw nu u 8) ((true, 0, nx, ns, 0) : zMR) nu).2.2.2.2 (zmu (fun b a => zmf ro lo ks sl si we ki hw nu b a) co nb (fun u => zwr hw nu u 8) ((true, 0, nx, ns, 0) : zMR) nu).2.2.1 (zmu (fun b a => zmf ro lo ks sl si we ki hw nu b a) co nb (fun u => zwr hw nu u 8) ((true, 0, nx, ns, 0) : zMR) nu).2.2.2.1 pt)) 0 0 := by
  refine z_ofv (cc := cX5_byRule) (maxL := 5) (ret := none) (by decide) rfl (Nat.le_of_ble_eq_true rfl) ?_
  intro p e s m below meth c A F hr hlk hnm
  obtain ⟨o1, o2, o3, o4, o5, o6, o7, o8, o9, o10, o11, o12⟩ := id ok
  have loop : ∀ (n u : Nat), u ≤ nu → nu + 1 ≤ u + n → (zmu (fun b a => zmf ro lo ks sl si we ki hw nu b a) co nb (fun u => zwr hw nu u 8) ((true, 0, nx, ns, 0) : zMR) u).1 = true → zW p l e (headSpec (zws yX5_byRule cX5_byRule 5 none) { frames := 5, cells := 0, slots := 0, locals := 112 }).room s m [.ref (am 0)].toArray below meth c 5 D zcl A 0 0 (MQ below (va_Qv (fun w2 => w2 = (wM am cA cd nb ro lo co ks nu si we ki hw sl (bif (zmu (fun b a => zmf ro lo ks sl si we ki hw nu b a) co nb (fun u => zwr hw nu u 8) ((true, 0, nx, ns, 0) : zMR) nu).1 then some (zmu (fun b a => zmf ro lo ks sl si we ki hw nu b a) co nb (fun u => zwr hw nu u 8) ((true, 0, nx, ns, 0) : zMR) nu).2.2.2.2 else ch) em (bif (zmu (fun b a => zmf ro lo ks sl si we ki hw nu b a) co nb (fun u => zwr hw nu u 8) ((true, 0, nx, ns, 0) : zMR) nu).1 then zcpo bx (zmu (fun b a => zmf ro lo ks sl si we ki hw nu b a) co nb (fun u => zwr hw nu u 8) ((true, 0, nx, ns, 0) : zMR) nu).2.2.1 (zmu (fun b a => zmf ro lo ks sl si we ki hw nu b a) co nb (fun u => zwr hw nu u 8) ((true, 0, nx, ns, 0) : zMR) nu).2.2.2.2 else bx) (bif (zmu (fun b a => zmf ro lo ks sl si we ki hw nu b a) co nb (fun u => zwr hw nu u 8) ((true, 0, nx, ns, 0) : zMR) nu).1 then zcpn sx (zmu (fun b a => zmf ro lo ks sl si we ki hw nu b a) co nb (fun u => zwr hw nu u 8) ((true, 0, nx, ns, 0) : zMR) nu).2.2.2.1 (zmu (fun b a => zmf ro lo ks sl si we ki hw nu b a) co nb (fun u => zwr hw nu u 8) ((true, 0, nx, ns, 0) : zMR) nu).2.2.2.2 else sx) (zmu (fun b a => zmf ro lo ks sl si we ki hw nu b a) co nb (fun u => zwr hw nu u 8) ((true, 0, nx, ns, 0) : zMR) nu).2.2.2.2 (zmu (fun b a => zmf ro lo ks sl si we ki hw nu b a) co nb (fun u => zwr hw nu u 8) ((true, 0, nx, ns, 0) : zMR) nu).2.2.1 (zmu (fun b a => zmf ro lo ks sl si we ki hw nu b a) co nb (fun u => zwr hw nu u 8) ((true, 0, nx, ns, 0) : zMR) nu).2.2.2.1 pt)) (zEnd D zcl A) A) [.ref (am 0)].toArray s 0 0 A) (wM am cA cd nb ro lo co ks nu si we ki hw sl ch em bx sx (zmu (fun b a => zmf ro lo ks sl si we ki hw nu b a) co nb (fun u => zwr hw nu u 8) ((true, 0, nx, ns, 0) : zMR) u).2.2.2.2 (zmu (fun b a => zmf ro lo ks sl si we ki hw nu b a) co nb (fun u => zwr hw nu u 8) ((true, 0, nx, ns, 0) : zMR) u).2.2.1 (zmu (fun b a => zmf ro lo ks sl si we ki hw nu b a) co nb (fun u => zwr hw nu u 8) ((true, 0, nx, ns, 0) : zMR) u).2.2.2.1 pt) [(0, .ref (am 0)), (1, .int (nI (zmu (fun b a => zmf ro lo ks sl si we ki hw nu b a) co nb (fun u => zwr hw nu u 8) ((true, 0, nx, ns, 0) : zMR) u).2.1)), (2, .int (nI u))] 9 [] := by
    intro n
    induction n with
    | zero => intro u h1 h2; omega
    | succ n ih =>
      intro u hu1 hu2 hg
      obtain ⟨q1, q2, q3, q4⟩ := zmu_ok (FM := (fun b a => zmf ro lo ks sl si we ki hw nu b a)) (co := co) (cm := (fun u => zwr hw nu u 8)) (t := ((true, 0, nx, ns, 0) : zMR)) ⟨by show 0 < 256; decide, hns, Nat.le_refl _, fun _ k hk => absurd hk (Nat.not_lt_zero k)⟩ o1 (fun v hv => zwr_lt o3 hv 8) u (by omega)
      refine z_iload_n F dX5_byRule_9 rfl ?_
      refine z_aload_n F dX5_byRule_10 rfl ?_
      refine z_get (ci := 5) (C := RX5) (T := TX5) (N := 20) F 0 6 dX5_byRule_11 inX5 kfX5_63 rfl rfl rfl (by decide) rfl ?_
      refine z_icmp_ge (tgt := 147) F dX5_byRule_14 (by decide) (fun c14 => ?_) (fun c14 => ?_)
      · have eu := zge_end hu1 (by omega) c14
        rw [eu] at hg q3
        rw [eu]
        refine z_aload_n F dX5_byRule_147 rfl ?_
        refine z_callVv0 F (c_M_keep (cn := (zmu (fun b a => zmf ro lo ks sl si we ki hw nu b a) co nb (fun u => zwr hw nu u 8) ((true, 0, nx, ns, 0) : zMR) nu).2.2.2.2) (nx := (zmu (fun b a => zmf ro lo ks sl si we ki hw nu b a) co nb (fun u => zwr hw nu u 8) ((true, 0, nx, ns, 0) : zMR) nu).2.2.1) (ns := (zmu (fun b a => zmf ro lo ks sl si we ki hw nu b a) co nb (fun u => zwr hw nu u 8) ((true, 0, nx, ns, 0) : zMR) nu).2.2.2.1) (by omega)) 0 rfl rfl (zcwV F.2.2.2.2.1 kcX5_keep kmX5_116 kiX5_keep ksX5_keep knX5 hdX5_keep rfl rfl ⟨(Nat.le_of_ble_eq_true rfl), (Nat.le_of_ble_eq_true rfl)⟩) dX5_byRule_148 rfl rfl (Nat.le_of_ble_eq_true rfl) ⟨(Nat.le_of_ble_eq_true rfl), (Nat.le_of_ble_eq_true rfl)⟩ ?_
        rintro w2 rfl
        exact z_vret F hr hlk dX5_byRule_151 (by rw [hg]; rfl) (Nat.le_of_ble_eq_true rfl) (Nat.le_of_ble_eq_true rfl)
      · have hlu := zge_on (by omega) hu1 c14
        have hS : (zwr hw nu u 8) < 256 := zwr_lt o3 (by omega) 8
        refine z_iload_n F dX5_byRule_17 rfl ?_
        refine z_iload_n F dX5_byRule_18 rfl ?_
        refine z_callSi0 F (c_M_has (zmu (fun b a => zmf ro lo ks sl si we ki hw nu b a) co nb (fun u => zwr hw nu u 8) ((true, 0, nx, ns, 0) : zMR) u).2.1 u (Nat.lt_trans q1 (by decide)) (by omega)) (zcwS F.2.2.2.2.1 kcX5_has kmX5_73 ktX5_has knX5 hdX5_has rfl rfl ⟨(Nat.le_of_ble_eq_true rfl), (Nat.le_of_ble_eq_true rfl)⟩) dX5_byRule_19 rfl rfl (Nat.le_of_ble_eq_true rfl) ⟨(Nat.le_of_ble_eq_true rfl), (Nat.le_of_ble_eq_true rfl)⟩ ?_
        rintro r w2 ⟨rfl, rfl⟩
        refine z_if_eq (tgt := 28) F dX5_byRule_22 (by decide) (fun c22 => ?_) (fun c22 => ?_)
        · refine z_aload_n F dX5_byRule_28 rfl ?_
          refine z_iload_n F dX5_byRule_29 rfl ?_
          refine z_callVi0 F (c_M_wholeOf o3 hh u (by omega)) 0 rfl rfl (zcwV F.2.2.2.2.1 kcX5_wholeOf kmX5_122 kiX5_wholeOf ksX5_wholeOf knX5 hdX5_wholeOf rfl rfl ⟨(Nat.le_of_ble_eq_true rfl), (Nat.le_of_ble_eq_true rfl)⟩) dX5_byRule_30 rfl rfl (Nat.le_of_ble_eq_true rfl) ⟨(Nat.le_of_ble_eq_true rfl), (Nat.le_of_ble_eq_true rfl)⟩ ?_
          rintro r w2 ⟨rfl, rfl⟩
          refine z_istore_n F dX5_byRule_33 (by decide) ?_
          refine z_iload_n F dX5_byRule_34 rfl ?_
          refine z_iload_n F dX5_byRule_35 rfl ?_
          refine z_ior F dX5_byRule_36 ?_
          refine z_topi (y := nI ((zmu (fun b a => zmf ro lo ks sl si we ki hw nu b a) co nb (fun u => zwr hw nu u 8) ((true, 0, nx, ns, 0) : zMR) u).2.1 ||| (zwr hw nu u 8))) (zb_or _ _) ?_
          refine z_istore_n F dX5_byRule_37 (by decide) ?_
          refine z_iconst (v := 0) F dX5_byRule_38 (by decide) ?_
          refine z_istore F dX5_byRule_39 (by decide) ?_
          have inner : ∀ (nk k : Nat), k ≤ (zmu (fun b a => zmf ro lo ks sl si we ki hw nu b a) co nb (fun u => zwr hw nu u 8) ((true, 0, nx, ns, 0) : zMR) u).2.2.2.2 → (zmu (fun b a => zmf ro lo ks sl si we ki hw nu b a) co nb (fun u => zwr hw nu u 8) ((true, 0, nx, ns, 0) : zMR) u).2.2.2.2 + 1 ≤ k + nk → zfst (fun k => (fun b a => zmf ro lo ks sl si we ki hw nu b a) (((zmu (fun b a => zmf ro lo ks sl si we ki hw nu b a) co nb (fun u => zwr hw nu u 8) ((true, 0, nx, ns, 0) : zMR) u).2.2.1 k).getD 0) ((zmu (fun b a => zmf ro lo ks sl si we ki hw nu b a) co nb (fun u => zwr hw nu u 8) ((true, 0, nx, ns, 0) : zMR) u).2.2.2.1 k ||| (fun u => zwr hw nu u 8) u)) k = none → zW p l e (headSpec (zws yX5_byRule cX5_byRule 5 none) { frames := 5, cells := 0, slots := 0, locals := 112 }).room s m [.ref (am 0)].toArray below meth c 5 D zcl A 0 0 (MQ below (va_Qv (fun w2 => w2 = (wM am cA cd nb ro lo co ks nu si we ki hw sl (bif (zmu (fun b a => zmf ro lo ks sl si we ki hw nu b a) co nb (fun u => zwr hw nu u 8) ((true, 0, nx, ns, 0) : zMR) nu).1 then some (zmu (fun b a => zmf ro lo ks sl si we ki hw nu b a) co nb (fun u => zwr hw nu u 8) ((true, 0, nx, ns, 0) : zMR) nu).2.2.2.2 else ch) em (bif (zmu (fun b a => zmf ro lo ks sl si we ki hw nu b a) co nb (fun u => zwr hw nu u 8) ((true, 0, nx, ns, 0) : zMR) nu).1 then zcpo bx (zmu (fun b a => zmf ro lo ks sl si we ki hw nu b a) co nb (fun u => zwr hw nu u 8) ((true, 0, nx, ns, 0) : zMR) nu).2.2.1 (zmu (fun b a => zmf ro lo ks sl si we ki hw nu b a) co nb (fun u => zwr hw nu u 8) ((true, 0, nx, ns, 0) : zMR) nu).2.2.2.2 else bx) (bif (zmu (fun b a => zmf ro lo ks sl si we ki hw nu b a) co nb (fun u => zwr hw nu u 8) ((true, 0, nx, ns, 0) : zMR) nu).1 then zcpn sx (zmu (fun b a => zmf ro lo ks sl si we ki hw nu b a) co nb (fun u => zwr hw nu u 8) ((true, 0, nx, ns, 0) : zMR) nu).2.2.2.1 (zmu (fun b a => zmf ro lo ks sl si we ki hw nu b a) co nb (fun u => zwr hw nu u 8) ((true, 0, nx, ns, 0) : zMR) nu).2.2.2.2 else sx) (zmu (fun b a => zmf ro lo ks sl si we ki hw nu b a) co nb (fun u => zwr hw nu u 8) ((true, 0, nx, ns, 0) : zMR) nu).2.2.2.2 (zmu (fun b a => zmf ro lo ks sl si we ki hw nu b a) co nb (fun u => zwr hw nu u 8) ((true, 0, nx, ns, 0) : zMR) nu).2.2.1 (zmu (fun b a => zmf ro lo ks sl si we ki hw nu b a) co nb (fun u => zwr hw nu u 8) ((true, 0, nx, ns, 0) : zMR) nu).2.2.2.1 pt)) (zEnd D zcl A) A) [.ref (am 0)].toArray s 0 0 A) (wM am cA cd nb ro lo co ks nu si we ki hw sl ch em bx sx (zmu (fun b a => zmf ro lo ks sl si we ki hw nu b a) co nb (fun u => zwr hw nu u 8) ((true, 0, nx, ns, 0) : zMR) u).2.2.2.2 (zmu (fun b a => zmf ro lo ks sl si we ki hw nu b a) co nb (fun u => zwr hw nu u 8) ((true, 0, nx, ns, 0) : zMR) u).2.2.1 (zmu (fun b a => zmf ro lo ks sl si we ki hw nu b a) co nb (fun u => zwr hw nu u 8) ((true, 0, nx, ns, 0) : zMR) u).2.2.2.1 pt) [(0, .ref (am 0)), (1, .int (nI ((zmu (fun b a => zmf ro lo ks sl si we ki hw nu b a) co nb (fun u => zwr hw nu u 8) ((true, 0, nx, ns, 0) : zMR) u).2.1 ||| (zwr hw nu u 8)))), (2, .int (nI u)), (3, .int (nI (zwr hw nu u 8))), (4, .int (nI k))] 41 [] := by
            intro nk
            induction nk with
            | zero => intro k h1 h2; omega
            | succ nk ihk =>
              intro k hk1 hk2 hzk
              refine z_iload F dX5_byRule_41 rfl ?_
              refine z_aload_n F dX5_byRule_43 rfl ?_
              refine z_get (ci := 5) (C := RX5) (T := TX5) (N := 20) F 0 16 dX5_byRule_44 inX5 kfX5_99 rfl rfl rfl (by decide) rfl ?_
              refine z_icmp_ge (tgt := 79) F dX5_byRule_47 (by decide) (fun c47 => ?_) (fun c47 => ?_)
              · have ek := zge_end hk1 (by omega) c47
                rw [ek] at hzk
                rw [ek]
                refine z_iload F dX5_byRule_79 rfl ?_
                refine z_aload_n F dX5_byRule_81 rfl ?_
                refine z_get (ci := 5) (C := RX5) (T := TX5) (N := 20) F 0 16 dX5_byRule_82 inX5 kfX5_99 rfl rfl rfl (by decide) rfl ?_
                refine z_icmp_ne (tgt := 130) F dX5_byRule_85 (by decide) (fun c85 => ?_) (fun c85 => ?_)
                · exact absurd rfl c85
                · refine z_aload_n F dX5_byRule_88 rfl ?_
                  refine z_get (ci := 5) (C := RX5) (T := TX5) (N := 20) F 0 17 dX5_byRule_89 inX5 kfX5_44 rfl rfl rfl (by decide) rfl ?_
                  refine z_iload F dX5_byRule_92 rfl ?_
                  refine z_aload_n F dX5_byRule_94 rfl ?_
                  refine z_iload_n F dX5_byRule_95 rfl ?_
                  refine z_callVi0 F (c_M_cheapest ok hh (zwr hw nu u 8) (Nat.lt_trans hS (by decide))) 0 rfl rfl (zcwV F.2.2.2.2.1 kcX5_cheapest kmX5_106 kiX5_cheapest ksX5_cheapest knX5 hdX5_cheapest rfl rfl ⟨(Nat.le_of_ble_eq_true rfl), (Nat.le_of_ble_eq_true rfl)⟩) dX5_byRule_96 rfl rfl (Nat.le_of_ble_eq_true rfl) ⟨(Nat.le_of_ble_eq_true rfl), (Nat.le_of_ble_eq_true rfl)⟩ ?_
                  rintro r w2 ⟨rfl, rfl⟩
                  rcases hz2 : zche (fun b => zmf ro lo ks sl si we ki hw nu b (zwr hw nu u 8)) co nb with _ | b
                  · have e9 : (zmu (fun b a => zmf ro lo ks sl si we ki hw nu b a) co nb (fun u => zwr hw nu u 8) ((true, 0, nx, ns, 0) : zMR) (u + 1)) = _ := zmr_n hg (zB_0.mp c22) hzk hz2
                    have f9 : (zmu (fun b a => zmf ro lo ks sl si we ki hw nu b a) co nb (fun u => zwr hw nu u 8) ((true, 0, nx, ns, 0) : zMR) (u + 1)).1 = false := by rw [e9]
                    have g9 := zmu_up f9 (nu - (u + 1))
                    rw [show u + 1 + (nu - (u + 1)) = nu by omega, e9] at g9
                    refine z_iastO F 11 0 none dX5_byRule_99 rfl rfl rfl (by omega) (by decide) rfl ?_
                    refine z_aload_n F dX5_byRule_100 rfl ?_
                    refine z_get (ci := 5) (C := RX5) (T := TX5) (N := 20) F 0 18 dX5_byRule_101 inX5 kfX5_47 rfl rfl rfl (by decide) rfl ?_
                    refine z_iload F dX5_byRule_104 rfl ?_
                    refine z_iconst (v := 0) F dX5_byRule_106 (by decide) ?_
                    refine z_iastN F 12 0 0 dX5_byRule_107 rfl rfl rfl (by omega) (by decide) rfl ?_
                    refine z_aload_n F dX5_byRule_108 rfl ?_
                    refine z_get (ci := 5) (C := RX5) (T := TX5) (N := 20) F 0 17 dX5_byRule_109 inX5 kfX5_44 rfl rfl rfl (by decide) rfl ?_
                    refine z_iload F dX5_byRule_112 rfl ?_
                    refine z_iald F 11 0 dX5_byRule_114 rfl rfl rfl (by omega) (by decide) ?_
                    refine z_topi (y := (-1)) (by rw [zuo_s]; rfl) ?_
                    refine z_iconst (v := (-1)) F dX5_byRule_115 (by decide) ?_
                    refine z_icmp_ne (tgt := 120) F dX5_byRule_116 (by decide) (fun c116 => ?_) (fun c116 => ?_)
                    · exact absurd rfl c116
                    · exact z_vret F hr hlk dX5_byRule_119 (by rw [g9]; rfl) (Nat.le_of_ble_eq_true rfl) (Nat.le_of_ble_eq_true rfl)
                  · refine z_iastO F 11 0 (some b) dX5_byRule_99 rfl rfl rfl (by omega) (by decide) rfl ?_
                    refine z_aload_n F dX5_byRule_100 rfl ?_
                    refine z_get (ci := 5) (C := RX5) (T := TX5) (N := 20) F 0 18 dX5_byRule_101 inX5 kfX5_47 rfl rfl rfl (by decide) rfl ?_
                    refine z_iload F dX5_byRule_104 rfl ?_
                    refine z_iconst (v := 0) F dX5_byRule_106 (by decide) ?_
                    refine z_iastN F 12 0 0 dX5_byRule_107 rfl rfl rfl (by omega) (by decide) rfl ?_
                    refine z_aload_n F dX5_byRule_108 rfl ?_
                    refine z_get (ci := 5) (C := RX5) (T := TX5) (N := 20) F 0 17 dX5_byRule_109 inX5 kfX5_44 rfl rfl rfl (by decide) rfl ?_
                    refine z_iload F dX5_byRule_112 rfl ?_
                    refine z_iald F 11 0 dX5_byRule_114 rfl rfl rfl (by omega) (by decide) ?_
                    refine z_topi (y := nI b) (by rw [zuo_s]; rfl) ?_
                    refine z_iconst (v := (-1)) F dX5_byRule_115 (by decide) ?_
                    refine z_icmp_ne (tgt := 120) F dX5_byRule_116 (by decide) (fun c116 => ?_) (fun c116 => ?_)
                    · refine z_aload_n F dX5_byRule_120 rfl ?_
                      refine z_dup F dX5_byRule_121 rfl ?_
                      refine z_get (ci := 5) (C := RX5) (T := TX5) (N := 20) F 0 16 dX5_byRule_122 inX5 kfX5_99 rfl rfl rfl (by decide) rfl ?_
                      refine z_iconst (v := 1) F dX5_byRule_125 (by decide) ?_
                      refine z_iadd F dX5_byRule_126 ?_
                      refine z_topi (y := nI ((zmu (fun b a => zmf ro lo ks sl si we ki hw nu b a) co nb (fun u => zwr hw nu u 8) ((true, 0, nx, ns, 0) : zMR) u).2.2.2.2 + 1)) (nI_1 _) ?_
                      refine z_put (ci := 5) (C := RX5) (T := TX5) (N := 20) (ty := .int) F 0 16 dX5_byRule_127 inX5 tyX5 tyX5_ok nmX5 kfX5_99 rfl rfl rfl (by decide) rfl (by decide +kernel) rfl rfl (Nat.le_of_ble_eq_true rfl) ?_
                      refine z_aload_n F dX5_byRule_130 rfl ?_
                      refine z_get (ci := 5) (C := RX5) (T := TX5) (N := 20) F 0 18 dX5_byRule_131 inX5 kfX5_47 rfl rfl rfl (by decide) rfl ?_
                      refine z_iload F dX5_byRule_134 rfl ?_
                      refine z_dup2 F dX5_byRule_136 rfl rfl ?_
                      refine z_ialdN F 12 0 dX5_byRule_137 rfl rfl rfl (by omega) (by decide) ?_
                      refine z_iload_n F dX5_byRule_138 rfl ?_
                      refine z_ior F dX5_byRule_139 ?_
                      refine z_topi (y := nI (zu (zmu (fun b a => zmf ro lo ks sl si we ki hw nu b a) co nb (fun u => zwr hw nu u 8) ((true, 0, nx, ns, 0) : zMR) u).2.2.2.1 (zmu (fun b a => zmf ro lo ks sl si we ki hw nu b a) co nb (fun u => zwr hw nu u 8) ((true, 0, nx, ns, 0) : zMR) u).2.2.2.2 0 (zmu (fun b a => zmf ro lo ks sl si we ki hw nu b a) co nb (fun u => zwr hw nu u 8) ((true, 0, nx, ns, 0) : zMR) u).2.2.2.2 ||| (zwr hw nu u 8))) (zb_or _ _) ?_
                      refine z_iastN F 12 0 _ dX5_byRule_140 rfl rfl rfl (by omega) (by decide) rfl ?_
                      refine z_iinc (v := nI (u + 1)) F dX5_byRule_141 rfl (nI_1 u) (by decide) ?_
                      refine z_goto (tgt := 9) F dX5_byRule_144 (by decide) ?_
                      have e9 : (zmu (fun b a => zmf ro lo ks sl si we ki hw nu b a) co nb (fun u => zwr hw nu u 8) ((true, 0, nx, ns, 0) : zMR) (u + 1)) = _ := zmr_b hg (zB_0.mp c22) hzk hz2
                      have h9 := ih (u + 1) (by omega) (by omega) (by rw [e9])
                      rw [e9] at h9
                      exact z_lv rfl h9
                    · exact absurd c116 (zi_ne b (by have := (zche_lt hz2).1; omega))
              · have hlk1 := zge_on (by omega) hk1 c47
                obtain ⟨b, hb, hb6⟩ := q4 hg k hlk1
                refine z_aload_n F dX5_byRule_50 rfl ?_
                refine z_aload_n F dX5_byRule_51 rfl ?_
                refine z_get (ci := 5) (C := RX5) (T := TX5) (N := 20) F 0 17 dX5_byRule_52 inX5 kfX5_44 rfl rfl rfl (by decide) rfl ?_
                refine z_iload F dX5_byRule_55 rfl ?_
                refine z_iald F 11 0 dX5_byRule_57 rfl rfl rfl (by omega) (by decide) ?_
                refine z_topi (y := nI b) (zo_s1 hb) ?_
                refine z_aload_n F dX5_byRule_58 rfl ?_
                refine z_get (ci := 5) (C := RX5) (T := TX5) (N := 20) F 0 18 dX5_byRule_59 inX5 kfX5_47 rfl rfl rfl (by decide) rfl ?_
                refine z_iload F dX5_byRule_62 rfl ?_
                refine z_ialdN F 12 0 dX5_byRule_64 rfl rfl rfl (by omega) (by decide) ?_
                refine z_iload_n F dX5_byRule_65 rfl ?_
                refine z_ior F dX5_byRule_66 ?_
                refine z_topi (y := nI ((zmu (fun b a => zmf ro lo ks sl si we ki hw nu b a) co nb (fun u => zwr hw nu u 8) ((true, 0, nx, ns, 0) : zMR) u).2.2.2.1 k ||| (zwr hw nu u 8))) (zb_or _ _) ?_
                refine z_callVi0 F (c_M_fitsSet ok hh b ((zmu (fun b a => zmf ro lo ks sl si we ki hw nu b a) co nb (fun u => zwr hw nu u 8) ((true, 0, nx, ns, 0) : zMR) u).2.2.2.1 k ||| (zwr hw nu u 8)) hb6 (Nat.lt_trans (Nat.or_lt_two_pow (n := 8) (q2 k) hS) (by decide))) 0 rfl rfl (zcwV F.2.2.2.2.1 kcX5_fitsSet kmX5_96 kiX5_fitsSet ksX5_fitsSet knX5 hdX5_fitsSet rfl rfl ⟨(Nat.le_of_ble_eq_true rfl), (Nat.le_of_ble_eq_true rfl)⟩) dX5_byRule_67 rfl rfl (Nat.le_of_ble_eq_true rfl) ⟨(Nat.le_of_ble_eq_true rfl), (Nat.le_of_ble_eq_true rfl)⟩ ?_
                rintro r w2 ⟨rfl, rfl⟩
                refine z_if_ne (tgt := 79) F dX5_byRule_70 (by decide) (fun c70 => ?_) (fun c70 => ?_)
                · have n70 : (fun k => (fun b a => zmf ro lo ks sl si we ki hw nu b a) (((zmu (fun b a => zmf ro lo ks sl si we ki hw nu b a) co nb (fun u => zwr hw nu u 8) ((true, 0, nx, ns, 0) : zMR) u).2.2.1 k).getD 0) ((zmu (fun b a => zmf ro lo ks sl si we ki hw nu b a) co nb (fun u => zwr hw nu u 8) ((true, 0, nx, ns, 0) : zMR) u).2.2.2.1 k ||| (fun u => zwr hw nu u 8) u)) k = true := by show zmf ro lo ks sl si we ki hw nu (((zmu (fun b a => zmf ro lo ks sl si we ki hw nu b a) co nb (fun u => zwr hw nu u 8) ((true, 0, nx, ns, 0) : zMR) u).2.2.1 k).getD 0) _ = true; rw [hb]; exact zB_1.mp c70
                  refine z_iload F dX5_byRule_79 rfl ?_
                  refine z_aload_n F dX5_byRule_81 rfl ?_
                  refine z_get (ci := 5) (C := RX5) (T := TX5) (N := 20) F 0 16 dX5_byRule_82 inX5 kfX5_99 rfl rfl rfl (by decide) rfl ?_
                  refine z_icmp_ne (tgt := 130) F dX5_byRule_85 (by decide) (fun c85 => ?_) (fun c85 => ?_)
                  · refine z_aload_n F dX5_byRule_130 rfl ?_
                    refine z_get (ci := 5) (C := RX5) (T := TX5) (N := 20) F 0 18 dX5_byRule_131 inX5 kfX5_47 rfl rfl rfl (by decide) rfl ?_
                    refine z_iload F dX5_byRule_134 rfl ?_
                    refine z_dup2 F dX5_byRule_136 rfl rfl ?_
                    refine z_ialdN F 12 0 dX5_byRule_137 rfl rfl rfl (by omega) (by decide) ?_
                    refine z_iload_n F dX5_byRule_138 rfl ?_
                    refine z_ior F dX5_byRule_139 ?_
                    refine z_topi (y := nI ((zmu (fun b a => zmf ro lo ks sl si we ki hw nu b a) co nb (fun u => zwr hw nu u 8) ((true, 0, nx, ns, 0) : zMR) u).2.2.2.1 k ||| (zwr hw nu u 8))) (zb_or _ _) ?_
                    refine z_iastN F 12 0 _ dX5_byRule_140 rfl rfl rfl (by omega) (by decide) rfl ?_
                    refine z_iinc (v := nI (u + 1)) F dX5_byRule_141 rfl (nI_1 u) (by decide) ?_
                    refine z_goto (tgt := 9) F dX5_byRule_144 (by decide) ?_
                    have e9 : (zmu (fun b a => zmf ro lo ks sl si we ki hw nu b a) co nb (fun u => zwr hw nu u 8) ((true, 0, nx, ns, 0) : zMR) (u + 1)) = _ := zmr_s hg (zB_0.mp c22) (zfst_at (P := (fun k => (fun b a => zmf ro lo ks sl si we ki hw nu b a) (((zmu (fun b a => zmf ro lo ks sl si we ki hw nu b a) co nb (fun u => zwr hw nu u 8) ((true, 0, nx, ns, 0) : zMR) u).2.2.1 k).getD 0) ((zmu (fun b a => zmf ro lo ks sl si we ki hw nu b a) co nb (fun u => zwr hw nu u 8) ((true, 0, nx, ns, 0) : zMR) u).2.2.2.1 k ||| (fun u => zwr hw nu u 8) u))) hzk n70 hlk1)
                    have h9 := ih (u + 1) (by omega) (by omega) (by rw [e9])
                    rw [e9] at h9
                    exact z_lv rfl h9
                  · exact absurd ((nI_eq (by omega) (by omega)).mp c85) (by omega)
                · have n70 : (fun k => (fun b a => zmf ro lo ks sl si we ki hw nu b a) (((zmu (fun b a => zmf ro lo ks sl si we ki hw nu b a) co nb (fun u => zwr hw nu u 8) ((true, 0, nx, ns, 0) : zMR) u).2.2.1 k).getD 0) ((zmu (fun b a => zmf ro lo ks sl si we ki hw nu b a) co nb (fun u => zwr hw nu u 8) ((true, 0, nx, ns, 0) : zMR) u).2.2.2.1 k ||| (fun u => zwr hw nu u 8) u)) k = false := by show zmf ro lo ks sl si we ki hw nu (((zmu (fun b a => zmf ro lo ks sl si we ki hw nu b a) co nb (fun u => zwr hw nu u 8) ((true, 0, nx, ns, 0) : zMR) u).2.2.1 k).getD 0) _ = false; rw [hb]; exact zB_0.mp c70
                  refine z_iinc (v := nI (k + 1)) F dX5_byRule_73 rfl (nI_1 k) (by decide) ?_
                  refine z_goto (tgt := 41) F dX5_byRule_76 (by decide) ?_
                  exact z_lv rfl (ihk (k + 1) (by omega) (by omega) (zfst_n (P := (fun k => (fun b a => zmf ro lo ks sl si we ki hw nu b a) (((zmu (fun b a => zmf ro lo ks sl si we ki hw nu b a) co nb (fun u => zwr hw nu u 8) ((true, 0, nx, ns, 0) : zMR) u).2.2.1 k).getD 0) ((zmu (fun b a => zmf ro lo ks sl si we ki hw nu b a) co nb (fun u => zwr hw nu u 8) ((true, 0, nx, ns, 0) : zMR) u).2.2.2.1 k ||| (fun u => zwr hw nu u 8) u))) hzk n70))
          exact z_lv rfl (inner ((zmu (fun b a => zmf ro lo ks sl si we ki hw nu b a) co nb (fun u => zwr hw nu u 8) ((true, 0, nx, ns, 0) : zMR) u).2.2.2.2 + 1) 0 (by omega) (by omega) rfl)
        · refine z_goto (tgt := 141) F dX5_byRule_25 (by decide) ?_
          refine z_iinc (v := nI (u + 1)) F dX5_byRule_141 rfl (nI_1 u) (by decide) ?_
          refine z_goto (tgt := 9) F dX5_byRule_144 (by decide) ?_
          have e9 : (zmu (fun b a => zmf ro lo ks sl si we ki hw nu b a) co nb (fun u => zwr hw nu u 8) ((true, 0, nx, ns, 0) : zMR) (u + 1)) = _ := zmr_k hg (zB_1.mp c22)
          have h9 := ih (u + 1) (by omega) (by omega) (by rw [e9]; exact hg)
          rw [e9] at h9
          exact z_lv rfl h9
  refine z_aload_n F dX5_byRule_0 rfl ?_
  refine z_iconst (v := 0) F dX5_byRule_1 (by decide) ?_
  refine z_put (ci := 5) (C := RX5) (T := TX5) (N := 20) (ty := .int) F 0 16 dX5_byRule_2 inX5 tyX5 tyX5_ok nmX5 kfX5_99 rfl rfl rfl (by decide) rfl (by decide +kernel) rfl rfl (Nat.le_of_ble_eq_true rfl) ?_
  refine z_iconst (v := 0) F dX5_byRule_5 (by decide) ?_
  refine z_istore_n F dX5_byRule_6 (by decide) ?_
  refine z_iconst (v := 0) F dX5_byRule_7 (by decide) ?_
  refine z_istore_n F dX5_byRule_8 (by decide) ?_
  exact z_lv rfl (loop (nu + 1) 0 (by omega) (by omega) rfl)
