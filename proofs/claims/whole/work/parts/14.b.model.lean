set_option maxHeartbeats 4000000 in
set_option maxRecDepth 100000 in
theorem c_M_where_x1 {l : Launch} {D : va_G} {tys : List (ClassId × FieldType)} {am : Nat → Nat} {cA : ClassId} {cd nb : Nat} {ro lo co ks : Nat → Nat} {nu : Nat} {si we ki hw : Nat → Nat} {sl : Nat} {ch : Option Nat} {em : Bool} {bx : Nat → Option Nat} {sx : Nat → Nat} {cn : Nat} {nx : Nat → Option Nat} {ns pt : Nat → Nat} (hn : nu ≤ 8) (v1 : Int32) (h : ¬ (0 ≤ v1 ∧ v1 < nI nu)) : zMi l yX5_where (zws yX5_where cX5_where 3 (some .int)) { frames := 2, cells := 0, slots := 0, locals := 43 } D zcl ((cA, .int) :: tys) zG [.ref (am 0), .int v1] (wM am cA cd nb ro lo co ks nu si we ki hw sl ch em bx sx cn nx ns pt) (fun r w2 => r = 0 ∧ w2 = (wM am cA 1 nb ro lo co ks nu si we ki hw sl ch em bx sx cn nx ns pt)) 0 0 := by
  refine z_ofi (cc := cX5_where) (maxL := 3) (ret := (some .int)) (by decide) rfl (Nat.le_of_ble_eq_true rfl) ?_
  intro p e s m below meth c A F hr hlk hnm
  refine z_aload_n F dX5_where_0 rfl ?_
  refine z_aload_n F dX5_where_1 rfl ?_
  refine z_iload_n F dX5_where_2 rfl ?_
  refine z_callVi0 F (c_M_isUnit (by omega) v1) 0 rfl rfl (zcwV F.2.2.2.2.1 kcX5_isUnit kmX5_66 kiX5_isUnit ksX5_isUnit knX5 hdX5_isUnit rfl rfl ⟨(Nat.le_of_ble_eq_true rfl), (Nat.le_of_ble_eq_true rfl)⟩) dX5_where_3 rfl rfl (Nat.le_of_ble_eq_true rfl) ⟨(Nat.le_of_ble_eq_true rfl), (Nat.le_of_ble_eq_true rfl)⟩ ?_
  rintro r w2 ⟨rfl, rfl⟩
  refine z_if_eq (tgt := 13) F dX5_where_6 (by decide) (fun c6 => ?_) (fun c6 => ?_)
  · refine z_iconst (v := 1) F dX5_where_13 (by decide) ?_
    refine z_put (ci := 5) (C := RX5) (T := TX5) (N := 20) (ty := .int) F 0 0 dX5_where_14 inX5 tyX5 tyX5_ok nmX5 kfX5_53 rfl rfl rfl (by decide) rfl (by decide +kernel) rfl rfl (Nat.le_of_ble_eq_true rfl) ?_
    refine z_iconst (v := 0) F dX5_where_17 (by decide) ?_
    refine z_istore_n F dX5_where_18 (by decide) ?_
    refine z_iload_n F dX5_where_19 rfl ?_
    refine z_aload_n F dX5_where_20 rfl ?_
    refine z_get (ci := 5) (C := RX5) (T := TX5) (N := 20) F 0 12 dX5_where_21 inX5 kfX5_34 rfl rfl rfl (by decide) rfl ?_
    refine z_icmp_ge (tgt := 55) F dX5_where_24 (by decide) (fun c24 => ?_) (fun c24 => ?_)
    · refine z_aload_n F dX5_where_55 rfl ?_
      refine z_get (ci := 5) (C := RX5) (T := TX5) (N := 20) F 0 0 dX5_where_56 inX5 kfX5_53 rfl rfl rfl (by decide) rfl ?_
      refine z_if_le (tgt := 66) F dX5_where_59 (by decide) (fun c59 => ?_) (fun c59 => ?_)
      · exact absurd c59 (by decide)
      · refine z_iconst (v := 0) F dX5_where_62 (by decide) ?_
        refine z_goto (tgt := 67) F dX5_where_63 (by decide) ?_
        exact z_iret F hr rfl hlk dX5_where_67 ⟨rfl, rfl⟩ (Nat.le_of_ble_eq_true rfl) (Nat.le_of_ble_eq_true rfl)
    · refine z_aload_n F dX5_where_27 rfl ?_
      refine z_get (ci := 5) (C := RX5) (T := TX5) (N := 20) F 0 0 dX5_where_28 inX5 kfX5_53 rfl rfl rfl (by decide) rfl ?_
      refine z_if_ne (tgt := 55) F dX5_where_31 (by decide) (fun c31 => ?_) (fun c31 => ?_)
      · refine z_aload_n F dX5_where_55 rfl ?_
        refine z_get (ci := 5) (C := RX5) (T := TX5) (N := 20) F 0 0 dX5_where_56 inX5 kfX5_53 rfl rfl rfl (by decide) rfl ?_
        refine z_if_le (tgt := 66) F dX5_where_59 (by decide) (fun c59 => ?_) (fun c59 => ?_)
        · exact absurd c59 (by decide)
        · refine z_iconst (v := 0) F dX5_where_62 (by decide) ?_
          refine z_goto (tgt := 67) F dX5_where_63 (by decide) ?_
          exact z_iret F hr rfl hlk dX5_where_67 ⟨rfl, rfl⟩ (Nat.le_of_ble_eq_true rfl) (Nat.le_of_ble_eq_true rfl)
      · exact absurd c31 (by decide)
  · exact absurd (of_decide_eq_true (zB_1.mp c6)) h

set_option maxHeartbeats 4000000 in
set_option maxRecDepth 100000 in
theorem c_M_where_n {l : Launch} {D : va_G} {tys : List (ClassId × FieldType)} {am : Nat → Nat} {cA : ClassId} {cd nb : Nat} {ro lo co ks : Nat → Nat} {nu : Nat} {si we ki hw : Nat → Nat} {sl : Nat} {ch : Option Nat} {em : Bool} {bx : Nat → Option Nat} {sx : Nat → Nat} {cn : Nat} {nx : Nat → Option Nat} {ns pt : Nat → Nat} (hn : nu ≤ 8) (u : Nat) (hu : u < nu) : zMi l yX5_where (zws yX5_where cX5_where 3 (some .int)) { frames := 2, cells := 0, slots := 0, locals := 43 } D zcl ((cA, .int) :: tys) zG [.ref (am 0), .int (nI u)] (wM am cA cd nb ro lo co ks nu si we ki hw sl none em bx sx cn nx ns pt) (fun r w2 => r = -1 ∧ w2 = (wM am cA 0 nb ro lo co ks nu si we ki hw sl none em bx sx cn nx ns pt)) 0 0 := by
  refine z_ofi (cc := cX5_where) (maxL := 3) (ret := (some .int)) (by decide) rfl (Nat.le_of_ble_eq_true rfl) ?_
  intro p e s m below meth c A F hr hlk hnm
  refine z_aload_n F dX5_where_0 rfl ?_
  refine z_aload_n F dX5_where_1 rfl ?_
  refine z_iload_n F dX5_where_2 rfl ?_
  refine z_callVi0 F (c_M_isUnit (by omega) (nI u)) 0 rfl rfl (zcwV F.2.2.2.2.1 kcX5_isUnit kmX5_66 kiX5_isUnit ksX5_isUnit knX5 hdX5_isUnit rfl rfl ⟨(Nat.le_of_ble_eq_true rfl), (Nat.le_of_ble_eq_true rfl)⟩) dX5_where_3 rfl rfl (Nat.le_of_ble_eq_true rfl) ⟨(Nat.le_of_ble_eq_true rfl), (Nat.le_of_ble_eq_true rfl)⟩ ?_
  rintro r w2 ⟨rfl, rfl⟩
  refine z_if_eq (tgt := 13) F dX5_where_6 (by decide) (fun c6 => ?_) (fun c6 => ?_)
  · exact absurd ((zhas (by omega)).mpr ⟨u, hu, rfl⟩) (of_decide_eq_false (zB_0.mp c6))
  · refine z_iconst (v := 0) F dX5_where_9 (by decide) ?_
    refine z_goto (tgt := 14) F dX5_where_10 (by decide) ?_
    refine z_put (ci := 5) (C := RX5) (T := TX5) (N := 20) (ty := .int) F 0 0 dX5_where_14 inX5 tyX5 tyX5_ok nmX5 kfX5_53 rfl rfl rfl (by decide) rfl (by decide +kernel) rfl rfl (Nat.le_of_ble_eq_true rfl) ?_
    refine z_iconst (v := 0) F dX5_where_17 (by decide) ?_
    refine z_istore_n F dX5_where_18 (by decide) ?_
    refine z_iload_n F dX5_where_19 rfl ?_
    refine z_aload_n F dX5_where_20 rfl ?_
    refine z_get (ci := 5) (C := RX5) (T := TX5) (N := 20) F 0 12 dX5_where_21 inX5 kfX5_34 rfl rfl rfl (by decide) rfl ?_
    refine z_icmp_ge (tgt := 55) F dX5_where_24 (by decide) (fun c24 => ?_) (fun c24 => ?_)
    · refine z_aload_n F dX5_where_55 rfl ?_
      refine z_get (ci := 5) (C := RX5) (T := TX5) (N := 20) F 0 0 dX5_where_56 inX5 kfX5_53 rfl rfl rfl (by decide) rfl ?_
      refine z_if_le (tgt := 66) F dX5_where_59 (by decide) (fun c59 => ?_) (fun c59 => ?_)
      · refine z_iconst (v := (-1)) F dX5_where_66 (by decide) ?_
        exact z_iret F hr rfl hlk dX5_where_67 ⟨rfl, rfl⟩ (Nat.le_of_ble_eq_true rfl) (Nat.le_of_ble_eq_true rfl)
      · exact absurd (by decide) c59
    · exact absurd (by decide) c24

set_option maxHeartbeats 4000000 in
set_option maxRecDepth 100000 in
theorem c_M_where {l : Launch} {D : va_G} {tys : List (ClassId × FieldType)} {am : Nat → Nat} {cA : ClassId} {cd nb : Nat} {ro lo co ks : Nat → Nat} {nu : Nat} {si we ki hw : Nat → Nat} {sl : Nat} {ch : Option Nat} {em : Bool} {bx : Nat → Option Nat} {sx : Nat → Nat} {cn : Nat} {nx : Nat → Option Nat} {ns pt : Nat → Nat} (hn : nu ≤ 8) (q : Nat) (hq : q ≤ 8) (hb : ∀ x, sx x < 2 ^ 31) (u : Nat) (hu : u < nu) : zMi l yX5_where (zws yX5_where cX5_where 3 (some .int)) { frames := 2, cells := 0, slots := 0, locals := 43 } D zcl ((cA, .int) :: tys) zG [.ref (am 0), .int (nI u)] (wM am cA cd nb ro lo co ks nu si we ki hw sl (some q) em bx sx cn nx ns pt) (fun r w2 => r = zo (zfst (fun k => (sx k).testBit u) q) ∧ w2 = (wM am cA 0 nb ro lo co ks nu si we ki hw sl (some q) em bx sx cn nx ns pt)) 0 0 := by
  refine z_ofi (cc := cX5_where) (maxL := 3) (ret := (some .int)) (by decide) rfl (Nat.le_of_ble_eq_true rfl) ?_
  intro p e s m below meth c A F hr hlk hnm
  have loop : ∀ (n j : Nat), j ≤ q → q + 1 ≤ j + n → zfst (fun k => (sx k).testBit u) j = none → zW p l e (headSpec (zws yX5_where cX5_where 3 (some .int)) { frames := 2, cells := 0, slots := 0, locals := 43 }).room s m [.ref (am 0), .int (nI u)].toArray below meth c 3 D zcl A 0 0 (MQ below (va_Qi (fun r w2 => r = zo (zfst (fun k => (sx k).testBit u) q) ∧ w2 = (wM am cA 0 nb ro lo co ks nu si we ki hw sl (some q) em bx sx cn nx ns pt)) (zEnd D zcl A) A) [.ref (am 0), .int (nI u)].toArray s 0 0 A) (wM am cA 0 nb ro lo co ks nu si we ki hw sl (some q) em bx sx cn nx ns pt) [(0, .ref (am 0)), (1, .int (nI u)), (2, .int (nI j))] 19 [] := by
    intro n
    induction n with
    | zero => intro j h1 h2; omega
    | succ n ih =>
      intro j hj1 hj2 hz
      refine z_iload_n F dX5_where_19 rfl ?_
      refine z_aload_n F dX5_where_20 rfl ?_
      refine z_get (ci := 5) (C := RX5) (T := TX5) (N := 20) F 0 12 dX5_where_21 inX5 kfX5_34 rfl rfl rfl (by decide) rfl ?_
      refine z_icmp_ge (tgt := 55) F dX5_where_24 (by decide) (fun c24 => ?_) (fun c24 => ?_)
      · have ej := zge_end hj1 (by omega) c24
        refine z_aload_n F dX5_where_55 rfl ?_
        refine z_get (ci := 5) (C := RX5) (T := TX5) (N := 20) F 0 0 dX5_where_56 inX5 kfX5_53 rfl rfl rfl (by decide) rfl ?_
        refine z_if_le (tgt := 66) F dX5_where_59 (by decide) (fun c59 => ?_) (fun c59 => ?_)
        · refine z_iconst (v := (-1)) F dX5_where_66 (by decide) ?_
          exact z_iret F hr rfl hlk dX5_where_67 ⟨by rw [← ej, hz]; rfl, rfl⟩ (Nat.le_of_ble_eq_true rfl) (Nat.le_of_ble_eq_true rfl)
        · exact absurd (by decide) c59
      · have hlt := zge_on (by omega) hj1 c24
        refine z_aload_n F dX5_where_27 rfl ?_
        refine z_get (ci := 5) (C := RX5) (T := TX5) (N := 20) F 0 0 dX5_where_28 inX5 kfX5_53 rfl rfl rfl (by decide) rfl ?_
        refine z_if_ne (tgt := 55) F dX5_where_31 (by decide) (fun c31 => ?_) (fun c31 => ?_)
        · exact absurd rfl c31
        · refine z_aload_n F dX5_where_34 rfl ?_
          refine z_get (ci := 5) (C := RX5) (T := TX5) (N := 20) F 0 15 dX5_where_35 inX5 kfX5_41 rfl rfl rfl (by decide) rfl ?_
          refine z_iload_n F dX5_where_38 rfl ?_
          refine z_ialdN F 10 0 dX5_where_39 rfl rfl rfl (by omega) (by decide) ?_
          refine z_iload_n F dX5_where_40 rfl ?_
          refine z_callSi0 F (c_M_has (sx j) u (hb j) (by omega)) (zcwS F.2.2.2.2.1 kcX5_has kmX5_73 ktX5_has knX5 hdX5_has rfl rfl ⟨(Nat.le_of_ble_eq_true rfl), (Nat.le_of_ble_eq_true rfl)⟩) dX5_where_41 rfl rfl (Nat.le_of_ble_eq_true rfl) ⟨(Nat.le_of_ble_eq_true rfl), (Nat.le_of_ble_eq_true rfl)⟩ ?_
          rintro r w2 ⟨rfl, rfl⟩
          refine z_if_eq (tgt := 49) F dX5_where_44 (by decide) (fun c44 => ?_) (fun c44 => ?_)
          · refine z_iinc (v := nI (j + 1)) F dX5_where_49 rfl (nI_1 j) (by decide) ?_
            refine z_goto (tgt := 19) F dX5_where_52 (by decide) ?_
            exact z_lv rfl (ih (j + 1) (by omega) (by omega) (zfst_n (P := (fun k => (sx k).testBit u)) hz (zB_0.mp c44)))
          · refine z_iload_n F dX5_where_47 rfl ?_
            exact z_iret F hr rfl hlk dX5_where_48 ⟨by rw [zfst_at (P := (fun k => (sx k).testBit u)) hz (zB_1.mp c44) hlt]; rfl, rfl⟩ (Nat.le_of_ble_eq_true rfl) (Nat.le_of_ble_eq_true rfl)
  refine z_aload_n F dX5_where_0 rfl ?_
  refine z_aload_n F dX5_where_1 rfl ?_
  refine z_iload_n F dX5_where_2 rfl ?_
  refine z_callVi0 F (c_M_isUnit (by omega) (nI u)) 0 rfl rfl (zcwV F.2.2.2.2.1 kcX5_isUnit kmX5_66 kiX5_isUnit ksX5_isUnit knX5 hdX5_isUnit rfl rfl ⟨(Nat.le_of_ble_eq_true rfl), (Nat.le_of_ble_eq_true rfl)⟩) dX5_where_3 rfl rfl (Nat.le_of_ble_eq_true rfl) ⟨(Nat.le_of_ble_eq_true rfl), (Nat.le_of_ble_eq_true rfl)⟩ ?_
  rintro r w2 ⟨rfl, rfl⟩
  refine z_if_eq (tgt := 13) F dX5_where_6 (by decide) (fun c6 => ?_) (fun c6 => ?_)
  · exact absurd ((zhas (by omega)).mpr ⟨u, hu, rfl⟩) (of_decide_eq_false (zB_0.mp c6))
  · refine z_iconst (v := 0) F dX5_where_9 (by decide) ?_
    refine z_goto (tgt := 14) F dX5_where_10 (by decide) ?_
    refine z_put (ci := 5) (C := RX5) (T := TX5) (N := 20) (ty := .int) F 0 0 dX5_where_14 inX5 tyX5 tyX5_ok nmX5 kfX5_53 rfl rfl rfl (by decide) rfl (by decide +kernel) rfl rfl (Nat.le_of_ble_eq_true rfl) ?_
    refine z_iconst (v := 0) F dX5_where_17 (by decide) ?_
    refine z_istore_n F dX5_where_18 (by decide) ?_
    exact z_lv rfl (loop (q + 1) 0 (by omega) (by omega) rfl)

/-- the first of the things t, t + 1 .. (n of them) that no box passes; else e -/
def zmbr (P : Nat → Bool) (e : Nat) : Nat → Nat → Nat
  | 0, _ => e
  | n + 1, t => bif P t then zmbr P e n (t + 1) else t
theorem zmbr_t {P : Nat → Bool} {e n t : Nat} (h : P t = true) : zmbr P e (n + 1) t = zmbr P e n (t + 1) := by
  show (bif _ then _ else _) = _
  rw [h]; rfl
theorem zmbr_f {P : Nat → Bool} {e n t : Nat} (h : P t = false) : zmbr P e (n + 1) t = t := by
  show (bif _ then _ else _) = _
  rw [h]; rfl

set_option maxHeartbeats 4000000 in
set_option maxRecDepth 100000 in
theorem c_M_bar_x1 {l : Launch} {D : va_G} {tys : List (ClassId × FieldType)} {am : Nat → Nat} {cA : ClassId} {cd nb : Nat} {ro lo co ks : Nat → Nat} {nu : Nat} {si we ki hw : Nat → Nat} {sl : Nat} {ch : Option Nat} {em : Bool} {bx : Nat → Option Nat} {sx : Nat → Nat} {cn : Nat} {nx : Nat → Option Nat} {ns pt : Nat → Nat} (hn : nu ≤ 8) (v1 : Int32) (h : ¬ (0 ≤ v1 ∧ v1 < nI nu)) : zMi l yX5_bar (zws yX5_bar cX5_bar 6 (some .int)) { frames := 3, cells := 0, slots := 0, locals := 67 } D zcl ((cA, .int) :: tys) zG [.ref (am 0), .int v1] (wM am cA cd nb ro lo co ks nu si we ki hw sl ch em bx sx cn nx ns pt) (fun r w2 => r = 0 ∧ w2 = (wM am cA 1 nb ro lo co ks nu si we ki hw sl ch em bx sx cn nx ns pt)) 0 0 := by
  refine z_ofi (cc := cX5_bar) (maxL := 6) (ret := (some .int)) (by decide) rfl (Nat.le_of_ble_eq_true rfl) ?_
  intro p e s m below meth c A F hr hlk hnm
  refine z_aload_n F dX5_bar_0 rfl ?_
  refine z_aload_n F dX5_bar_1 rfl ?_
  refine z_iload_n F dX5_bar_2 rfl ?_
  refine z_callVi0 F (c_M_isUnit (by omega) v1) 0 rfl rfl (zcwV F.2.2.2.2.1 kcX5_isUnit kmX5_66 kiX5_isUnit ksX5_isUnit knX5 hdX5_isUnit rfl rfl ⟨(Nat.le_of_ble_eq_true rfl), (Nat.le_of_ble_eq_true rfl)⟩) dX5_bar_3 rfl rfl (Nat.le_of_ble_eq_true rfl) ⟨(Nat.le_of_ble_eq_true rfl), (Nat.le_of_ble_eq_true rfl)⟩ ?_
  rintro r w2 ⟨rfl, rfl⟩
  refine z_if_eq (tgt := 13) F dX5_bar_6 (by decide) (fun c6 => ?_) (fun c6 => ?_)
  · refine z_iconst (v := 1) F dX5_bar_13 (by decide) ?_
    refine z_put (ci := 5) (C := RX5) (T := TX5) (N := 20) (ty := .int) F 0 0 dX5_bar_14 inX5 tyX5 tyX5_ok nmX5 kfX5_53 rfl rfl rfl (by decide) rfl (by decide +kernel) rfl rfl (Nat.le_of_ble_eq_true rfl) ?_
    refine z_aload_n F dX5_bar_17 rfl ?_
    refine z_get (ci := 5) (C := RX5) (T := TX5) (N := 20) F 0 0 dX5_bar_18 inX5 kfX5_53 rfl rfl rfl (by decide) rfl ?_
    refine z_if_le (tgt := 26) F dX5_bar_21 (by decide) (fun c21 => ?_) (fun c21 => ?_)
    · exact absurd c21 (by decide)
    · refine z_iconst (v := 0) F dX5_bar_24 (by decide) ?_
      exact z_iret F hr rfl hlk dX5_bar_25 ⟨rfl, rfl⟩ (Nat.le_of_ble_eq_true rfl) (Nat.le_of_ble_eq_true rfl)
  · exact absurd (of_decide_eq_true (zB_1.mp c6)) h

set_option maxHeartbeats 4000000 in
set_option maxRecDepth 100000 in
theorem c_M_bar {l : Launch} {D : va_G} {tys : List (ClassId × FieldType)} {am : Nat → Nat} {cA : ClassId} {cd nb : Nat} {ro lo co ks : Nat → Nat} {nu : Nat} {si we ki hw : Nat → Nat} {sl : Nat} {ch : Option Nat} {em : Bool} {bx : Nat → Option Nat} {sx : Nat → Nat} {cn : Nat} {nx : Nat → Option Nat} {ns pt : Nat → Nat} (ok : zok ro lo co ks nb sl si we ki (fun _ => 0) (fun _ => 0) nu) (hh : ∀ x, hw x < 2 ^ 31) (u : Nat) (hu : u < nu) : zMi l yX5_bar (zws yX5_bar cX5_bar 6 (some .int)) { frames := 3, cells := 0, slots := 0, locals := 67 } D zcl ((cA, .int) :: tys) zG [.ref (am 0), .int (nI u)] (wM am cA cd nb ro lo co ks nu si we ki hw sl ch em bx sx cn nx ns pt) (fun r w2 => r = nI (zmbr (fun t => zany (fun b => zmp ro lo ks sl si we ki nu b (zwr hw nu u 8) t) nb) (bif zma hw nu (zwr hw nu u 8) then 4 else 0) 3 1) ∧ w2 = (wM am cA 0 nb ro lo co ks nu si we ki hw sl ch em bx sx cn nx ns pt)) 0 0 := by
  refine z_ofi (cc := cX5_bar) (maxL := 6) (ret := (some .int)) (by decide) rfl (Nat.le_of_ble_eq_true rfl) ?_
  intro p e s m below meth c A F hr hlk hnm
  obtain ⟨o1, o2, o3, o4, o5, o6, o7, o8, o9, o10, o11, o12⟩ := id ok
  have hS : (zwr hw nu u 8) < 256 := zwr_lt o3 (by omega) 8
  have loop : ∀ (n t : Nat), 1 ≤ t → t ≤ 4 → 5 ≤ t + n → zmbr (fun t => zany (fun b => zmp ro lo ks sl si we ki nu b (zwr hw nu u 8) t) nb) (bif zma hw nu (zwr hw nu u 8) then 4 else 0) (4 - t) t = zmbr (fun t => zany (fun b => zmp ro lo ks sl si we ki nu b (zwr hw nu u 8) t) nb) (bif zma hw nu (zwr hw nu u 8) then 4 else 0) 3 1 → zW p l e (headSpec (zws yX5_bar cX5_bar 6 (some .int)) { frames := 3, cells := 0, slots := 0, locals := 67 }).room s m [.ref (am 0), .int (nI u)].toArray below meth c 6 D zcl A 0 0 (MQ below (va_Qi (fun r w2 => r = nI (zmbr (fun t => zany (fun b => zmp ro lo ks sl si we ki nu b (zwr hw nu u 8) t) nb) (bif zma hw nu (zwr hw nu u 8) then 4 else 0) 3 1) ∧ w2 = (wM am cA 0 nb ro lo co ks nu si we ki hw sl ch em bx sx cn nx ns pt)) (zEnd D zcl A) A) [.ref (am 0), .int (nI u)].toArray s 0 0 A) (wM am cA 0 nb ro lo co ks nu si we ki hw sl ch em bx sx cn nx ns pt) [(0, .ref (am 0)), (1, .int (nI u)), (2, .int (nI (zwr hw nu u 8))), (3, .int (nI t))] 34 [] := by
    intro n
    induction n with
    | zero => intro t h1 h2 h3; omega
    | succ n ih =>
      intro t ht1 ht4 ht2 hv
      refine z_iload_n F dX5_bar_34 rfl ?_
      refine z_iconst (v := 4) F dX5_bar_35 (by decide) ?_
      refine z_icmp_ge (tgt := 96) F dX5_bar_36 (by decide) (fun c36 => ?_) (fun c36 => ?_)
      · have et : t = 4 := by have := (nI_leI (by decide : 4 < 2 ^ 31) (by omega : t < 2 ^ 31)).mp c36; omega
        subst et
        refine z_aload_n F dX5_bar_96 rfl ?_
        refine z_iload_n F dX5_bar_97 rfl ?_
        refine z_callVi0 F (c_M_apart o3 hh (zwr hw nu u 8) (Nat.lt_trans hS (by decide))) 0 rfl rfl (zcwV F.2.2.2.2.1 kcX5_hasApart kmX5_90 kiX5_hasApart ksX5_hasApart knX5 hdX5_hasApart rfl rfl ⟨(Nat.le_of_ble_eq_true rfl), (Nat.le_of_ble_eq_true rfl)⟩) dX5_bar_98 rfl rfl (Nat.le_of_ble_eq_true rfl) ⟨(Nat.le_of_ble_eq_true rfl), (Nat.le_of_ble_eq_true rfl)⟩ ?_
        rintro r w2 ⟨rfl, rfl⟩
        refine z_if_eq (tgt := 108) F dX5_bar_101 (by decide) (fun c101 => ?_) (fun c101 => ?_)
        · refine z_iconst (v := 0) F dX5_bar_108 (by decide) ?_
          exact z_iret F hr rfl hlk dX5_bar_109 ⟨by rw [← hv]; show _ = nI (bif zma hw nu (zwr hw nu u 8) then 4 else 0); rw [zB_0.mp c101]; rfl, rfl⟩ (Nat.le_of_ble_eq_true rfl) (Nat.le_of_ble_eq_true rfl)
        · refine z_iconst (v := 4) F dX5_bar_104 (by decide) ?_
          refine z_goto (tgt := 109) F dX5_bar_105 (by decide) ?_
          exact z_iret F hr rfl hlk dX5_bar_109 ⟨by rw [← hv]; show _ = nI (bif zma hw nu (zwr hw nu u 8) then 4 else 0); rw [zB_1.mp c101]; rfl, rfl⟩ (Nat.le_of_ble_eq_true rfl) (Nat.le_of_ble_eq_true rfl)
      · have hlt4 : t < 4 := Nat.lt_of_not_le (fun q => c36 ((nI_leI (by decide : 4 < 2 ^ 31) (by omega : t < 2 ^ 31)).mpr q))
        refine z_iconst (v := 0) F dX5_bar_39 (by decide) ?_
        refine z_istore F dX5_bar_40 (by decide) ?_
        refine z_iconst (v := 0) F dX5_bar_42 (by decide) ?_
        refine z_istore F dX5_bar_43 (by decide) ?_
        have inner : ∀ (n2 j : Nat), j ≤ nb → nb + 1 ≤ j + n2 → zW p l e (headSpec (zws yX5_bar cX5_bar 6 (some .int)) { frames := 3, cells := 0, slots := 0, locals := 67 }).room s m [.ref (am 0), .int (nI u)].toArray below meth c 6 D zcl A 0 0 (MQ below (va_Qi (fun r w2 => r = nI (zmbr (fun t => zany (fun b => zmp ro lo ks sl si we ki nu b (zwr hw nu u 8) t) nb) (bif zma hw nu (zwr hw nu u 8) then 4 else 0) 3 1) ∧ w2 = (wM am cA 0 nb ro lo co ks nu si we ki hw sl ch em bx sx cn nx ns pt)) (zEnd D zcl A) A) [.ref (am 0), .int (nI u)].toArray s 0 0 A) (wM am cA 0 nb ro lo co ks nu si we ki hw sl ch em bx sx cn nx ns pt) [(0, .ref (am 0)), (1, .int (nI u)), (2, .int (nI (zwr hw nu u 8))), (3, .int (nI t)), (4, .int (zB (zany (fun b => zmp ro lo ks sl si we ki nu b (zwr hw nu u 8) t) j))), (5, .int (nI j))] 45 [] := by
          intro n2
          induction n2 with
          | zero => intro j h1 h2; omega
          | succ n2 ih2 =>
            intro j hj1 hj2
            refine z_iload F dX5_bar_45 rfl ?_
            refine z_aload_n F dX5_bar_47 rfl ?_
            refine z_get (ci := 5) (C := RX5) (T := TX5) (N := 20) F 0 1 dX5_bar_48 inX5 kfX5_56 rfl rfl rfl (by decide) rfl ?_
            refine z_icmp_ge (tgt := 83) F dX5_bar_51 (by decide) (fun c51 => ?_) (fun c51 => ?_)
            · have ej := zge_end hj1 (by omega) c51
              rw [ej]
              skip
              refine z_iload F dX5_bar_83 rfl ?_
              refine z_if_ne (tgt := 90) F dX5_bar_85 (by decide) (fun c85 => ?_) (fun c85 => ?_)
              · have n85 : (fun t => zany (fun b => zmp ro lo ks sl si we ki nu b (zwr hw nu u 8) t) nb) t = true := znff (fun q => c85 (by show zB (zany (fun b => zmp ro lo ks sl si we ki nu b (zwr hw nu u 8) t) _) = 0; rw [show zany (fun b => zmp ro lo ks sl si we ki nu b (zwr hw nu u 8) t) _ = false from q]; rfl))
                refine z_iinc (v := nI (t + 1)) F dX5_bar_90 rfl (nI_1 t) (by decide) ?_
                refine z_goto (tgt := 34) F dX5_bar_93 (by decide) ?_
                exact z_lv rfl (ih (t + 1) (by omega) (by omega) (by omega) (by rw [← hv, show 4 - t = (4 - (t + 1)) + 1 by omega, zmbr_t (P := (fun t => zany (fun b => zmp ro lo ks sl si we ki nu b (zwr hw nu u 8) t) nb)) n85]))
              · have n85 : (fun t => zany (fun b => zmp ro lo ks sl si we ki nu b (zwr hw nu u 8) t) nb) t = false := zntt (fun q => absurd c85 (fun q2 => by rw [show zany (fun b => zmp ro lo ks sl si we ki nu b (zwr hw nu u 8) t) _ = true from q] at q2; exact absurd q2 (by decide)))
                refine z_iload_n F dX5_bar_88 rfl ?_
                exact z_iret F hr rfl hlk dX5_bar_89 ⟨by rw [← hv, show 4 - t = (4 - (t + 1)) + 1 by omega, zmbr_f (P := (fun t => zany (fun b => zmp ro lo ks sl si we ki nu b (zwr hw nu u 8) t) nb)) n85], rfl⟩ (Nat.le_of_ble_eq_true rfl) (Nat.le_of_ble_eq_true rfl)
            · have hlt := zge_on (by omega) hj1 c51
              refine z_iload F dX5_bar_54 rfl ?_
              refine z_if_ne (tgt := 70) F dX5_bar_56 (by decide) (fun c56 => ?_) (fun c56 => ?_)
              · refine z_iconst (v := 1) F dX5_bar_70 (by decide) ?_
                refine z_goto (tgt := 75) F dX5_bar_71 (by decide) ?_
                refine z_topi (y := zB (zany (fun b => zmp ro lo ks sl si we ki nu b (zwr hw nu u 8) t) (j + 1))) (by show (1 : Int32) = zB (zany (fun b => zmp ro lo ks sl si we ki nu b (zwr hw nu u 8) t) j || (fun b => zmp ro lo ks sl si we ki nu b (zwr hw nu u 8) t) j); rw [show zany (fun b => zmp ro lo ks sl si we ki nu b (zwr hw nu u 8) t) j = true from znff (fun q => c56 (by rw [q]; rfl))]; rfl) ?_
                refine z_istore F dX5_bar_75 (by decide) ?_
                refine z_iinc (v := nI (j + 1)) F dX5_bar_77 rfl (nI_1 j) (by decide) ?_
                refine z_goto (tgt := 45) F dX5_bar_80 (by decide) ?_
                exact z_lv rfl (ih2 (j + 1) (by omega) (by omega))
              · have n56 : zany (fun b => zmp ro lo ks sl si we ki nu b (zwr hw nu u 8) t) j = false := zB_0.mp c56
                refine z_aload_n F dX5_bar_59 rfl ?_
                refine z_iload F dX5_bar_60 rfl ?_
                refine z_iload_n F dX5_bar_62 rfl ?_
                refine z_iload_n F dX5_bar_63 rfl ?_
                refine z_callVi0 F (c_M_passes ok hh j (zwr hw nu u 8) t (by omega) (Nat.lt_trans hS (by decide)) (by omega)) 0 rfl rfl (zcwV F.2.2.2.2.1 kcX5_passes kmX5_87 kiX5_passes ksX5_passes knX5 hdX5_passes rfl rfl ⟨(Nat.le_of_ble_eq_true rfl), (Nat.le_of_ble_eq_true rfl)⟩) dX5_bar_64 rfl rfl (Nat.le_of_ble_eq_true rfl) ⟨(Nat.le_of_ble_eq_true rfl), (Nat.le_of_ble_eq_true rfl)⟩ ?_
                rintro r w2 ⟨rfl, rfl⟩
                refine z_if_eq (tgt := 74) F dX5_bar_67 (by decide) (fun c67 => ?_) (fun c67 => ?_)
                · refine z_iconst (v := 0) F dX5_bar_74 (by decide) ?_
                  refine z_topi (y := zB (zany (fun b => zmp ro lo ks sl si we ki nu b (zwr hw nu u 8) t) (j + 1))) (by show (0 : Int32) = zB (zany (fun b => zmp ro lo ks sl si we ki nu b (zwr hw nu u 8) t) j || (fun b => zmp ro lo ks sl si we ki nu b (zwr hw nu u 8) t) j); rw [n56, show (fun b => zmp ro lo ks sl si we ki nu b (zwr hw nu u 8) t) j = false from zB_0.mp c67]; rfl) ?_
                  refine z_istore F dX5_bar_75 (by decide) ?_
                  refine z_iinc (v := nI (j + 1)) F dX5_bar_77 rfl (nI_1 j) (by decide) ?_
                  refine z_goto (tgt := 45) F dX5_bar_80 (by decide) ?_
                  exact z_lv rfl (ih2 (j + 1) (by omega) (by omega))
                · refine z_iconst (v := 1) F dX5_bar_70 (by decide) ?_
                  refine z_goto (tgt := 75) F dX5_bar_71 (by decide) ?_
                  refine z_topi (y := zB (zany (fun b => zmp ro lo ks sl si we ki nu b (zwr hw nu u 8) t) (j + 1))) (by show (1 : Int32) = zB (zany (fun b => zmp ro lo ks sl si we ki nu b (zwr hw nu u 8) t) j || (fun b => zmp ro lo ks sl si we ki nu b (zwr hw nu u 8) t) j); rw [n56, show (fun b => zmp ro lo ks sl si we ki nu b (zwr hw nu u 8) t) j = true from zB_1.mp c67]; rfl) ?_
                  refine z_istore F dX5_bar_75 (by decide) ?_
                  refine z_iinc (v := nI (j + 1)) F dX5_bar_77 rfl (nI_1 j) (by decide) ?_
                  refine z_goto (tgt := 45) F dX5_bar_80 (by decide) ?_
                  exact z_lv rfl (ih2 (j + 1) (by omega) (by omega))
        exact z_lv rfl (inner (nb + 1) 0 (by omega) (by omega))
  refine z_aload_n F dX5_bar_0 rfl ?_
  refine z_aload_n F dX5_bar_1 rfl ?_
  refine z_iload_n F dX5_bar_2 rfl ?_
  refine z_callVi0 F (c_M_isUnit (by omega) (nI u)) 0 rfl rfl (zcwV F.2.2.2.2.1 kcX5_isUnit kmX5_66 kiX5_isUnit ksX5_isUnit knX5 hdX5_isUnit rfl rfl ⟨(Nat.le_of_ble_eq_true rfl), (Nat.le_of_ble_eq_true rfl)⟩) dX5_bar_3 rfl rfl (Nat.le_of_ble_eq_true rfl) ⟨(Nat.le_of_ble_eq_true rfl), (Nat.le_of_ble_eq_true rfl)⟩ ?_
  rintro r w2 ⟨rfl, rfl⟩
  refine z_if_eq (tgt := 13) F dX5_bar_6 (by decide) (fun c6 => ?_) (fun c6 => ?_)
  · exact absurd ((zhas (by omega)).mpr ⟨u, hu, rfl⟩) (of_decide_eq_false (zB_0.mp c6))
  · refine z_iconst (v := 0) F dX5_bar_9 (by decide) ?_
    refine z_goto (tgt := 14) F dX5_bar_10 (by decide) ?_
    refine z_put (ci := 5) (C := RX5) (T := TX5) (N := 20) (ty := .int) F 0 0 dX5_bar_14 inX5 tyX5 tyX5_ok nmX5 kfX5_53 rfl rfl rfl (by decide) rfl (by decide +kernel) rfl rfl (Nat.le_of_ble_eq_true rfl) ?_
    refine z_aload_n F dX5_bar_17 rfl ?_
    refine z_get (ci := 5) (C := RX5) (T := TX5) (N := 20) F 0 0 dX5_bar_18 inX5 kfX5_53 rfl rfl rfl (by decide) rfl ?_
    refine z_if_le (tgt := 26) F dX5_bar_21 (by decide) (fun c21 => ?_) (fun c21 => ?_)
    · refine z_aload_n F dX5_bar_26 rfl ?_
      refine z_iload_n F dX5_bar_27 rfl ?_
      refine z_callVi0 F (c_M_wholeOf o3 hh u (by omega)) 0 rfl rfl (zcwV F.2.2.2.2.1 kcX5_wholeOf kmX5_122 kiX5_wholeOf ksX5_wholeOf knX5 hdX5_wholeOf rfl rfl ⟨(Nat.le_of_ble_eq_true rfl), (Nat.le_of_ble_eq_true rfl)⟩) dX5_bar_28 rfl rfl (Nat.le_of_ble_eq_true rfl) ⟨(Nat.le_of_ble_eq_true rfl), (Nat.le_of_ble_eq_true rfl)⟩ ?_
      rintro r w2 ⟨rfl, rfl⟩
      refine z_istore_n F dX5_bar_31 (by decide) ?_
      refine z_iconst (v := 1) F dX5_bar_32 (by decide) ?_
      refine z_istore_n F dX5_bar_33 (by decide) ?_
      exact z_lv rfl (loop 4 1 (by omega) (by omega) (by omega) rfl)
    · exact absurd (by decide) c21

set_option maxHeartbeats 4000000 in
set_option maxRecDepth 100000 in
theorem c_M_fits_x1 {l : Launch} {D : va_G} {tys : List (ClassId × FieldType)} {am : Nat → Nat} {cA : ClassId} {cd nb : Nat} {ro lo co ks : Nat → Nat} {nu : Nat} {si we ki hw : Nat → Nat} {sl : Nat} {ch : Option Nat} {em : Bool} {bx : Nat → Option Nat} {sx : Nat → Nat} {cn : Nat} {nx : Nat → Option Nat} {ns pt : Nat → Nat} (hn : nu ≤ 8) (hn2 : nb ≤ 6) (v1 v2 : Int32) (h : ¬ ((0 ≤ v1 ∧ v1 < nI nb) ∧ (0 ≤ v2 ∧ v2 < nI nu))) : zMi l yX5_fits (zws yX5_fits cX5_fits 3 (some .boolean)) { frames := 3, cells := 0, slots := 0, locals := 67 } D zcl ((cA, .int) :: tys) zG [.ref (am 0), .int v1, .int v2] (wM am cA cd nb ro lo co ks nu si we ki hw sl ch em bx sx cn nx ns pt) (fun r w2 => r = 0 ∧ w2 = (wM am cA 1 nb ro lo co ks nu si we ki hw sl ch em bx sx cn nx ns pt)) 0 0 := by
  refine z_ofi (cc := cX5_fits) (maxL := 3) (ret := (some .boolean)) (by decide) rfl (Nat.le_of_ble_eq_true rfl) ?_
  intro p e s m below meth c A F hr hlk hnm
  refine z_aload_n F dX5_fits_0 rfl ?_
  refine z_aload_n F dX5_fits_1 rfl ?_
  refine z_iload_n F dX5_fits_2 rfl ?_
  refine z_callVi0 F (c_M_isBox (by omega) v1) 0 rfl rfl (zcwV F.2.2.2.2.1 kcX5_isBox kmX5_135 kiX5_isBox ksX5_isBox knX5 hdX5_isBox rfl rfl ⟨(Nat.le_of_ble_eq_true rfl), (Nat.le_of_ble_eq_true rfl)⟩) dX5_fits_3 rfl rfl (Nat.le_of_ble_eq_true rfl) ⟨(Nat.le_of_ble_eq_true rfl), (Nat.le_of_ble_eq_true rfl)⟩ ?_
  rintro r w2 ⟨rfl, rfl⟩
  refine z_if_eq (tgt := 17) F dX5_fits_6 (by decide) (fun c6 => ?_) (fun c6 => ?_)
  · refine z_iconst (v := 1) F dX5_fits_17 (by decide) ?_
    refine z_goto (tgt := 22) F dX5_fits_18 (by decide) ?_
    refine z_put (ci := 5) (C := RX5) (T := TX5) (N := 20) (ty := .int) F 0 0 dX5_fits_22 inX5 tyX5 tyX5_ok nmX5 kfX5_53 rfl rfl rfl (by decide) rfl (by decide +kernel) rfl rfl (Nat.le_of_ble_eq_true rfl) ?_
    refine z_aload_n F dX5_fits_25 rfl ?_
    refine z_get (ci := 5) (C := RX5) (T := TX5) (N := 20) F 0 0 dX5_fits_26 inX5 kfX5_53 rfl rfl rfl (by decide) rfl ?_
    refine z_if_ne (tgt := 48) F dX5_fits_29 (by decide) (fun c29 => ?_) (fun c29 => ?_)
    · refine z_iconst (v := 0) F dX5_fits_48 (by decide) ?_
      exact z_iret F hr rfl hlk dX5_fits_49 ⟨rfl, rfl⟩ (Nat.le_of_ble_eq_true rfl) (Nat.le_of_ble_eq_true rfl)
    · exact absurd c29 (by decide)
  · refine z_aload_n F dX5_fits_9 rfl ?_
    refine z_iload_n F dX5_fits_10 rfl ?_
    refine z_callVi0 F (c_M_isUnit (by omega) v2) 0 rfl rfl (zcwV F.2.2.2.2.1 kcX5_isUnit kmX5_66 kiX5_isUnit ksX5_isUnit knX5 hdX5_isUnit rfl rfl ⟨(Nat.le_of_ble_eq_true rfl), (Nat.le_of_ble_eq_true rfl)⟩) dX5_fits_11 rfl rfl (Nat.le_of_ble_eq_true rfl) ⟨(Nat.le_of_ble_eq_true rfl), (Nat.le_of_ble_eq_true rfl)⟩ ?_
    rintro r w2 ⟨rfl, rfl⟩
    refine z_if_ne (tgt := 21) F dX5_fits_14 (by decide) (fun c14 => ?_) (fun c14 => ?_)
    · exact absurd ⟨of_decide_eq_true (zB_1.mp c6), of_decide_eq_true (zB_1.mp c14)⟩ h
    · refine z_iconst (v := 1) F dX5_fits_17 (by decide) ?_
      refine z_goto (tgt := 22) F dX5_fits_18 (by decide) ?_
      refine z_put (ci := 5) (C := RX5) (T := TX5) (N := 20) (ty := .int) F 0 0 dX5_fits_22 inX5 tyX5 tyX5_ok nmX5 kfX5_53 rfl rfl rfl (by decide) rfl (by decide +kernel) rfl rfl (Nat.le_of_ble_eq_true rfl) ?_
      refine z_aload_n F dX5_fits_25 rfl ?_
      refine z_get (ci := 5) (C := RX5) (T := TX5) (N := 20) F 0 0 dX5_fits_26 inX5 kfX5_53 rfl rfl rfl (by decide) rfl ?_
      refine z_if_ne (tgt := 48) F dX5_fits_29 (by decide) (fun c29 => ?_) (fun c29 => ?_)
      · refine z_iconst (v := 0) F dX5_fits_48 (by decide) ?_
        exact z_iret F hr rfl hlk dX5_fits_49 ⟨rfl, rfl⟩ (Nat.le_of_ble_eq_true rfl) (Nat.le_of_ble_eq_true rfl)
      · exact absurd c29 (by decide)

set_option maxHeartbeats 4000000 in
set_option maxRecDepth 100000 in
theorem c_M_fits {l : Launch} {D : va_G} {tys : List (ClassId × FieldType)} {am : Nat → Nat} {cA : ClassId} {cd nb : Nat} {ro lo co ks : Nat → Nat} {nu : Nat} {si we ki hw : Nat → Nat} {sl : Nat} {ch : Option Nat} {em : Bool} {bx : Nat → Option Nat} {sx : Nat → Nat} {cn : Nat} {nx : Nat → Option Nat} {ns pt : Nat → Nat} (ok : zok ro lo co ks nb sl si we ki (fun _ => 0) (fun _ => 0) nu) (hh : ∀ x, hw x < 2 ^ 31) (b u : Nat) (hb : b < nb) (hu : u < nu) : zMi l yX5_fits (zws yX5_fits cX5_fits 3 (some .boolean)) { frames := 3, cells := 0, slots := 0, locals := 67 } D zcl ((cA, .int) :: tys) zG [.ref (am 0), .int (nI b), .int (nI u)] (wM am cA cd nb ro lo co ks nu si we ki hw sl ch em bx sx cn nx ns pt) (fun r w2 => r = zB (zmp ro lo ks sl si we ki nu b (2 ^ u) 3) ∧ w2 = (wM am cA 0 nb ro lo co ks nu si we ki hw sl ch em bx sx cn nx ns pt)) 0 0 := by
  refine z_ofi (cc := cX5_fits) (maxL := 3) (ret := (some .boolean)) (by decide) rfl (Nat.le_of_ble_eq_true rfl) ?_
  intro p e s m below meth c A F hr hlk hnm
  obtain ⟨o1, o2, o3, o4, o5, o6, o7, o8, o9, o10, o11, o12⟩ := id ok
  refine z_aload_n F dX5_fits_0 rfl ?_
  refine z_aload_n F dX5_fits_1 rfl ?_
  refine z_iload_n F dX5_fits_2 rfl ?_
  refine z_callVi0 F (c_M_isBox (by omega) (nI b)) 0 rfl rfl (zcwV F.2.2.2.2.1 kcX5_isBox kmX5_135 kiX5_isBox ksX5_isBox knX5 hdX5_isBox rfl rfl ⟨(Nat.le_of_ble_eq_true rfl), (Nat.le_of_ble_eq_true rfl)⟩) dX5_fits_3 rfl rfl (Nat.le_of_ble_eq_true rfl) ⟨(Nat.le_of_ble_eq_true rfl), (Nat.le_of_ble_eq_true rfl)⟩ ?_
  rintro r w2 ⟨rfl, rfl⟩
  refine z_if_eq (tgt := 17) F dX5_fits_6 (by decide) (fun c6 => ?_) (fun c6 => ?_)
  · exact absurd ((zhas (by omega)).mpr ⟨b, hb, rfl⟩) (of_decide_eq_false (zB_0.mp c6))
  · refine z_aload_n F dX5_fits_9 rfl ?_
    refine z_iload_n F dX5_fits_10 rfl ?_
    refine z_callVi0 F (c_M_isUnit (by omega) (nI u)) 0 rfl rfl (zcwV F.2.2.2.2.1 kcX5_isUnit kmX5_66 kiX5_isUnit ksX5_isUnit knX5 hdX5_isUnit rfl rfl ⟨(Nat.le_of_ble_eq_true rfl), (Nat.le_of_ble_eq_true rfl)⟩) dX5_fits_11 rfl rfl (Nat.le_of_ble_eq_true rfl) ⟨(Nat.le_of_ble_eq_true rfl), (Nat.le_of_ble_eq_true rfl)⟩ ?_
    rintro r w2 ⟨rfl, rfl⟩
    refine z_if_ne (tgt := 21) F dX5_fits_14 (by decide) (fun c14 => ?_) (fun c14 => ?_)
    · refine z_iconst (v := 0) F dX5_fits_21 (by decide) ?_
      refine z_put (ci := 5) (C := RX5) (T := TX5) (N := 20) (ty := .int) F 0 0 dX5_fits_22 inX5 tyX5 tyX5_ok nmX5 kfX5_53 rfl rfl rfl (by decide) rfl (by decide +kernel) rfl rfl (Nat.le_of_ble_eq_true rfl) ?_
      refine z_aload_n F dX5_fits_25 rfl ?_
      refine z_get (ci := 5) (C := RX5) (T := TX5) (N := 20) F 0 0 dX5_fits_26 inX5 kfX5_53 rfl rfl rfl (by decide) rfl ?_
      refine z_if_ne (tgt := 48) F dX5_fits_29 (by decide) (fun c29 => ?_) (fun c29 => ?_)
      · exact absurd rfl c29
      · refine z_aload_n F dX5_fits_32 rfl ?_
        refine z_iload_n F dX5_fits_33 rfl ?_
        refine z_iconst (v := 1) F dX5_fits_34 (by decide) ?_
        refine z_iload_n F dX5_fits_35 rfl ?_
        refine z_ishl F dX5_fits_36 ?_
        refine z_topi (y := nI (2 ^ u)) (zb_shl1 u (by omega)) ?_
        refine z_iconst (v := 3) F dX5_fits_37 (by decide) ?_
        refine z_callVi0 F (c_M_passes ok hh b (2 ^ u) 3 (by omega) (Nat.pow_lt_pow_right (by decide) (by omega)) (by decide)) 0 rfl rfl (zcwV F.2.2.2.2.1 kcX5_passes kmX5_87 kiX5_passes ksX5_passes knX5 hdX5_passes rfl rfl ⟨(Nat.le_of_ble_eq_true rfl), (Nat.le_of_ble_eq_true rfl)⟩) dX5_fits_38 rfl rfl (Nat.le_of_ble_eq_true rfl) ⟨(Nat.le_of_ble_eq_true rfl), (Nat.le_of_ble_eq_true rfl)⟩ ?_
        rintro r w2 ⟨rfl, rfl⟩
        refine z_if_eq (tgt := 48) F dX5_fits_41 (by decide) (fun c41 => ?_) (fun c41 => ?_)
        · refine z_iconst (v := 0) F dX5_fits_48 (by decide) ?_
          exact z_iret F hr rfl hlk dX5_fits_49 ⟨by rw [zB_0.mp c41]; rfl, rfl⟩ (Nat.le_of_ble_eq_true rfl) (Nat.le_of_ble_eq_true rfl)
        · refine z_iconst (v := 1) F dX5_fits_44 (by decide) ?_
          refine z_goto (tgt := 49) F dX5_fits_45 (by decide) ?_
          exact z_iret F hr rfl hlk dX5_fits_49 ⟨by rw [zB_1.mp c41]; rfl, rfl⟩ (Nat.le_of_ble_eq_true rfl) (Nat.le_of_ble_eq_true rfl)
    · exact absurd ((zhas (by omega)).mpr ⟨u, hu, rfl⟩) (of_decide_eq_false (zB_0.mp c14))

set_option maxHeartbeats 4000000 in
set_option maxRecDepth 100000 in
/-- divisor -/
theorem c_M_gcd {l : Launch} {D : va_G} {tys : List (ClassId × FieldType)} {cA : ClassId} {w : va_W} (a b : Nat) (ha : a < 2 ^ 31) (hb : b < 2 ^ 31) : zMi l yX5_divisor (zws yX5_divisor cX5_divisor 5 (some .int)) { frames := 0, cells := 0, slots := 0, locals := 0 } D zcl ((cA, .int) :: tys) zG [.int (nI a), .int (nI b)] w (fun r w2 => r = nI (Nat.gcd a b) ∧ w2 = w) 0 0 := by
  refine z_ofi (cc := cX5_divisor) (maxL := 5) (ret := (some .int)) (by decide) rfl (Nat.le_of_ble_eq_true rfl) ?_
  intro p e s m below meth c A F hr hlk hnm
  have loop : ∀ (n x y z : Nat), y < n → x < 2 ^ 31 → y < 2 ^ 31 → Nat.gcd x y = Nat.gcd a b → zW p l e (headSpec (zws yX5_divisor cX5_divisor 5 (some .int)) { frames := 0, cells := 0, slots := 0, locals := 0 }).room s m [.int (nI a), .int (nI b)].toArray below meth c 5 D zcl A 0 0 (MQ below (va_Qi (fun r w2 => r = nI (Nat.gcd a b) ∧ w2 = w) (zEnd D zcl A) A) [.int (nI a), .int (nI b)].toArray s 0 0 A) w [(0, .int (nI a)), (1, .int (nI b)), (2, .int (nI x)), (3, .int (nI y)), (4, .int (nI z))] 4 [] := by
    intro n
    induction n with
    | zero => intro x y z h1; omega
    | succ n ih =>
      intro x y z hy1 hx hy hg
      refine z_iload_n F dX5_divisor_4 rfl ?_
      refine z_if_le (tgt := 21) F dX5_divisor_5 (by decide) (fun c5 => ?_) (fun c5 => ?_)
      · have n5 : y = 0 := by
          rcases Nat.eq_zero_or_pos y with q | q
          · exact q
          · exact absurd c5 (nI_nle q (by omega))
        refine z_iload_n F dX5_divisor_21 rfl ?_
        exact z_iret F hr rfl hlk dX5_divisor_22 ⟨by rw [← hg, n5, Nat.gcd_zero_right], rfl⟩ (Nat.le_of_ble_eq_true rfl) (Nat.le_of_ble_eq_true rfl)
      · have n5 : ¬ y = 0 := fun q => c5 (by rw [q]; decide)
        refine z_iload_n F dX5_divisor_8 rfl ?_
        refine z_iload_n F dX5_divisor_9 rfl ?_
        refine z_irem F dX5_divisor_10 (nI_ne0 (by omega) (by omega)) ?_
        refine z_topi (y := nI (x % y)) (pk_rem (by omega) (by omega) (by omega)) ?_
        refine z_istore F dX5_divisor_11 (by decide) ?_
        refine z_iload_n F dX5_divisor_13 rfl ?_
        refine z_istore_n F dX5_divisor_14 (by decide) ?_
        refine z_iload F dX5_divisor_15 rfl ?_
        refine z_istore_n F dX5_divisor_17 (by decide) ?_
        refine z_goto (tgt := 4) F dX5_divisor_18 (by decide) ?_
        have hm := Nat.mod_lt x (show 0 < y by omega)
        have h9 := ih y (x % y) (x % y) (by omega) (by omega) (by omega) (by rw [← hg, zgcd_s x y])
        exact z_lv rfl h9
  have first : ∀ (n x y : Nat), y < n → x < 2 ^ 31 → y < 2 ^ 31 → Nat.gcd x y = Nat.gcd a b → zW p l e (headSpec (zws yX5_divisor cX5_divisor 5 (some .int)) { frames := 0, cells := 0, slots := 0, locals := 0 }).room s m [.int (nI a), .int (nI b)].toArray below meth c 5 D zcl A 0 0 (MQ below (va_Qi (fun r w2 => r = nI (Nat.gcd a b) ∧ w2 = w) (zEnd D zcl A) A) [.int (nI a), .int (nI b)].toArray s 0 0 A) w [(0, .int (nI a)), (1, .int (nI b)), (2, .int (nI x)), (3, .int (nI y))] 4 [] := by
    intro n x y hy1 hx hy hg
    refine z_iload_n F dX5_divisor_4 rfl ?_
    refine z_if_le (tgt := 21) F dX5_divisor_5 (by decide) (fun c5 => ?_) (fun c5 => ?_)
    · have n5 : y = 0 := by
        rcases Nat.eq_zero_or_pos y with q | q
        · exact q
        · exact absurd c5 (nI_nle q (by omega))
      refine z_iload_n F dX5_divisor_21 rfl ?_
      exact z_iret F hr rfl hlk dX5_divisor_22 ⟨by rw [← hg, n5, Nat.gcd_zero_right], rfl⟩ (Nat.le_of_ble_eq_true rfl) (Nat.le_of_ble_eq_true rfl)
    · have n5 : ¬ y = 0 := fun q => c5 (by rw [q]; decide)
      refine z_iload_n F dX5_divisor_8 rfl ?_
      refine z_iload_n F dX5_divisor_9 rfl ?_
      refine z_irem F dX5_divisor_10 (nI_ne0 (by omega) (by omega)) ?_
      refine z_topi (y := nI (x % y)) (pk_rem (by omega) (by omega) (by omega)) ?_
      refine z_istore F dX5_divisor_11 (by decide) ?_
      refine z_iload_n F dX5_divisor_13 rfl ?_
      refine z_istore_n F dX5_divisor_14 (by decide) ?_
      refine z_iload F dX5_divisor_15 rfl ?_
      refine z_istore_n F dX5_divisor_17 (by decide) ?_
      refine z_goto (tgt := 4) F dX5_divisor_18 (by decide) ?_
      have hm := Nat.mod_lt x (show 0 < y by omega)
      have h9 := loop n y (x % y) (x % y) (by omega) (by omega) (by omega) (by rw [← hg, zgcd_s x y])
      exact z_lv rfl h9
  refine z_iload_n F dX5_divisor_0 rfl ?_
  refine z_istore_n F dX5_divisor_1 (by decide) ?_
  refine z_iload_n F dX5_divisor_2 rfl ?_
  refine z_istore_n F dX5_divisor_3 (by decide) ?_
  exact z_lv rfl (first (b + 1) a b (by omega) ha hb rfl)

set_option maxHeartbeats 4000000 in
set_option maxRecDepth 100000 in
theorem c_M_used_x1 {l : Launch} {D : va_G} {tys : List (ClassId × FieldType)} {am : Nat → Nat} {cA : ClassId} {cd nb : Nat} {ro lo co ks : Nat → Nat} {nu : Nat} {si we ki hw : Nat → Nat} {sl : Nat} {ch : Option Nat} {em : Bool} {bx : Nat → Option Nat} {sx : Nat → Nat} {cn : Nat} {nx : Nat → Option Nat} {ns pt : Nat → Nat} (v1 : Int32) (h1 : ¬ (0 ≤ v1 ∧ v1 ≤ 1)) : zMi l yX5_used (zws yX5_used cX5_used 5 (some .int)) { frames := 2, cells := 0, slots := 0, locals := 44 } D zcl ((cA, .int) :: tys) zG [.ref (am 0), .int v1] (wM am cA cd nb ro lo co ks nu si we ki hw sl ch em bx sx cn nx ns pt) (fun r w2 => r = 0 ∧ w2 = (wM am cA 1 nb ro lo co ks nu si we ki hw sl ch em bx sx cn nx ns pt)) 0 0 := by
  refine z_ofi (cc := cX5_used) (maxL := 5) (ret := (some .int)) (by decide) rfl (Nat.le_of_ble_eq_true rfl) ?_
  intro p e s m below meth c A F hr hlk hnm
  refine z_aload_n F dX5_used_0 rfl ?_
  refine z_iload_n F dX5_used_1 rfl ?_
  refine z_iconst (v := 0) F dX5_used_2 (by decide) ?_
  refine z_iconst (v := 1) F dX5_used_3 (by decide) ?_
  refine z_callSi0 F (c_M_in v1 0 1) (zcwS F.2.2.2.2.1 kcX5_in kmX5_59 ktX5_in knX5 hdX5_in rfl rfl ⟨(Nat.le_of_ble_eq_true rfl), (Nat.le_of_ble_eq_true rfl)⟩) dX5_used_4 rfl rfl (Nat.le_of_ble_eq_true rfl) ⟨(Nat.le_of_ble_eq_true rfl), (Nat.le_of_ble_eq_true rfl)⟩ ?_
  rintro r w2 ⟨rfl, rfl⟩
  refine z_if_ne (tgt := 14) F dX5_used_7 (by decide) (fun c7 => ?_) (fun c7 => ?_)
  · exact absurd (of_decide_eq_true (zB_1.mp c7)) h1
  · refine z_iconst (v := 1) F dX5_used_10 (by decide) ?_
    refine z_goto (tgt := 38) F dX5_used_11 (by decide) ?_
    refine z_put (ci := 5) (C := RX5) (T := TX5) (N := 20) (ty := .int) F 0 0 dX5_used_38 inX5 tyX5 tyX5_ok nmX5 kfX5_53 rfl rfl rfl (by decide) rfl (by decide +kernel) rfl rfl (Nat.le_of_ble_eq_true rfl) ?_
    refine z_aload_n F dX5_used_41 rfl ?_
    refine z_get (ci := 5) (C := RX5) (T := TX5) (N := 20) F 0 0 dX5_used_42 inX5 kfX5_53 rfl rfl rfl (by decide) rfl ?_
    refine z_if_le (tgt := 50) F dX5_used_45 (by decide) (fun c45 => ?_) (fun c45 => ?_)
    · exact absurd c45 (by decide)
    · refine z_iconst (v := 0) F dX5_used_48 (by decide) ?_
      exact z_iret F hr rfl hlk dX5_used_49 ⟨rfl, rfl⟩ (Nat.le_of_ble_eq_true rfl) (Nat.le_of_ble_eq_true rfl)

set_option maxHeartbeats 4000000 in
set_option maxRecDepth 100000 in
theorem c_M_used_x2 {l : Launch} {D : va_G} {tys : List (ClassId × FieldType)} {am : Nat → Nat} {cA : ClassId} {cd nb : Nat} {ro lo co ks : Nat → Nat} {nu : Nat} {si we ki hw : Nat → Nat} {sl : Nat} {ch : Option Nat} {em : Bool} {bx : Nat → Option Nat} {sx : Nat → Nat} {cn : Nat} {nx : Nat → Option Nat} {ns pt : Nat → Nat} (v1 : Int32) (h1 : (0 ≤ v1 ∧ v1 ≤ 1)) : zMi l yX5_used (zws yX5_used cX5_used 5 (some .int)) { frames := 2, cells := 0, slots := 0, locals := 44 } D zcl ((cA, .int) :: tys) zG [.ref (am 0), .int v1] (wM am cA cd nb ro lo co ks nu si we ki hw sl none em bx sx cn nx ns pt) (fun r w2 => r = 0 ∧ w2 = (wM am cA 2 nb ro lo co ks nu si we ki hw sl none em bx sx cn nx ns pt)) 0 0 := by
  refine z_ofi (cc := cX5_used) (maxL := 5) (ret := (some .int)) (by decide) rfl (Nat.le_of_ble_eq_true rfl) ?_
  intro p e s m below meth c A F hr hlk hnm
  refine z_aload_n F dX5_used_0 rfl ?_
  refine z_iload_n F dX5_used_1 rfl ?_
  refine z_iconst (v := 0) F dX5_used_2 (by decide) ?_
  refine z_iconst (v := 1) F dX5_used_3 (by decide) ?_
  refine z_callSi0 F (c_M_in v1 0 1) (zcwS F.2.2.2.2.1 kcX5_in kmX5_59 ktX5_in knX5 hdX5_in rfl rfl ⟨(Nat.le_of_ble_eq_true rfl), (Nat.le_of_ble_eq_true rfl)⟩) dX5_used_4 rfl rfl (Nat.le_of_ble_eq_true rfl) ⟨(Nat.le_of_ble_eq_true rfl), (Nat.le_of_ble_eq_true rfl)⟩ ?_
  rintro r w2 ⟨rfl, rfl⟩
  refine z_if_ne (tgt := 14) F dX5_used_7 (by decide) (fun c7 => ?_) (fun c7 => ?_)
  · refine z_aload_n F dX5_used_14 rfl ?_
    refine z_get (ci := 5) (C := RX5) (T := TX5) (N := 20) F 0 12 dX5_used_15 inX5 kfX5_34 rfl rfl rfl (by decide) rfl ?_
    refine z_iconst (v := (-1)) F dX5_used_18 (by decide) ?_
    refine z_icmp_ne (tgt := 26) F dX5_used_19 (by decide) (fun c19 => ?_) (fun c19 => ?_)
    · exact absurd rfl c19
    · refine z_iconst (v := 2) F dX5_used_22 (by decide) ?_
      refine z_goto (tgt := 38) F dX5_used_23 (by decide) ?_
      refine z_put (ci := 5) (C := RX5) (T := TX5) (N := 20) (ty := .int) F 0 0 dX5_used_38 inX5 tyX5 tyX5_ok nmX5 kfX5_53 rfl rfl rfl (by decide) rfl (by decide +kernel) rfl rfl (Nat.le_of_ble_eq_true rfl) ?_
      refine z_aload_n F dX5_used_41 rfl ?_
      refine z_get (ci := 5) (C := RX5) (T := TX5) (N := 20) F 0 0 dX5_used_42 inX5 kfX5_53 rfl rfl rfl (by decide) rfl ?_
      refine z_if_le (tgt := 50) F dX5_used_45 (by decide) (fun c45 => ?_) (fun c45 => ?_)
      · exact absurd c45 (by decide)
      · refine z_iconst (v := 0) F dX5_used_48 (by decide) ?_
        exact z_iret F hr rfl hlk dX5_used_49 ⟨rfl, rfl⟩ (Nat.le_of_ble_eq_true rfl) (Nat.le_of_ble_eq_true rfl)
  · exact absurd h1 (of_decide_eq_false (zB_0.mp c7))

set_option maxHeartbeats 4000000 in
set_option maxRecDepth 100000 in
theorem c_M_used_x3 {l : Launch} {D : va_G} {tys : List (ClassId × FieldType)} {am : Nat → Nat} {cA : ClassId} {cd nb : Nat} {ro lo co ks : Nat → Nat} {nu : Nat} {si we ki hw : Nat → Nat} {sl : Nat} {ch : Option Nat} {em : Bool} {bx : Nat → Option Nat} {sx : Nat → Nat} {cn : Nat} {nx : Nat → Option Nat} {ns pt : Nat → Nat} (v1 : Int32) (h1 : (0 ≤ v1 ∧ v1 ≤ 1)) : zMi l yX5_used (zws yX5_used cX5_used 5 (some .int)) { frames := 2, cells := 0, slots := 0, locals := 44 } D zcl ((cA, .int) :: tys) zG [.ref (am 0), .int v1] (wM am cA cd nb ro lo co ks nu si we ki hw sl (some 0) em bx sx cn nx ns pt) (fun r w2 => r = 0 ∧ w2 = (wM am cA 3 nb ro lo co ks nu si we ki hw sl (some 0) em bx sx cn nx ns pt)) 0 0 := by
  refine z_ofi (cc := cX5_used) (maxL := 5) (ret := (some .int)) (by decide) rfl (Nat.le_of_ble_eq_true rfl) ?_
  intro p e s m below meth c A F hr hlk hnm
  refine z_aload_n F dX5_used_0 rfl ?_
  refine z_iload_n F dX5_used_1 rfl ?_
  refine z_iconst (v := 0) F dX5_used_2 (by decide) ?_
  refine z_iconst (v := 1) F dX5_used_3 (by decide) ?_
  refine z_callSi0 F (c_M_in v1 0 1) (zcwS F.2.2.2.2.1 kcX5_in kmX5_59 ktX5_in knX5 hdX5_in rfl rfl ⟨(Nat.le_of_ble_eq_true rfl), (Nat.le_of_ble_eq_true rfl)⟩) dX5_used_4 rfl rfl (Nat.le_of_ble_eq_true rfl) ⟨(Nat.le_of_ble_eq_true rfl), (Nat.le_of_ble_eq_true rfl)⟩ ?_
  rintro r w2 ⟨rfl, rfl⟩
  refine z_if_ne (tgt := 14) F dX5_used_7 (by decide) (fun c7 => ?_) (fun c7 => ?_)
  · refine z_aload_n F dX5_used_14 rfl ?_
    refine z_get (ci := 5) (C := RX5) (T := TX5) (N := 20) F 0 12 dX5_used_15 inX5 kfX5_34 rfl rfl rfl (by decide) rfl ?_
    refine z_iconst (v := (-1)) F dX5_used_18 (by decide) ?_
    refine z_icmp_ne (tgt := 26) F dX5_used_19 (by decide) (fun c19 => ?_) (fun c19 => ?_)
    · refine z_aload_n F dX5_used_26 rfl ?_
      refine z_get (ci := 5) (C := RX5) (T := TX5) (N := 20) F 0 12 dX5_used_27 inX5 kfX5_34 rfl rfl rfl (by decide) rfl ?_
      refine z_if_ne (tgt := 37) F dX5_used_30 (by decide) (fun c30 => ?_) (fun c30 => ?_)
      · exact absurd rfl c30
      · refine z_iconst (v := 3) F dX5_used_33 (by decide) ?_
        refine z_goto (tgt := 38) F dX5_used_34 (by decide) ?_
        refine z_put (ci := 5) (C := RX5) (T := TX5) (N := 20) (ty := .int) F 0 0 dX5_used_38 inX5 tyX5 tyX5_ok nmX5 kfX5_53 rfl rfl rfl (by decide) rfl (by decide +kernel) rfl rfl (Nat.le_of_ble_eq_true rfl) ?_
        refine z_aload_n F dX5_used_41 rfl ?_
        refine z_get (ci := 5) (C := RX5) (T := TX5) (N := 20) F 0 0 dX5_used_42 inX5 kfX5_53 rfl rfl rfl (by decide) rfl ?_
        refine z_if_le (tgt := 50) F dX5_used_45 (by decide) (fun c45 => ?_) (fun c45 => ?_)
        · exact absurd c45 (by decide)
        · refine z_iconst (v := 0) F dX5_used_48 (by decide) ?_
          exact z_iret F hr rfl hlk dX5_used_49 ⟨rfl, rfl⟩ (Nat.le_of_ble_eq_true rfl) (Nat.le_of_ble_eq_true rfl)
    · exact absurd c19 (by decide)
  · exact absurd h1 (of_decide_eq_false (zB_0.mp c7))

set_option maxHeartbeats 4000000 in
set_option maxRecDepth 100000 in
theorem c_M_used {l : Launch} {D : va_G} {tys : List (ClassId × FieldType)} {am : Nat → Nat} {cA : ClassId} {cd nb : Nat} {ro lo co ks : Nat → Nat} {nu : Nat} {si we ki hw : Nat → Nat} {sl : Nat} {ch : Option Nat} {em : Bool} {bx : Nat → Option Nat} {sx : Nat → Nat} {cn : Nat} {nx : Nat → Option Nat} {ns pt : Nat → Nat} (ok : zok ro lo co ks nb sl si we ki (fun _ => 0) (fun _ => 0) nu) (hh : ∀ x, hw x < 2 ^ 31) (q : Nat) (hq0 : 0 < q) (hq : q ≤ 8) (hb : ∀ x, sx x < 2 ^ 31) (hf : ∀ k, k < q → ∃ b, bx k = some b ∧ b < 6) (sd : Nat) (hs : sd ≤ 1) (hg : 0 < Nat.gcd (zadd (fun i => zsum si (sx i) nu) q) (zadd (fun i => ro ((bx i).getD 0)) q)) : zMi l yX5_used (zws yX5_used cX5_used 5 (some .int)) { frames := 2, cells := 0, slots := 0, locals := 44 } D zcl ((cA, .int) :: tys) zG [.ref (am 0), .int (nI sd)] (wM am cA cd nb ro lo co ks nu si we ki hw sl (some q) em bx sx cn nx ns pt) (fun r w2 => r = nI ((bif decide (sd = 0) then (zadd (fun i => zsum si (sx i) nu) q) else (zadd (fun i => ro ((bx i).getD 0)) q)) / Nat.gcd (zadd (fun i => zsum si (sx i) nu) q) (zadd (fun i => ro ((bx i).getD 0)) q)) ∧ w2 = (wM am cA 0 nb ro lo co ks nu si we ki hw sl (some q) em bx sx cn nx ns pt)) 0 0 := by
  refine z_ofi (cc := cX5_used) (maxL := 5) (ret := (some .int)) (by decide) rfl (Nat.le_of_ble_eq_true rfl) ?_
  intro p e s m below meth c A F hr hlk hnm
  obtain ⟨o1, o2, o3, o4, o5, o6, o7, o8, o9, o10, o11, o12⟩ := id ok
  have tA : (zadd (fun i => zsum si (sx i) nu) q) ≤ 64000 := zadd_b (fun x => zsum_b o8 o3) hq
  have tB : (zadd (fun i => ro ((bx i).getD 0)) q) ≤ 8000 := zadd_b (fun x => o4 _) hq
  have loop : ∀ (n j : Nat), j ≤ q → q + 1 ≤ j + n → zW p l e (headSpec (zws yX5_used cX5_used 5 (some .int)) { frames := 2, cells := 0, slots := 0, locals := 44 }).room s m [.ref (am 0), .int (nI sd)].toArray below meth c 5 D zcl A 0 0 (MQ below (va_Qi (fun r w2 => r = nI ((bif decide (sd = 0) then (zadd (fun i => zsum si (sx i) nu) q) else (zadd (fun i => ro ((bx i).getD 0)) q)) / Nat.gcd (zadd (fun i => zsum si (sx i) nu) q) (zadd (fun i => ro ((bx i).getD 0)) q)) ∧ w2 = (wM am cA 0 nb ro lo co ks nu si we ki hw sl (some q) em bx sx cn nx ns pt)) (zEnd D zcl A) A) [.ref (am 0), .int (nI sd)].toArray s 0 0 A) (wM am cA 0 nb ro lo co ks nu si we ki hw sl (some q) em bx sx cn nx ns pt) [(0, .ref (am 0)), (1, .int (nI sd)), (2, .int (nI (zadd (fun i => zsum si (sx i) nu) j))), (3, .int (nI (zadd (fun i => ro ((bx i).getD 0)) j))), (4, .int (nI j))] 57 [] := by
    intro n
    induction n with
    | zero => intro j h1 h2; omega
    | succ n ih =>
      intro j hj1 hj2
      refine z_iload F dX5_used_57 rfl ?_
      refine z_aload_n F dX5_used_59 rfl ?_
      refine z_get (ci := 5) (C := RX5) (T := TX5) (N := 20) F 0 12 dX5_used_60 inX5 kfX5_34 rfl rfl rfl (by decide) rfl ?_
      refine z_icmp_ge (tgt := 101) F dX5_used_63 (by decide) (fun c63 => ?_) (fun c63 => ?_)
      · have ej := zge_end hj1 (by omega) c63
        rw [ej]
        refine z_iload_n F dX5_used_101 rfl ?_
        refine z_iload_n F dX5_used_102 rfl ?_
        refine z_callSi0 F (c_M_gcd _ _ (by omega) (by omega)) (zcwS F.2.2.2.2.1 kcX5_divisor kmX5_138 ktX5_divisor knX5 hdX5_divisor rfl rfl ⟨(Nat.le_of_ble_eq_true rfl), (Nat.le_of_ble_eq_true rfl)⟩) dX5_used_103 rfl rfl (Nat.le_of_ble_eq_true rfl) ⟨(Nat.le_of_ble_eq_true rfl), (Nat.le_of_ble_eq_true rfl)⟩ ?_
        rintro r w2 ⟨rfl, rfl⟩
        refine z_istore F dX5_used_106 (by decide) ?_
        refine z_iload_n F dX5_used_108 rfl ?_
        refine z_if_ne (tgt := 119) F dX5_used_109 (by decide) (fun c109 => ?_) (fun c109 => ?_)
        · refine z_iload_n F dX5_used_119 rfl ?_
          refine z_iload F dX5_used_120 rfl ?_
          refine z_idiv F dX5_used_122 (nI_ne0 (by omega) (Nat.lt_of_le_of_lt (zgcd_le _ _) (by omega))) ?_
          exact z_iret F hr rfl hlk dX5_used_123 ⟨by have e : ¬ sd = 0 := fun q => c109 (by rw [q]; rfl); rw [decide_eq_false e]; exact pk_div (by omega) (by omega) (Nat.lt_of_le_of_lt (zgcd_le _ _) (by omega)), rfl⟩ (Nat.le_of_ble_eq_true rfl) (Nat.le_of_ble_eq_true rfl)
        · refine z_iload_n F dX5_used_112 rfl ?_
          refine z_iload F dX5_used_113 rfl ?_
          refine z_idiv F dX5_used_115 (nI_ne0 (by omega) (Nat.lt_of_le_of_lt (zgcd_le _ _) (by omega))) ?_
          refine z_goto (tgt := 123) F dX5_used_116 (by decide) ?_
          exact z_iret F hr rfl hlk dX5_used_123 ⟨by have e : sd = 0 := (zb_eq0 (by omega)).mp c109; rw [decide_eq_true e]; exact pk_div (by omega) (by omega) (Nat.lt_of_le_of_lt (zgcd_le _ _) (by omega)), rfl⟩ (Nat.le_of_ble_eq_true rfl) (Nat.le_of_ble_eq_true rfl)
      · have hlt := zge_on (by omega) hj1 c63
        obtain ⟨b, hb1, hb2⟩ := hf j hlt
        refine z_iload_n F dX5_used_66 rfl ?_
        refine z_aload_n F dX5_used_67 rfl ?_
        refine z_aload_n F dX5_used_68 rfl ?_
        refine z_get (ci := 5) (C := RX5) (T := TX5) (N := 20) F 0 15 dX5_used_69 inX5 kfX5_41 rfl rfl rfl (by decide) rfl ?_
        refine z_iload F dX5_used_72 rfl ?_
        refine z_ialdN F 10 0 dX5_used_74 rfl rfl rfl (by omega) (by decide) ?_
        refine z_callVi0 F (c_M_sizes (ch := some q) (cd := 0) o3 (sx j) (hb j)) 0 rfl rfl (zcwV F.2.2.2.2.1 kcX5_sizes kmX5_80 kiX5_sizes ksX5_sizes knX5 hdX5_sizes rfl rfl ⟨(Nat.le_of_ble_eq_true rfl), (Nat.le_of_ble_eq_true rfl)⟩) dX5_used_75 rfl rfl (Nat.le_of_ble_eq_true rfl) ⟨(Nat.le_of_ble_eq_true rfl), (Nat.le_of_ble_eq_true rfl)⟩ ?_
        rintro r w2 ⟨rfl, rfl⟩
        refine z_iadd F dX5_used_78 ?_
        refine z_topi (y := nI ((zadd (fun i => zsum si (sx i) nu) j) + zsum si (sx j) nu)) (nI_add _ _) ?_
        refine z_istore_n F dX5_used_79 (by decide) ?_
        refine z_iload_n F dX5_used_80 rfl ?_
        refine z_aload_n F dX5_used_81 rfl ?_
        refine z_get (ci := 5) (C := RX5) (T := TX5) (N := 20) F 0 2 dX5_used_82 inX5 kfX5_7 rfl rfl rfl (by decide) rfl ?_
        refine z_aload_n F dX5_used_85 rfl ?_
        refine z_get (ci := 5) (C := RX5) (T := TX5) (N := 20) F 0 14 dX5_used_86 inX5 kfX5_38 rfl rfl rfl (by decide) rfl ?_
        refine z_iload F dX5_used_89 rfl ?_
        refine z_iald F 9 0 dX5_used_91 rfl rfl rfl (by omega) (by decide) ?_
        refine z_topi (y := nI b) (zo_s1 hb1) ?_
        refine z_ialdN F 1 0 dX5_used_92 rfl rfl rfl (by omega) (by decide) ?_
        refine z_iadd F dX5_used_93 ?_
        refine z_topi (y := nI ((zadd (fun i => ro ((bx i).getD 0)) j) + ro ((bx j).getD 0))) (by rw [hb1]; exact nI_add _ _) ?_
        refine z_istore_n F dX5_used_94 (by decide) ?_
        refine z_iinc (v := nI (j + 1)) F dX5_used_95 rfl (nI_1 j) (by decide) ?_
        refine z_goto (tgt := 57) F dX5_used_98 (by decide) ?_
        exact z_lv rfl (ih (j + 1) (by omega) (by omega))
  refine z_aload_n F dX5_used_0 rfl ?_
  refine z_iload_n F dX5_used_1 rfl ?_
  refine z_iconst (v := 0) F dX5_used_2 (by decide) ?_
  refine z_iconst (v := 1) F dX5_used_3 (by decide) ?_
  refine z_callSi0 F (c_M_in (nI sd) 0 1) (zcwS F.2.2.2.2.1 kcX5_in kmX5_59 ktX5_in knX5 hdX5_in rfl rfl ⟨(Nat.le_of_ble_eq_true rfl), (Nat.le_of_ble_eq_true rfl)⟩) dX5_used_4 rfl rfl (Nat.le_of_ble_eq_true rfl) ⟨(Nat.le_of_ble_eq_true rfl), (Nat.le_of_ble_eq_true rfl)⟩ ?_
  rintro r w2 ⟨rfl, rfl⟩
  refine z_if_ne (tgt := 14) F dX5_used_7 (by decide) (fun c7 => ?_) (fun c7 => ?_)
  · refine z_aload_n F dX5_used_14 rfl ?_
    refine z_get (ci := 5) (C := RX5) (T := TX5) (N := 20) F 0 12 dX5_used_15 inX5 kfX5_34 rfl rfl rfl (by decide) rfl ?_
    refine z_iconst (v := (-1)) F dX5_used_18 (by decide) ?_
    refine z_icmp_ne (tgt := 26) F dX5_used_19 (by decide) (fun c19 => ?_) (fun c19 => ?_)
    · refine z_aload_n F dX5_used_26 rfl ?_
      refine z_get (ci := 5) (C := RX5) (T := TX5) (N := 20) F 0 12 dX5_used_27 inX5 kfX5_34 rfl rfl rfl (by decide) rfl ?_
      refine z_if_ne (tgt := 37) F dX5_used_30 (by decide) (fun c30 => ?_) (fun c30 => ?_)
      · refine z_iconst (v := 0) F dX5_used_37 (by decide) ?_
        refine z_put (ci := 5) (C := RX5) (T := TX5) (N := 20) (ty := .int) F 0 0 dX5_used_38 inX5 tyX5 tyX5_ok nmX5 kfX5_53 rfl rfl rfl (by decide) rfl (by decide +kernel) rfl rfl (Nat.le_of_ble_eq_true rfl) ?_
        refine z_aload_n F dX5_used_41 rfl ?_
        refine z_get (ci := 5) (C := RX5) (T := TX5) (N := 20) F 0 0 dX5_used_42 inX5 kfX5_53 rfl rfl rfl (by decide) rfl ?_
        refine z_if_le (tgt := 50) F dX5_used_45 (by decide) (fun c45 => ?_) (fun c45 => ?_)
        · refine z_iconst (v := 0) F dX5_used_50 (by decide) ?_
          refine z_istore_n F dX5_used_51 (by decide) ?_
          refine z_iconst (v := 0) F dX5_used_52 (by decide) ?_
          refine z_istore_n F dX5_used_53 (by decide) ?_
          refine z_iconst (v := 0) F dX5_used_54 (by decide) ?_
          refine z_istore F dX5_used_55 (by decide) ?_
          exact z_lv rfl (loop (q + 1) 0 (by omega) (by omega))
        · exact absurd (by decide) c45
      · exact absurd ((zb_eq0 (by omega)).mp c30) (by omega)
    · exact absurd c19 (zo_ne (by omega))
  · exact absurd (zin (Nat.zero_le _) hs (by decide)) (of_decide_eq_false (zB_0.mp c7))

set_option maxHeartbeats 4000000 in
set_option maxRecDepth 100000 in
theorem c_M_dim_x1 {l : Launch} {D : va_G} {tys : List (ClassId × FieldType)} {am : Nat → Nat} {cA : ClassId} {cd nb : Nat} {ro lo co ks : Nat → Nat} {nu : Nat} {si we ki hw : Nat → Nat} {sl : Nat} {ch : Option Nat} {em : Bool} {bx : Nat → Option Nat} {sx : Nat → Nat} {cn : Nat} {nx : Nat → Option Nat} {ns pt : Nat → Nat} (hn2 : nb ≤ 6) (v1 v2 : Int32) (h : ¬ (0 ≤ v1 ∧ v1 < nI nb)) : zMi l yX5_dimensional (zws yX5_dimensional cX5_dimensional 3 (some .int)) { frames := 2, cells := 0, slots := 0, locals := 43 } D zcl ((cA, .int) :: tys) zG [.ref (am 0), .int v1, .int v2] (wM am cA cd nb ro lo co ks nu si we ki hw sl ch em bx sx cn nx ns pt) (fun r w2 => r = 0 ∧ w2 = (wM am cA 1 nb ro lo co ks nu si we ki hw sl ch em bx sx cn nx ns pt)) 0 0 := by
  refine z_ofi (cc := cX5_dimensional) (maxL := 3) (ret := (some .int)) (by decide) rfl (Nat.le_of_ble_eq_true rfl) ?_
  intro p e s m below meth c A F hr hlk hnm
  refine z_aload_n F dX5_dimensional_0 rfl ?_
  refine z_aload_n F dX5_dimensional_1 rfl ?_
  refine z_iload_n F dX5_dimensional_2 rfl ?_
  refine z_callVi0 F (c_M_isBox (by omega) v1) 0 rfl rfl (zcwV F.2.2.2.2.1 kcX5_isBox kmX5_135 kiX5_isBox ksX5_isBox knX5 hdX5_isBox rfl rfl ⟨(Nat.le_of_ble_eq_true rfl), (Nat.le_of_ble_eq_true rfl)⟩) dX5_dimensional_3 rfl rfl (Nat.le_of_ble_eq_true rfl) ⟨(Nat.le_of_ble_eq_true rfl), (Nat.le_of_ble_eq_true rfl)⟩ ?_
  rintro r w2 ⟨rfl, rfl⟩
  refine z_if_ne (tgt := 13) F dX5_dimensional_6 (by decide) (fun c6 => ?_) (fun c6 => ?_)
  · exact absurd (of_decide_eq_true (zB_1.mp c6)) h
  · refine z_iconst (v := 1) F dX5_dimensional_9 (by decide) ?_
    refine z_goto (tgt := 30) F dX5_dimensional_10 (by decide) ?_
    refine z_put (ci := 5) (C := RX5) (T := TX5) (N := 20) (ty := .int) F 0 0 dX5_dimensional_30 inX5 tyX5 tyX5_ok nmX5 kfX5_53 rfl rfl rfl (by decide) rfl (by decide +kernel) rfl rfl (Nat.le_of_ble_eq_true rfl) ?_
    refine z_aload_n F dX5_dimensional_33 rfl ?_
    refine z_get (ci := 5) (C := RX5) (T := TX5) (N := 20) F 0 0 dX5_dimensional_34 inX5 kfX5_53 rfl rfl rfl (by decide) rfl ?_
    refine z_if_le (tgt := 44) F dX5_dimensional_37 (by decide) (fun c37 => ?_) (fun c37 => ?_)
    · exact absurd c37 (by decide)
    · refine z_iconst (v := 0) F dX5_dimensional_40 (by decide) ?_
      refine z_goto (tgt := 69) F dX5_dimensional_41 (by decide) ?_
      exact z_iret F hr rfl hlk dX5_dimensional_69 ⟨rfl, rfl⟩ (Nat.le_of_ble_eq_true rfl) (Nat.le_of_ble_eq_true rfl)

set_option maxHeartbeats 4000000 in
set_option maxRecDepth 100000 in
theorem c_M_dim_x2 {l : Launch} {D : va_G} {tys : List (ClassId × FieldType)} {am : Nat → Nat} {cA : ClassId} {cd nb : Nat} {ro lo co ks : Nat → Nat} {nu : Nat} {si we ki hw : Nat → Nat} {sl : Nat} {ch : Option Nat} {em : Bool} {bx : Nat → Option Nat} {sx : Nat → Nat} {cn : Nat} {nx : Nat → Option Nat} {ns pt : Nat → Nat} (hn2 : nb ≤ 6) (v1 v2 : Int32) (h : (0 ≤ v1 ∧ v1 < nI nb)) (h2 : v2 < 0) : zMi l yX5_dimensional (zws yX5_dimensional cX5_dimensional 3 (some .int)) { frames := 2, cells := 0, slots := 0, locals := 43 } D zcl ((cA, .int) :: tys) zG [.ref (am 0), .int v1, .int v2] (wM am cA cd nb ro lo co ks nu si we ki hw sl ch em bx sx cn nx ns pt) (fun r w2 => r = 0 ∧ w2 = (wM am cA 2 nb ro lo co ks nu si we ki hw sl ch em bx sx cn nx ns pt)) 0 0 := by
  refine z_ofi (cc := cX5_dimensional) (maxL := 3) (ret := (some .int)) (by decide) rfl (Nat.le_of_ble_eq_true rfl) ?_
  intro p e s m below meth c A F hr hlk hnm
  refine z_aload_n F dX5_dimensional_0 rfl ?_
  refine z_aload_n F dX5_dimensional_1 rfl ?_
  refine z_iload_n F dX5_dimensional_2 rfl ?_
  refine z_callVi0 F (c_M_isBox (by omega) v1) 0 rfl rfl (zcwV F.2.2.2.2.1 kcX5_isBox kmX5_135 kiX5_isBox ksX5_isBox knX5 hdX5_isBox rfl rfl ⟨(Nat.le_of_ble_eq_true rfl), (Nat.le_of_ble_eq_true rfl)⟩) dX5_dimensional_3 rfl rfl (Nat.le_of_ble_eq_true rfl) ⟨(Nat.le_of_ble_eq_true rfl), (Nat.le_of_ble_eq_true rfl)⟩ ?_
  rintro r w2 ⟨rfl, rfl⟩
  refine z_if_ne (tgt := 13) F dX5_dimensional_6 (by decide) (fun c6 => ?_) (fun c6 => ?_)
  · refine z_iload_n F dX5_dimensional_13 rfl ?_
    refine z_if_ge (tgt := 21) F dX5_dimensional_14 (by decide) (fun c14 => ?_) (fun c14 => ?_)
    · exact absurd c14 (fun q => zlt_nge h2 q)
    · refine z_iconst (v := 2) F dX5_dimensional_17 (by decide) ?_
      refine z_goto (tgt := 30) F dX5_dimensional_18 (by decide) ?_
      refine z_put (ci := 5) (C := RX5) (T := TX5) (N := 20) (ty := .int) F 0 0 dX5_dimensional_30 inX5 tyX5 tyX5_ok nmX5 kfX5_53 rfl rfl rfl (by decide) rfl (by decide +kernel) rfl rfl (Nat.le_of_ble_eq_true rfl) ?_
      refine z_aload_n F dX5_dimensional_33 rfl ?_
      refine z_get (ci := 5) (C := RX5) (T := TX5) (N := 20) F 0 0 dX5_dimensional_34 inX5 kfX5_53 rfl rfl rfl (by decide) rfl ?_
      refine z_if_le (tgt := 44) F dX5_dimensional_37 (by decide) (fun c37 => ?_) (fun c37 => ?_)
      · exact absurd c37 (by decide)
      · refine z_iconst (v := 0) F dX5_dimensional_40 (by decide) ?_
        refine z_goto (tgt := 69) F dX5_dimensional_41 (by decide) ?_
        exact z_iret F hr rfl hlk dX5_dimensional_69 ⟨rfl, rfl⟩ (Nat.le_of_ble_eq_true rfl) (Nat.le_of_ble_eq_true rfl)
  · exact absurd h (of_decide_eq_false (zB_0.mp c6))

set_option maxHeartbeats 4000000 in
set_option maxRecDepth 100000 in
theorem c_M_dim_x3 {l : Launch} {D : va_G} {tys : List (ClassId × FieldType)} {am : Nat → Nat} {cA : ClassId} {cd nb : Nat} {ro lo co ks : Nat → Nat} {nu : Nat} {si we ki hw : Nat → Nat} {sl : Nat} {ch : Option Nat} {em : Bool} {bx : Nat → Option Nat} {sx : Nat → Nat} {cn : Nat} {nx : Nat → Option Nat} {ns pt : Nat → Nat} (hn2 : nb ≤ 6) (v1 v2 : Int32) (h : (0 ≤ v1 ∧ v1 < nI nb)) (h2 : v2 = 0) : zMi l yX5_dimensional (zws yX5_dimensional cX5_dimensional 3 (some .int)) { frames := 2, cells := 0, slots := 0, locals := 43 } D zcl ((cA, .int) :: tys) zG [.ref (am 0), .int v1, .int v2] (wM am cA cd nb ro lo co ks nu si we ki hw sl ch em bx sx cn nx ns pt) (fun r w2 => r = 0 ∧ w2 = (wM am cA 3 nb ro lo co ks nu si we ki hw sl ch em bx sx cn nx ns pt)) 0 0 := by
  refine z_ofi (cc := cX5_dimensional) (maxL := 3) (ret := (some .int)) (by decide) rfl (Nat.le_of_ble_eq_true rfl) ?_
  intro p e s m below meth c A F hr hlk hnm
  refine z_aload_n F dX5_dimensional_0 rfl ?_
  refine z_aload_n F dX5_dimensional_1 rfl ?_
  refine z_iload_n F dX5_dimensional_2 rfl ?_
  refine z_callVi0 F (c_M_isBox (by omega) v1) 0 rfl rfl (zcwV F.2.2.2.2.1 kcX5_isBox kmX5_135 kiX5_isBox ksX5_isBox knX5 hdX5_isBox rfl rfl ⟨(Nat.le_of_ble_eq_true rfl), (Nat.le_of_ble_eq_true rfl)⟩) dX5_dimensional_3 rfl rfl (Nat.le_of_ble_eq_true rfl) ⟨(Nat.le_of_ble_eq_true rfl), (Nat.le_of_ble_eq_true rfl)⟩ ?_
  rintro r w2 ⟨rfl, rfl⟩
  refine z_if_ne (tgt := 13) F dX5_dimensional_6 (by decide) (fun c6 => ?_) (fun c6 => ?_)
  · refine z_iload_n F dX5_dimensional_13 rfl ?_
    refine z_if_ge (tgt := 21) F dX5_dimensional_14 (by decide) (fun c14 => ?_) (fun c14 => ?_)
    · refine z_iload_n F dX5_dimensional_21 rfl ?_
      refine z_if_ne (tgt := 29) F dX5_dimensional_22 (by decide) (fun c22 => ?_) (fun c22 => ?_)
      · exact absurd h2 c22
      · refine z_iconst (v := 3) F dX5_dimensional_25 (by decide) ?_
        refine z_goto (tgt := 30) F dX5_dimensional_26 (by decide) ?_
        refine z_put (ci := 5) (C := RX5) (T := TX5) (N := 20) (ty := .int) F 0 0 dX5_dimensional_30 inX5 tyX5 tyX5_ok nmX5 kfX5_53 rfl rfl rfl (by decide) rfl (by decide +kernel) rfl rfl (Nat.le_of_ble_eq_true rfl) ?_
        refine z_aload_n F dX5_dimensional_33 rfl ?_
        refine z_get (ci := 5) (C := RX5) (T := TX5) (N := 20) F 0 0 dX5_dimensional_34 inX5 kfX5_53 rfl rfl rfl (by decide) rfl ?_
        refine z_if_le (tgt := 44) F dX5_dimensional_37 (by decide) (fun c37 => ?_) (fun c37 => ?_)
        · exact absurd c37 (by decide)
        · refine z_iconst (v := 0) F dX5_dimensional_40 (by decide) ?_
          refine z_goto (tgt := 69) F dX5_dimensional_41 (by decide) ?_
          exact z_iret F hr rfl hlk dX5_dimensional_69 ⟨rfl, rfl⟩ (Nat.le_of_ble_eq_true rfl) (Nat.le_of_ble_eq_true rfl)
    · exact absurd (by rw [h2]; decide) c14
  · exact absurd h (of_decide_eq_false (zB_0.mp c6))

set_option maxHeartbeats 4000000 in
set_option maxRecDepth 100000 in
theorem c_M_dim {l : Launch} {D : va_G} {tys : List (ClassId × FieldType)} {am : Nat → Nat} {cA : ClassId} {cd nb : Nat} {ro lo co ks : Nat → Nat} {nu : Nat} {si we ki hw : Nat → Nat} {sl : Nat} {ch : Option Nat} {em : Bool} {bx : Nat → Option Nat} {sx : Nat → Nat} {cn : Nat} {nx : Nat → Option Nat} {ns pt : Nat → Nat} (ok : zok ro lo co ks nb sl si we ki (fun _ => 0) (fun _ => 0) nu) (hh : ∀ x, hw x < 2 ^ 31) (b v : Nat) (hb : b < nb) (hd : 0 < v) (hv : v < 2 ^ 31) : zMi l yX5_dimensional (zws yX5_dimensional cX5_dimensional 3 (some .int)) { frames := 2, cells := 0, slots := 0, locals := 43 } D zcl ((cA, .int) :: tys) zG [.ref (am 0), .int (nI b), .int (nI v)] (wM am cA cd nb ro lo co ks nu si we ki hw sl ch em bx sx cn nx ns pt) (fun r w2 => r = nI (ro b / v + if 0 < ro b % v then 1 else 0) ∧ w2 = (wM am cA 0 nb ro lo co ks nu si we ki hw sl ch em bx sx cn nx ns pt)) 0 0 := by
  refine z_ofi (cc := cX5_dimensional) (maxL := 3) (ret := (some .int)) (by decide) rfl (Nat.le_of_ble_eq_true rfl) ?_
  intro p e s m below meth c A F hr hlk hnm
  obtain ⟨o1, o2, o3, o4, o5, o6, o7, o8, o9, o10, o11, o12⟩ := id ok
  have hrb := o4 b
  have hrm := Nat.mod_le (ro b) v
  refine z_aload_n F dX5_dimensional_0 rfl ?_
  refine z_aload_n F dX5_dimensional_1 rfl ?_
  refine z_iload_n F dX5_dimensional_2 rfl ?_
  refine z_callVi0 F (c_M_isBox (by omega) (nI b)) 0 rfl rfl (zcwV F.2.2.2.2.1 kcX5_isBox kmX5_135 kiX5_isBox ksX5_isBox knX5 hdX5_isBox rfl rfl ⟨(Nat.le_of_ble_eq_true rfl), (Nat.le_of_ble_eq_true rfl)⟩) dX5_dimensional_3 rfl rfl (Nat.le_of_ble_eq_true rfl) ⟨(Nat.le_of_ble_eq_true rfl), (Nat.le_of_ble_eq_true rfl)⟩ ?_
  rintro r w2 ⟨rfl, rfl⟩
  refine z_if_ne (tgt := 13) F dX5_dimensional_6 (by decide) (fun c6 => ?_) (fun c6 => ?_)
  · refine z_iload_n F dX5_dimensional_13 rfl ?_
    refine z_if_ge (tgt := 21) F dX5_dimensional_14 (by decide) (fun c14 => ?_) (fun c14 => ?_)
    · refine z_iload_n F dX5_dimensional_21 rfl ?_
      refine z_if_ne (tgt := 29) F dX5_dimensional_22 (by decide) (fun c22 => ?_) (fun c22 => ?_)
      · refine z_iconst (v := 0) F dX5_dimensional_29 (by decide) ?_
        refine z_put (ci := 5) (C := RX5) (T := TX5) (N := 20) (ty := .int) F 0 0 dX5_dimensional_30 inX5 tyX5 tyX5_ok nmX5 kfX5_53 rfl rfl rfl (by decide) rfl (by decide +kernel) rfl rfl (Nat.le_of_ble_eq_true rfl) ?_
        refine z_aload_n F dX5_dimensional_33 rfl ?_
        refine z_get (ci := 5) (C := RX5) (T := TX5) (N := 20) F 0 0 dX5_dimensional_34 inX5 kfX5_53 rfl rfl rfl (by decide) rfl ?_
        refine z_if_le (tgt := 44) F dX5_dimensional_37 (by decide) (fun c37 => ?_) (fun c37 => ?_)
        · refine z_aload_n F dX5_dimensional_44 rfl ?_
          refine z_get (ci := 5) (C := RX5) (T := TX5) (N := 20) F 0 2 dX5_dimensional_45 inX5 kfX5_7 rfl rfl rfl (by decide) rfl ?_
          refine z_iload_n F dX5_dimensional_48 rfl ?_
          refine z_ialdN F 1 0 dX5_dimensional_49 rfl rfl rfl (by omega) (by decide) ?_
          refine z_iload_n F dX5_dimensional_50 rfl ?_
          refine z_idiv F dX5_dimensional_51 (nI_ne0 hd hv) ?_
          refine z_topi (y := nI (ro b / v)) (pk_div (by omega) hd hv) ?_
          refine z_aload_n F dX5_dimensional_52 rfl ?_
          refine z_get (ci := 5) (C := RX5) (T := TX5) (N := 20) F 0 2 dX5_dimensional_53 inX5 kfX5_7 rfl rfl rfl (by decide) rfl ?_
          refine z_iload_n F dX5_dimensional_56 rfl ?_
          refine z_ialdN F 1 0 dX5_dimensional_57 rfl rfl rfl (by omega) (by decide) ?_
          refine z_iload_n F dX5_dimensional_58 rfl ?_
          refine z_irem F dX5_dimensional_59 (nI_ne0 hd hv) ?_
          refine z_topi (y := nI (ro b % v)) (pk_rem (by omega) hd hv) ?_
          refine z_if_le (tgt := 67) F dX5_dimensional_60 (by decide) (fun c60 => ?_) (fun c60 => ?_)
          · have n60 : ¬ 0 < ro b % v := fun q => absurd c60 (nI_nle q (by omega))
            refine z_iconst (v := 0) F dX5_dimensional_67 (by decide) ?_
            refine z_iadd F dX5_dimensional_68 ?_
            exact z_iret F hr rfl hlk dX5_dimensional_69 ⟨by rw [if_neg n60]; exact nI_add _ 0, rfl⟩ (Nat.le_of_ble_eq_true rfl) (Nat.le_of_ble_eq_true rfl)
          · have n60 : 0 < ro b % v := Nat.pos_of_ne_zero (fun q => c60 (by rw [q]; decide))
            refine z_iconst (v := 1) F dX5_dimensional_63 (by decide) ?_
            refine z_goto (tgt := 68) F dX5_dimensional_64 (by decide) ?_
            refine z_iadd F dX5_dimensional_68 ?_
            exact z_iret F hr rfl hlk dX5_dimensional_69 ⟨by rw [if_pos n60]; exact nI_add _ 1, rfl⟩ (Nat.le_of_ble_eq_true rfl) (Nat.le_of_ble_eq_true rfl)
        · exact absurd (by decide) c37
      · exact absurd c22 (nI_ne0 hd hv)
    · exact absurd (nI_pos' hv) c14
  · exact absurd ((zhas (by omega)).mpr ⟨b, hb, rfl⟩) (of_decide_eq_false (zB_0.mp c6))

set_option maxHeartbeats 4000000 in
set_option maxRecDepth 100000 in
theorem c_M_count_0 {l : Launch} {D : va_G} {tys : List (ClassId × FieldType)} {am : Nat → Nat} {cA : ClassId} {cd nb : Nat} {ro lo co ks : Nat → Nat} {nu : Nat} {si we ki hw : Nat → Nat} {sl : Nat} {ch : Option Nat} {em : Bool} {bx : Nat → Option Nat} {sx : Nat → Nat} {cn : Nat} {nx : Nat → Option Nat} {ns pt : Nat → Nat} : zMi l yX5_count (zws yX5_count cX5_count 5 (some .int)) { frames := 1, cells := 0, slots := 0, locals := 24 } D zcl ((cA, .int) :: tys) zG [.ref (am 0), .int (nI 0)] (wM am cA cd nb ro lo co ks nu si we ki hw sl ch em bx sx cn nx ns pt) (fun r w2 => r = nI nb ∧ w2 = (wM am cA 0 nb ro lo co ks nu si we ki hw sl ch em bx sx cn nx ns pt)) 0 0 := by
  refine z_ofi (cc := cX5_count) (maxL := 5) (ret := (some .int)) (by decide) rfl (Nat.le_of_ble_eq_true rfl) ?_
  intro p e s m below meth c A F hr hlk hnm
  refine z_aload_n F dX5_count_0 rfl ?_
  refine z_iconst (v := 0) F dX5_count_1 (by decide) ?_
  refine z_put (ci := 5) (C := RX5) (T := TX5) (N := 20) (ty := .int) F 0 0 dX5_count_2 inX5 tyX5 tyX5_ok nmX5 kfX5_53 rfl rfl rfl (by decide) rfl (by decide +kernel) rfl rfl (Nat.le_of_ble_eq_true rfl) ?_
  refine z_iload_n F dX5_count_5 rfl ?_
  refine z_if_ne (tgt := 14) F dX5_count_6 (by decide) (fun c6 => ?_) (fun c6 => ?_)
  · exact absurd rfl c6
  · refine z_aload_n F dX5_count_9 rfl ?_
    refine z_get (ci := 5) (C := RX5) (T := TX5) (N := 20) F 0 1 dX5_count_10 inX5 kfX5_56 rfl rfl rfl (by decide) rfl ?_
    exact z_iret F hr rfl hlk dX5_count_13 ⟨rfl, rfl⟩ (Nat.le_of_ble_eq_true rfl) (Nat.le_of_ble_eq_true rfl)

set_option maxHeartbeats 4000000 in
set_option maxRecDepth 100000 in
theorem c_M_count_1 {l : Launch} {D : va_G} {tys : List (ClassId × FieldType)} {am : Nat → Nat} {cA : ClassId} {cd nb : Nat} {ro lo co ks : Nat → Nat} {nu : Nat} {si we ki hw : Nat → Nat} {sl : Nat} {ch : Option Nat} {em : Bool} {bx : Nat → Option Nat} {sx : Nat → Nat} {cn : Nat} {nx : Nat → Option Nat} {ns pt : Nat → Nat} : zMi l yX5_count (zws yX5_count cX5_count 5 (some .int)) { frames := 1, cells := 0, slots := 0, locals := 24 } D zcl ((cA, .int) :: tys) zG [.ref (am 0), .int (nI 1)] (wM am cA cd nb ro lo co ks nu si we ki hw sl ch em bx sx cn nx ns pt) (fun r w2 => r = nI nu ∧ w2 = (wM am cA 0 nb ro lo co ks nu si we ki hw sl ch em bx sx cn nx ns pt)) 0 0 := by
  refine z_ofi (cc := cX5_count) (maxL := 5) (ret := (some .int)) (by decide) rfl (Nat.le_of_ble_eq_true rfl) ?_
  intro p e s m below meth c A F hr hlk hnm
  refine z_aload_n F dX5_count_0 rfl ?_
  refine z_iconst (v := 0) F dX5_count_1 (by decide) ?_
  refine z_put (ci := 5) (C := RX5) (T := TX5) (N := 20) (ty := .int) F 0 0 dX5_count_2 inX5 tyX5 tyX5_ok nmX5 kfX5_53 rfl rfl rfl (by decide) rfl (by decide +kernel) rfl rfl (Nat.le_of_ble_eq_true rfl) ?_
  refine z_iload_n F dX5_count_5 rfl ?_
  refine z_if_ne (tgt := 14) F dX5_count_6 (by decide) (fun c6 => ?_) (fun c6 => ?_)
  · refine z_iload_n F dX5_count_14 rfl ?_
    refine z_iconst (v := 1) F dX5_count_15 (by decide) ?_
    refine z_icmp_ne (tgt := 24) F dX5_count_16 (by decide) (fun c16 => ?_) (fun c16 => ?_)
    · exact absurd rfl c16
    · refine z_aload_n F dX5_count_19 rfl ?_
      refine z_get (ci := 5) (C := RX5) (T := TX5) (N := 20) F 0 6 dX5_count_20 inX5 kfX5_63 rfl rfl rfl (by decide) rfl ?_
      exact z_iret F hr rfl hlk dX5_count_23 ⟨rfl, rfl⟩ (Nat.le_of_ble_eq_true rfl) (Nat.le_of_ble_eq_true rfl)
  · exact absurd c6 (by decide)

set_option maxHeartbeats 4000000 in
set_option maxRecDepth 100000 in
theorem c_M_count_4n {l : Launch} {D : va_G} {tys : List (ClassId × FieldType)} {am : Nat → Nat} {cA : ClassId} {cd nb : Nat} {ro lo co ks : Nat → Nat} {nu : Nat} {si we ki hw : Nat → Nat} {sl : Nat} {ch : Option Nat} {em : Bool} {bx : Nat → Option Nat} {sx : Nat → Nat} {cn : Nat} {nx : Nat → Option Nat} {ns pt : Nat → Nat} : zMi l yX5_count (zws yX5_count cX5_count 5 (some .int)) { frames := 1, cells := 0, slots := 0, locals := 24 } D zcl ((cA, .int) :: tys) zG [.ref (am 0), .int (nI 4)] (wM am cA cd nb ro lo co ks nu si we ki hw sl none em bx sx cn nx ns pt) (fun r w2 => r = -1 ∧ w2 = (wM am cA 0 nb ro lo co ks nu si we ki hw sl none em bx sx cn nx ns pt)) 0 0 := by
  refine z_ofi (cc := cX5_count) (maxL := 5) (ret := (some .int)) (by decide) rfl (Nat.le_of_ble_eq_true rfl) ?_
  intro p e s m below meth c A F hr hlk hnm
  refine z_aload_n F dX5_count_0 rfl ?_
  refine z_iconst (v := 0) F dX5_count_1 (by decide) ?_
  refine z_put (ci := 5) (C := RX5) (T := TX5) (N := 20) (ty := .int) F 0 0 dX5_count_2 inX5 tyX5 tyX5_ok nmX5 kfX5_53 rfl rfl rfl (by decide) rfl (by decide +kernel) rfl rfl (Nat.le_of_ble_eq_true rfl) ?_
  refine z_iload_n F dX5_count_5 rfl ?_
  refine z_if_ne (tgt := 14) F dX5_count_6 (by decide) (fun c6 => ?_) (fun c6 => ?_)
  · refine z_iload_n F dX5_count_14 rfl ?_
    refine z_iconst (v := 1) F dX5_count_15 (by decide) ?_
    refine z_icmp_ne (tgt := 24) F dX5_count_16 (by decide) (fun c16 => ?_) (fun c16 => ?_)
    · refine z_iload_n F dX5_count_24 rfl ?_
      refine z_iconst (v := 4) F dX5_count_25 (by decide) ?_
      refine z_icmp_ne (tgt := 54) F dX5_count_26 (by decide) (fun c26 => ?_) (fun c26 => ?_)
      · exact absurd rfl c26
      · refine z_aload_n F dX5_count_29 rfl ?_
        refine z_get (ci := 5) (C := RX5) (T := TX5) (N := 20) F 0 12 dX5_count_30 inX5 kfX5_34 rfl rfl rfl (by decide) rfl ?_
        refine z_iconst (v := (-1)) F dX5_count_33 (by decide) ?_
        refine z_icmp_ne (tgt := 41) F dX5_count_34 (by decide) (fun c34 => ?_) (fun c34 => ?_)
        · exact absurd rfl c34
        · refine z_iconst (v := (-1)) F dX5_count_37 (by decide) ?_
          refine z_goto (tgt := 53) F dX5_count_38 (by decide) ?_
          exact z_iret F hr rfl hlk dX5_count_53 ⟨rfl, rfl⟩ (Nat.le_of_ble_eq_true rfl) (Nat.le_of_ble_eq_true rfl)
    · exact absurd c16 (by decide)
  · exact absurd c6 (by decide)

set_option maxHeartbeats 4000000 in
set_option maxRecDepth 100000 in
theorem c_M_count_4 {l : Launch} {D : va_G} {tys : List (ClassId × FieldType)} {am : Nat → Nat} {cA : ClassId} {cd nb : Nat} {ro lo co ks : Nat → Nat} {nu : Nat} {si we ki hw : Nat → Nat} {sl : Nat} {ch : Option Nat} {em : Bool} {bx : Nat → Option Nat} {sx : Nat → Nat} {cn : Nat} {nx : Nat → Option Nat} {ns pt : Nat → Nat} (q : Nat) (hq : q ≤ 8) (hf : ∀ k, k < q → ∃ b, bx k = some b ∧ b < 6) : zMi l yX5_count (zws yX5_count cX5_count 5 (some .int)) { frames := 1, cells := 0, slots := 0, locals := 24 } D zcl ((cA, .int) :: tys) zG [.ref (am 0), .int (nI 4)] (wM am cA cd nb ro lo co ks nu si we ki hw sl (some q) em bx sx cn nx ns pt) (fun r w2 => r = nI (zct co bx q) ∧ w2 = (wM am cA 0 nb ro lo co ks nu si we ki hw sl (some q) em bx sx cn nx ns pt)) 0 0 := by
  refine z_ofi (cc := cX5_count) (maxL := 5) (ret := (some .int)) (by decide) rfl (Nat.le_of_ble_eq_true rfl) ?_
  intro p e s m below meth c A F hr hlk hnm
  refine z_aload_n F dX5_count_0 rfl ?_
  refine z_iconst (v := 0) F dX5_count_1 (by decide) ?_
  refine z_put (ci := 5) (C := RX5) (T := TX5) (N := 20) (ty := .int) F 0 0 dX5_count_2 inX5 tyX5 tyX5_ok nmX5 kfX5_53 rfl rfl rfl (by decide) rfl (by decide +kernel) rfl rfl (Nat.le_of_ble_eq_true rfl) ?_
  refine z_iload_n F dX5_count_5 rfl ?_
  refine z_if_ne (tgt := 14) F dX5_count_6 (by decide) (fun c6 => ?_) (fun c6 => ?_)
  · refine z_iload_n F dX5_count_14 rfl ?_
    refine z_iconst (v := 1) F dX5_count_15 (by decide) ?_
    refine z_icmp_ne (tgt := 24) F dX5_count_16 (by decide) (fun c16 => ?_) (fun c16 => ?_)
    · refine z_iload_n F dX5_count_24 rfl ?_
      refine z_iconst (v := 4) F dX5_count_25 (by decide) ?_
      refine z_icmp_ne (tgt := 54) F dX5_count_26 (by decide) (fun c26 => ?_) (fun c26 => ?_)
      · exact absurd rfl c26
      · refine z_aload_n F dX5_count_29 rfl ?_
        refine z_get (ci := 5) (C := RX5) (T := TX5) (N := 20) F 0 12 dX5_count_30 inX5 kfX5_34 rfl rfl rfl (by decide) rfl ?_
        refine z_iconst (v := (-1)) F dX5_count_33 (by decide) ?_
        refine z_icmp_ne (tgt := 41) F dX5_count_34 (by decide) (fun c34 => ?_) (fun c34 => ?_)
        · refine z_aload_n F dX5_count_41 rfl ?_
          refine z_aload_n F dX5_count_42 rfl ?_
          refine z_get (ci := 5) (C := RX5) (T := TX5) (N := 20) F 0 14 dX5_count_43 inX5 kfX5_38 rfl rfl rfl (by decide) rfl ?_
          refine z_aload_n F dX5_count_46 rfl ?_
          refine z_get (ci := 5) (C := RX5) (T := TX5) (N := 20) F 0 12 dX5_count_47 inX5 kfX5_34 rfl rfl rfl (by decide) rfl ?_
          refine z_callVi0 F (c_M_cost_b (ch := some q) q hq hf) 0 rfl rfl (zcwV F.2.2.2.2.1 kcX5_costOf kmX5_102 kiX5_costOf ksX5_costOf knX5 hdX5_costOf rfl rfl ⟨(Nat.le_of_ble_eq_true rfl), (Nat.le_of_ble_eq_true rfl)⟩) dX5_count_50 rfl rfl (Nat.le_of_ble_eq_true rfl) ⟨(Nat.le_of_ble_eq_true rfl), (Nat.le_of_ble_eq_true rfl)⟩ ?_
          rintro r w2 ⟨rfl, rfl⟩
          exact z_iret F hr rfl hlk dX5_count_53 ⟨rfl, rfl⟩ (Nat.le_of_ble_eq_true rfl) (Nat.le_of_ble_eq_true rfl)
        · exact absurd c34 (zo_ne (by omega))
    · exact absurd c16 (by decide)
  · exact absurd c6 (by decide)

set_option maxHeartbeats 4000000 in
set_option maxRecDepth 100000 in
theorem c_M_count {l : Launch} {D : va_G} {tys : List (ClassId × FieldType)} {am : Nat → Nat} {cA : ClassId} {cd nb : Nat} {ro lo co ks : Nat → Nat} {nu : Nat} {si we ki hw : Nat → Nat} {sl : Nat} {ch : Option Nat} {em : Bool} {bx : Nat → Option Nat} {sx : Nat → Nat} {cn : Nat} {nx : Nat → Option Nat} {ns pt : Nat → Nat} (hn : nu ≤ 8) (hh : ∀ x, hw x < 2 ^ 31) (v1 : Int32) (h0 : ¬ v1 = 0) (h1 : ¬ v1 = 1) (h4 : ¬ v1 = 4) : zMi l yX5_count (zws yX5_count cX5_count 5 (some .int)) { frames := 1, cells := 0, slots := 0, locals := 24 } D zcl ((cA, .int) :: tys) zG [.ref (am 0), .int v1] (wM am cA cd nb ro lo co ks nu si we ki hw sl ch em bx sx cn nx ns pt) (fun r w2 => r = (if v1 = 2 ∨ v1 = 3 then nI (zadd (fun x => zcin (fun y => decide (nI (hw (8 * x + y)) = v1 - 1)) 0 x) nu) else -1) ∧ w2 = (wM am cA 0 nb ro lo co ks nu si we ki hw sl ch em bx sx cn nx ns pt)) 0 0 := by
  refine z_ofi (cc := cX5_count) (maxL := 5) (ret := (some .int)) (by decide) rfl (Nat.le_of_ble_eq_true rfl) ?_
  intro p e s m below meth c A F hr hlk hnm
  have loop : ∀ (n x z : Nat), x ≤ nu → nu + 1 ≤ x + n → zW p l e (headSpec (zws yX5_count cX5_count 5 (some .int)) { frames := 1, cells := 0, slots := 0, locals := 24 }).room s m [.ref (am 0), .int v1].toArray below meth c 5 D zcl A 0 0 (MQ below (va_Qi (fun r w2 => r = (if v1 = 2 ∨ v1 = 3 then nI (zadd (fun x => zcin (fun y => decide (nI (hw (8 * x + y)) = v1 - 1)) 0 x) nu) else -1) ∧ w2 = (wM am cA 0 nb ro lo co ks nu si we ki hw sl ch em bx sx cn nx ns pt)) (zEnd D zcl A) A) [.ref (am 0), .int v1].toArray s 0 0 A) (wM am cA 0 nb ro lo co ks nu si we ki hw sl ch em bx sx cn nx ns pt) [(0, .ref (am 0)), (1, .int v1), (2, .int (nI (zadd (fun x => zcin (fun y => decide (nI (hw (8 * x + y)) = v1 - 1)) 0 x) x))), (3, .int (nI x)), (4, .int (nI z))] 58 [] := by
    intro n
    induction n with
    | zero => intro x z h1 h2; omega
    | succ n ih =>
      intro x z hx1 hx2
      refine z_iload_n F dX5_count_58 rfl ?_
      refine z_aload_n F dX5_count_59 rfl ?_
      refine z_get (ci := 5) (C := RX5) (T := TX5) (N := 20) F 0 6 dX5_count_60 inX5 kfX5_63 rfl rfl rfl (by decide) rfl ?_
      refine z_icmp_ge (tgt := 113) F dX5_count_63 (by decide) (fun c63 => ?_) (fun c63 => ?_)
      · have ex := zge_end hx1 (by omega) c63
        refine z_iload_n F dX5_count_113 rfl ?_
        refine z_iconst (v := 2) F dX5_count_114 (by decide) ?_
        refine z_icmp_eq (tgt := 123) F dX5_count_115 (by decide) (fun c115 => ?_) (fun c115 => ?_)
        · refine z_iload_n F dX5_count_123 rfl ?_
          refine z_goto (tgt := 128) F dX5_count_124 (by decide) ?_
          exact z_iret F hr rfl hlk dX5_count_128 ⟨by rw [if_pos (Or.inl c115), ex], rfl⟩ (Nat.le_of_ble_eq_true rfl) (Nat.le_of_ble_eq_true rfl)
        · refine z_iload_n F dX5_count_118 rfl ?_
          refine z_iconst (v := 3) F dX5_count_119 (by decide) ?_
          refine z_icmp_ne (tgt := 127) F dX5_count_120 (by decide) (fun c120 => ?_) (fun c120 => ?_)
          · refine z_iconst (v := (-1)) F dX5_count_127 (by decide) ?_
            exact z_iret F hr rfl hlk dX5_count_128 ⟨by rw [if_neg (fun q => q.elim c115 c120)], rfl⟩ (Nat.le_of_ble_eq_true rfl) (Nat.le_of_ble_eq_true rfl)
          · refine z_iload_n F dX5_count_123 rfl ?_
            refine z_goto (tgt := 128) F dX5_count_124 (by decide) ?_
            exact z_iret F hr rfl hlk dX5_count_128 ⟨by rw [if_pos (Or.inr c120), ex], rfl⟩ (Nat.le_of_ble_eq_true rfl) (Nat.le_of_ble_eq_true rfl)
      · have hlx := zge_on (by omega) hx1 c63
        refine z_iconst (v := 0) F dX5_count_66 (by decide) ?_
        refine z_istore F dX5_count_67 (by decide) ?_
        have inner : ∀ (n2 y : Nat), y ≤ x → x + 1 ≤ y + n2 → zW p l e (headSpec (zws yX5_count cX5_count 5 (some .int)) { frames := 1, cells := 0, slots := 0, locals := 24 }).room s m [.ref (am 0), .int v1].toArray below meth c 5 D zcl A 0 0 (MQ below (va_Qi (fun r w2 => r = (if v1 = 2 ∨ v1 = 3 then nI (zadd (fun x => zcin (fun y => decide (nI (hw (8 * x + y)) = v1 - 1)) 0 x) nu) else -1) ∧ w2 = (wM am cA 0 nb ro lo co ks nu si we ki hw sl ch em bx sx cn nx ns pt)) (zEnd D zcl A) A) [.ref (am 0), .int v1].toArray s 0 0 A) (wM am cA 0 nb ro lo co ks nu si we ki hw sl ch em bx sx cn nx ns pt) [(0, .ref (am 0)), (1, .int v1), (2, .int (nI ((zadd (fun x => zcin (fun y => decide (nI (hw (8 * x + y)) = v1 - 1)) 0 x) x) + zcin (fun y => decide (nI (hw (8 * x + y)) = v1 - 1)) 0 y))), (3, .int (nI x)), (4, .int (nI y))] 69 [] := by
          intro n2
          induction n2 with
          | zero => intro y h1 h2; omega
          | succ n2 ih2 =>
            intro y hy1 hy2
            refine z_iload F dX5_count_69 rfl ?_
            refine z_iload_n F dX5_count_71 rfl ?_
            refine z_icmp_ge (tgt := 107) F dX5_count_72 (by decide) (fun c72 => ?_) (fun c72 => ?_)
            · have ey := zge_end hy1 (by omega) c72
              rw [ey]
              refine z_iinc (v := nI (x + 1)) F dX5_count_107 rfl (nI_1 x) (by decide) ?_
              refine z_goto (tgt := 58) F dX5_count_110 (by decide) ?_
              exact z_lv rfl (ih (x + 1) x (by omega) (by omega))
            · have hly := zge_on (by omega) hy1 c72
              refine z_iload_n F dX5_count_75 rfl ?_
              refine z_aload_n F dX5_count_76 rfl ?_
              refine z_get (ci := 5) (C := RX5) (T := TX5) (N := 20) F 0 10 dX5_count_77 inX5 kfX5_31 rfl rfl rfl (by decide) rfl ?_
              refine z_bipush (v := 8) F dX5_count_80 (by decide) ?_
              refine z_iload_n F dX5_count_82 rfl ?_
              refine z_imul F dX5_count_83 ?_
              refine z_topi (y := nI (8 * x)) (pk_mul 8 x) ?_
              refine z_iload F dX5_count_84 rfl ?_
              refine z_iadd F dX5_count_86 ?_
              refine z_topi (y := nI (8 * x + y)) (nI_add _ _) ?_
              refine z_ialdN F 8 0 dX5_count_87 rfl rfl rfl (by omega) (by decide) ?_
              refine z_iload_n F dX5_count_88 rfl ?_
              refine z_iconst (v := 1) F dX5_count_89 (by decide) ?_
              refine z_isub F dX5_count_90 ?_
              refine z_icmp_ne (tgt := 98) F dX5_count_91 (by decide) (fun c91 => ?_) (fun c91 => ?_)
              · refine z_iconst (v := 0) F dX5_count_98 (by decide) ?_
                refine z_iadd F dX5_count_99 ?_
                refine z_topi (y := nI ((zadd (fun x => zcin (fun y => decide (nI (hw (8 * x + y)) = v1 - 1)) 0 x) x) + zcin (fun y => decide (nI (hw (8 * x + y)) = v1 - 1)) 0 (y + 1))) (by rw [zcin_f (P := (fun y => decide (nI (hw (8 * x + y)) = v1 - 1))) (decide_eq_false c91)]; exact nI_add _ 0) ?_
                refine z_istore_n F dX5_count_100 (by decide) ?_
                refine z_iinc (v := nI (y + 1)) F dX5_count_101 rfl (nI_1 y) (by decide) ?_
                refine z_goto (tgt := 69) F dX5_count_104 (by decide) ?_
                exact z_lv rfl (ih2 (y + 1) (by omega) (by omega))
              · refine z_iconst (v := 1) F dX5_count_94 (by decide) ?_
                refine z_goto (tgt := 99) F dX5_count_95 (by decide) ?_
                refine z_iadd F dX5_count_99 ?_
                refine z_topi (y := nI ((zadd (fun x => zcin (fun y => decide (nI (hw (8 * x + y)) = v1 - 1)) 0 x) x) + zcin (fun y => decide (nI (hw (8 * x + y)) = v1 - 1)) 0 (y + 1))) (by rw [zcin_t (P := (fun y => decide (nI (hw (8 * x + y)) = v1 - 1))) (Nat.zero_le _) (decide_eq_true c91)]; exact nI_add _ 1) ?_
                refine z_istore_n F dX5_count_100 (by decide) ?_
                refine z_iinc (v := nI (y + 1)) F dX5_count_101 rfl (nI_1 y) (by decide) ?_
                refine z_goto (tgt := 69) F dX5_count_104 (by decide) ?_
                exact z_lv rfl (ih2 (y + 1) (by omega) (by omega))
        exact z_lv rfl (inner (x + 1) 0 (by omega) (by omega))
  have first : ∀ (x : Nat), x ≤ nu → zW p l e (headSpec (zws yX5_count cX5_count 5 (some .int)) { frames := 1, cells := 0, slots := 0, locals := 24 }).room s m [.ref (am 0), .int v1].toArray below meth c 5 D zcl A 0 0 (MQ below (va_Qi (fun r w2 => r = (if v1 = 2 ∨ v1 = 3 then nI (zadd (fun x => zcin (fun y => decide (nI (hw (8 * x + y)) = v1 - 1)) 0 x) nu) else -1) ∧ w2 = (wM am cA 0 nb ro lo co ks nu si we ki hw sl ch em bx sx cn nx ns pt)) (zEnd D zcl A) A) [.ref (am 0), .int v1].toArray s 0 0 A) (wM am cA 0 nb ro lo co ks nu si we ki hw sl ch em bx sx cn nx ns pt) [(0, .ref (am 0)), (1, .int v1), (2, .int (nI (zadd (fun x => zcin (fun y => decide (nI (hw (8 * x + y)) = v1 - 1)) 0 x) x))), (3, .int (nI x))] 58 [] := by
    intro x hx1
    refine z_iload_n F dX5_count_58 rfl ?_
    refine z_aload_n F dX5_count_59 rfl ?_
    refine z_get (ci := 5) (C := RX5) (T := TX5) (N := 20) F 0 6 dX5_count_60 inX5 kfX5_63 rfl rfl rfl (by decide) rfl ?_
    refine z_icmp_ge (tgt := 113) F dX5_count_63 (by decide) (fun c63 => ?_) (fun c63 => ?_)
    · have ex := zge_end hx1 (by omega) c63
      refine z_iload_n F dX5_count_113 rfl ?_
      refine z_iconst (v := 2) F dX5_count_114 (by decide) ?_
      refine z_icmp_eq (tgt := 123) F dX5_count_115 (by decide) (fun c115 => ?_) (fun c115 => ?_)
      · refine z_iload_n F dX5_count_123 rfl ?_
        refine z_goto (tgt := 128) F dX5_count_124 (by decide) ?_
        exact z_iret F hr rfl hlk dX5_count_128 ⟨by rw [if_pos (Or.inl c115), ex], rfl⟩ (Nat.le_of_ble_eq_true rfl) (Nat.le_of_ble_eq_true rfl)
      · refine z_iload_n F dX5_count_118 rfl ?_
        refine z_iconst (v := 3) F dX5_count_119 (by decide) ?_
        refine z_icmp_ne (tgt := 127) F dX5_count_120 (by decide) (fun c120 => ?_) (fun c120 => ?_)
        · refine z_iconst (v := (-1)) F dX5_count_127 (by decide) ?_
          exact z_iret F hr rfl hlk dX5_count_128 ⟨by rw [if_neg (fun q => q.elim c115 c120)], rfl⟩ (Nat.le_of_ble_eq_true rfl) (Nat.le_of_ble_eq_true rfl)
        · refine z_iload_n F dX5_count_123 rfl ?_
          refine z_goto (tgt := 128) F dX5_count_124 (by decide) ?_
          exact z_iret F hr rfl hlk dX5_count_128 ⟨by rw [if_pos (Or.inr c120), ex], rfl⟩ (Nat.le_of_ble_eq_true rfl) (Nat.le_of_ble_eq_true rfl)
    · have hlx := zge_on (by omega) hx1 c63
      refine z_iconst (v := 0) F dX5_count_66 (by decide) ?_
      refine z_istore F dX5_count_67 (by decide) ?_
      have inner : ∀ (n2 y : Nat), y ≤ x → x + 1 ≤ y + n2 → zW p l e (headSpec (zws yX5_count cX5_count 5 (some .int)) { frames := 1, cells := 0, slots := 0, locals := 24 }).room s m [.ref (am 0), .int v1].toArray below meth c 5 D zcl A 0 0 (MQ below (va_Qi (fun r w2 => r = (if v1 = 2 ∨ v1 = 3 then nI (zadd (fun x => zcin (fun y => decide (nI (hw (8 * x + y)) = v1 - 1)) 0 x) nu) else -1) ∧ w2 = (wM am cA 0 nb ro lo co ks nu si we ki hw sl ch em bx sx cn nx ns pt)) (zEnd D zcl A) A) [.ref (am 0), .int v1].toArray s 0 0 A) (wM am cA 0 nb ro lo co ks nu si we ki hw sl ch em bx sx cn nx ns pt) [(0, .ref (am 0)), (1, .int v1), (2, .int (nI ((zadd (fun x => zcin (fun y => decide (nI (hw (8 * x + y)) = v1 - 1)) 0 x) x) + zcin (fun y => decide (nI (hw (8 * x + y)) = v1 - 1)) 0 y))), (3, .int (nI x)), (4, .int (nI y))] 69 [] := by
        intro n2
        induction n2 with
        | zero => intro y h1 h2; omega
        | succ n2 ih2 =>
          intro y hy1 hy2
          refine z_iload F dX5_count_69 rfl ?_
          refine z_iload_n F dX5_count_71 rfl ?_
          refine z_icmp_ge (tgt := 107) F dX5_count_72 (by decide) (fun c72 => ?_) (fun c72 => ?_)
          · have ey := zge_end hy1 (by omega) c72
            rw [ey]
            refine z_iinc (v := nI (x + 1)) F dX5_count_107 rfl (nI_1 x) (by decide) ?_
            refine z_goto (tgt := 58) F dX5_count_110 (by decide) ?_
            exact z_lv rfl (loop (nu + 1) (x + 1) x (by omega) (by omega))
          · have hly := zge_on (by omega) hy1 c72
            refine z_iload_n F dX5_count_75 rfl ?_
            refine z_aload_n F dX5_count_76 rfl ?_
            refine z_get (ci := 5) (C := RX5) (T := TX5) (N := 20) F 0 10 dX5_count_77 inX5 kfX5_31 rfl rfl rfl (by decide) rfl ?_
            refine z_bipush (v := 8) F dX5_count_80 (by decide) ?_
            refine z_iload_n F dX5_count_82 rfl ?_
            refine z_imul F dX5_count_83 ?_
            refine z_topi (y := nI (8 * x)) (pk_mul 8 x) ?_
            refine z_iload F dX5_count_84 rfl ?_
            refine z_iadd F dX5_count_86 ?_
            refine z_topi (y := nI (8 * x + y)) (nI_add _ _) ?_
            refine z_ialdN F 8 0 dX5_count_87 rfl rfl rfl (by omega) (by decide) ?_
            refine z_iload_n F dX5_count_88 rfl ?_
            refine z_iconst (v := 1) F dX5_count_89 (by decide) ?_
            refine z_isub F dX5_count_90 ?_
            refine z_icmp_ne (tgt := 98) F dX5_count_91 (by decide) (fun c91 => ?_) (fun c91 => ?_)
            · refine z_iconst (v := 0) F dX5_count_98 (by decide) ?_
              refine z_iadd F dX5_count_99 ?_
              refine z_topi (y := nI ((zadd (fun x => zcin (fun y => decide (nI (hw (8 * x + y)) = v1 - 1)) 0 x) x) + zcin (fun y => decide (nI (hw (8 * x + y)) = v1 - 1)) 0 (y + 1))) (by rw [zcin_f (P := (fun y => decide (nI (hw (8 * x + y)) = v1 - 1))) (decide_eq_false c91)]; exact nI_add _ 0) ?_
              refine z_istore_n F dX5_count_100 (by decide) ?_
              refine z_iinc (v := nI (y + 1)) F dX5_count_101 rfl (nI_1 y) (by decide) ?_
              refine z_goto (tgt := 69) F dX5_count_104 (by decide) ?_
              exact z_lv rfl (ih2 (y + 1) (by omega) (by omega))
            · refine z_iconst (v := 1) F dX5_count_94 (by decide) ?_
              refine z_goto (tgt := 99) F dX5_count_95 (by decide) ?_
              refine z_iadd F dX5_count_99 ?_
              refine z_topi (y := nI ((zadd (fun x => zcin (fun y => decide (nI (hw (8 * x + y)) = v1 - 1)) 0 x) x) + zcin (fun y => decide (nI (hw (8 * x + y)) = v1 - 1)) 0 (y + 1))) (by rw [zcin_t (P := (fun y => decide (nI (hw (8 * x + y)) = v1 - 1))) (Nat.zero_le _) (decide_eq_true c91)]; exact nI_add _ 1) ?_
              refine z_istore_n F dX5_count_100 (by decide) ?_
              refine z_iinc (v := nI (y + 1)) F dX5_count_101 rfl (nI_1 y) (by decide) ?_
              refine z_goto (tgt := 69) F dX5_count_104 (by decide) ?_
              exact z_lv rfl (ih2 (y + 1) (by omega) (by omega))
      exact z_lv rfl (inner (x + 1) 0 (by omega) (by omega))
  refine z_aload_n F dX5_count_0 rfl ?_
  refine z_iconst (v := 0) F dX5_count_1 (by decide) ?_
  refine z_put (ci := 5) (C := RX5) (T := TX5) (N := 20) (ty := .int) F 0 0 dX5_count_2 inX5 tyX5 tyX5_ok nmX5 kfX5_53 rfl rfl rfl (by decide) rfl (by decide +kernel) rfl rfl (Nat.le_of_ble_eq_true rfl) ?_
  refine z_iload_n F dX5_count_5 rfl ?_
  refine z_if_ne (tgt := 14) F dX5_count_6 (by decide) (fun c6 => ?_) (fun c6 => ?_)
  · refine z_iload_n F dX5_count_14 rfl ?_
    refine z_iconst (v := 1) F dX5_count_15 (by decide) ?_
    refine z_icmp_ne (tgt := 24) F dX5_count_16 (by decide) (fun c16 => ?_) (fun c16 => ?_)
    · refine z_iload_n F dX5_count_24 rfl ?_
      refine z_iconst (v := 4) F dX5_count_25 (by decide) ?_
      refine z_icmp_ne (tgt := 54) F dX5_count_26 (by decide) (fun c26 => ?_) (fun c26 => ?_)
      · refine z_iconst (v := 0) F dX5_count_54 (by decide) ?_
        refine z_istore_n F dX5_count_55 (by decide) ?_
        refine z_iconst (v := 0) F dX5_count_56 (by decide) ?_
        refine z_istore_n F dX5_count_57 (by decide) ?_
        exact z_lv rfl (first 0 (by omega))
      · exact absurd c26 h4
    · exact absurd c16 h1
  · exact absurd c6 h0
