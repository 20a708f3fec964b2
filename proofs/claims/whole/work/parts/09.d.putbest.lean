/-- the choice and the search behind putBest -/
def zpb (ob : Nat → Option Nat) (oc : Nat → Nat) (t : zT) (y : Nat) (x : zX) : zX := bif (t.1 y).isSome then zexn ob oc t.2.2 x 6 else x
def wHx (hd d1 d2 : Nat) (cA : ClassId) (x : zX) (mk ex : Bool) : va_W := wH hd d1 d2 cA x.2.1 x.2.2.1 x.2.2.2.1 x.2.2.2.2 mk ex

set_option maxHeartbeats 4000000 in
set_option maxRecDepth 100000 in
/-- ExactSearch.putBest -/
theorem c_E_putBest {l : Launch} {D : va_G} {tys : List (ClassId × FieldType)} {he e1 e2 e3 e4 e5 hd d1 d2 : Nat} {cA : ClassId} {ob : Nat → Option Nat} {oc : Nat → Nat} {t : zT} {bn us : Nat → Nat} {nh ct : Nat} {mk ex : Bool} (ok : zEok ob oc t) (hn : nh + 6 ≤ 8) (y : Nat) (hy : y < 64) : zMi l yX2_putBest (zws yX2_putBest cX2_putBest 6 (some .boolean)) { frames := 3, cells := 0, slots := 0, locals := 74 } D zcl ((cA, .int) :: tys) zG [.ref he, .int (nI y), .ref hd] ((wH hd d1 d2 cA bn us nh ct mk ex) ++ (wT he e1 e2 e3 e4 e5 cA ob oc t)) (fun r w2 => r = zB ((zall ob oc y t).1 y).isSome ∧ w2 = wHx hd d1 d2 cA (zpb ob oc (zall ob oc y t) y ((y, bn, us, nh, ct) : zX)) mk ex ++ (wT he e1 e2 e3 e4 e5 cA ob oc (zall ob oc y t))) 0 0 := by
  refine z_ofi (cc := cX2_putBest) (maxL := 6) (ret := (some .boolean)) (by decide) rfl (Nat.le_of_ble_eq_true rfl) ?_
  intro p e s m below meth c A F hr hlk hnm
  have loop : ∀ (n x : Nat), 1 ≤ x → x ≤ y + 1 → y + 2 ≤ x + n → zW p l e (headSpec (zws yX2_putBest cX2_putBest 6 (some .boolean)) { frames := 3, cells := 0, slots := 0, locals := 74 }).room s m [.ref he, .int (nI y), .ref hd].toArray below meth c 6 D zcl A 0 0 (MQ below (va_Qi (fun r w2 => r = zB ((zall ob oc y t).1 y).isSome ∧ w2 = wHx hd d1 d2 cA (zpb ob oc (zall ob oc y t) y ((y, bn, us, nh, ct) : zX)) mk ex ++ (wT he e1 e2 e3 e4 e5 cA ob oc (zall ob oc y t))) (zEnd D zcl A) A) [.ref he, .int (nI y), .ref hd].toArray s 0 0 A) ((wH hd d1 d2 cA bn us nh ct mk ex) ++ (wT he e1 e2 e3 e4 e5 cA ob oc (zfr (zfnd ob oc) t 1 x))) [(0, .ref he), (1, .int (nI y)), (2, .ref hd), (3, .int (nI x))] 18 [] := by
    intro n
    induction n with
    | zero => intro x h1 h2 h3; omega
    | succ n ih =>
      intro x hx1 hx2 hx3
      refine z_iload_n F dX2_putBest_18 rfl ?_
      refine z_iload_n F dX2_putBest_19 rfl ?_
      refine z_icmp_gt (tgt := 34) F dX2_putBest_20 (by decide) (fun c20 => ?_) (fun c20 => ?_)
      · have e20 : x = y + 1 := by rw [nI_ltI (by omega) (by omega)] at c20; omega
        subst e20
        refine z_aload_n F dX2_putBest_34 rfl ?_
        refine z_get (ci := 2) (C := RX2) (T := TX2) (N := 5) F 3 2 dX2_putBest_35 inX2 kfX2_18 rfl rfl rfl (by decide) rfl ?_
        refine z_iload_n F dX2_putBest_38 rfl ?_
        refine z_iald F 6 0 dX2_putBest_39 rfl rfl rfl hy (by decide) ?_
        refine z_iconst (v := (-1)) F dX2_putBest_40 (by decide) ?_
        refine z_icmp_ne (tgt := 46) F dX2_putBest_41 (by decide) (fun c41 => ?_) (fun c41 => ?_)
        · refine z_iload_n F dX2_putBest_46 rfl ?_
          refine z_istore_n F dX2_putBest_47 (by decide) ?_
          refine z_iconst (v := 0) F dX2_putBest_48 (by decide) ?_
          refine z_istore F dX2_putBest_49 (by decide) ?_
          have hs : ((zall ob oc y t).1 y).isSome = true := zo_iss c41
          have oka : zEok ob oc (zall ob oc y t) := zall_ok ok (by omega)
          have loop2 : ∀ (n i : Nat), i ≤ 6 → 6 + 1 ≤ i + n → zW p l e (headSpec (zws yX2_putBest cX2_putBest 6 (some .boolean)) { frames := 3, cells := 0, slots := 0, locals := 74 }).room s m [.ref he, .int (nI y), .ref hd].toArray below meth c 6 D zcl A 0 0 (MQ below (va_Qi (fun r w2 => r = zB ((zall ob oc y t).1 y).isSome ∧ w2 = wHx hd d1 d2 cA (zpb ob oc (zall ob oc y t) y ((y, bn, us, nh, ct) : zX)) mk ex ++ (wT he e1 e2 e3 e4 e5 cA ob oc (zall ob oc y t))) (zEnd D zcl A) A) [.ref he, .int (nI y), .ref hd].toArray s 0 0 A) (wHx hd d1 d2 cA (zexn ob oc (zall ob oc y t).2.2 ((y, bn, us, nh, ct) : zX) i) mk ex ++ (wT he e1 e2 e3 e4 e5 cA ob oc (zall ob oc y t))) [(0, .ref he), (1, .int (nI y)), (2, .ref hd), (3, .int (nI (zexn ob oc (zall ob oc y t).2.2 ((y, bn, us, nh, ct) : zX) i).1)), (4, .int (nI i))] 51 [] := by
            intro n
            induction n with
            | zero => intro i h1 h2; omega
            | succ n ih =>
              intro i hi1 hi2
              obtain ⟨g1, g2, g3⟩ := zexn_ok (x := ((y, bn, us, nh, ct) : zX)) oka hy hs i
              have g3 : (zexn ob oc (zall ob oc y t).2.2 ((y, bn, us, nh, ct) : zX) i).2.2.2.1 ≤ nh + i := g3
              refine z_iload F dX2_putBest_51 rfl ?_
              refine z_bipush (v := 6) F dX2_putBest_53 (by decide) ?_
              refine z_icmp_ge (tgt := 103) F dX2_putBest_55 (by decide) (fun c55 => ?_) (fun c55 => ?_)
              · have ei : i = 6 := zge_end hi1 (by omega) c55
                refine z_iconst (v := 1) F dX2_putBest_103 (by decide) ?_
                exact z_iret F hr rfl hlk dX2_putBest_104 ⟨by rw [hs]; rfl, by unfold zpb; rw [hs, ← ei]; rfl⟩ (Nat.le_of_ble_eq_true rfl) (Nat.le_of_ble_eq_true rfl)
              · have hi6 : i < 6 := zge_on (by omega) hi1 c55
                refine z_iload_n F dX2_putBest_58 rfl ?_
                refine z_if_le (tgt := 103) F dX2_putBest_59 (by decide) (fun c59 => ?_) (fun c59 => ?_)
                · have n59 : ¬ 0 < (zexn ob oc (zall ob oc y t).2.2 ((y, bn, us, nh, ct) : zX) i).1 := fun q => nI_nle q (by omega) c59
                  refine z_iconst (v := 1) F dX2_putBest_103 (by decide) ?_
                  exact z_iret F hr rfl hlk dX2_putBest_104 ⟨by rw [hs]; rfl, by unfold zpb; rw [hs]; have e9 := zexn_up n59 (6 - i); rw [show i + (6 - i) = 6 by omega] at e9; rw [e9]; rfl⟩ (Nat.le_of_ble_eq_true rfl) (Nat.le_of_ble_eq_true rfl)
                · have n59 : 0 < (zexn ob oc (zall ob oc y t).2.2 ((y, bn, us, nh, ct) : zX) i).1 := by
                    rcases Nat.eq_zero_or_pos (zexn ob oc (zall ob oc y t).2.2 ((y, bn, us, nh, ct) : zX) i).1 with q | q
                    · exact absurd (by rw [q]; decide) c59
                    · exact q
                  obtain ⟨L, hL⟩ := Option.isSome_iff_exists.mp g2
                  obtain ⟨-, -, k3⟩ := oka.2.2 _ g1 L hL
                  obtain ⟨k4, k5, k6, k7⟩ := k3 n59
                  refine z_aload_n F dX2_putBest_62 rfl ?_
                  refine z_get (ci := 2) (C := RX2) (T := TX2) (N := 5) F 3 4 dX2_putBest_63 inX2 kfX2_24 rfl rfl rfl (by decide) rfl ?_
                  refine z_iload_n F dX2_putBest_66 rfl ?_
                  refine z_ialdN F 8 0 dX2_putBest_67 rfl rfl rfl g1 (by decide) ?_
                  refine z_istore F dX2_putBest_68 (by decide) ?_
                  refine z_aload_n F dX2_putBest_70 rfl ?_
                  refine z_aload_n F dX2_putBest_71 rfl ?_
                  refine z_get (ci := 2) (C := RX2) (T := TX2) (N := 5) F 3 0 dX2_putBest_72 inX2 kfX2_9 rfl rfl rfl (by decide) rfl ?_
                  refine z_iload F dX2_putBest_75 rfl ?_
                  refine z_iald F 4 0 dX2_putBest_77 rfl rfl rfl k4 (by decide) ?_
                  refine z_topi (y := nI ((ob ((zall ob oc y t).2.2 (zexn ob oc (zall ob oc y t).2.2 ((y, bn, us, nh, ct) : zX) i).1)).getD 0)) (zo_g k5) ?_
                  refine z_iload F dX2_putBest_78 rfl ?_
                  refine z_aload_n F dX2_putBest_80 rfl ?_
                  refine z_get (ci := 2) (C := RX2) (T := TX2) (N := 5) F 3 1 dX2_putBest_81 inX2 kfX2_15 rfl rfl rfl (by decide) rfl ?_
                  refine z_iload F dX2_putBest_84 rfl ?_
                  refine z_ialdN F 5 0 dX2_putBest_86 rfl rfl rfl k4 (by decide) ?_
                  refine z_callVv (w1 := []) (w3 := (wT he e1 e2 e3 e4 e5 cA ob oc (zall ob oc y t))) F (c_H_append (by omega) ((ob ((zall ob oc y t).2.2 (zexn ob oc (zall ob oc y t).2.2 ((y, bn, us, nh, ct) : zX) i).1)).getD 0) ((zall ob oc y t).2.2 (zexn ob oc (zall ob oc y t).2.2 ((y, bn, us, nh, ct) : zX) i).1) (oc ((zall ob oc y t).2.2 (zexn ob oc (zall ob oc y t).2.2 ((y, bn, us, nh, ct) : zX) i).1))) 0 rfl rfl (zcwV F.2.2.2.2.1 kcX1_append kmX2_31 kiX1_append ksX1_append knX1 hdX1_append rfl rfl ⟨(Nat.le_of_ble_eq_true rfl), (Nat.le_of_ble_eq_true rfl)⟩) dX2_putBest_87 rfl rfl rfl (Nat.le_of_ble_eq_true rfl) ⟨(Nat.le_of_ble_eq_true rfl), (Nat.le_of_ble_eq_true rfl)⟩ ?_
                  rintro w2 rfl
                  refine z_iload_n F dX2_putBest_90 rfl ?_
                  refine z_iload F dX2_putBest_91 rfl ?_
                  refine z_iconst (v := (-1)) F dX2_putBest_93 (by decide) ?_
                  refine z_ixor F dX2_putBest_94 ?_
                  refine z_iand F dX2_putBest_95 ?_
                  refine z_topi (y := nI (zd (zexn ob oc (zall ob oc y t).2.2 ((y, bn, us, nh, ct) : zX) i).1 ((zall ob oc y t).2.2 (zexn ob oc (zall ob oc y t).2.2 ((y, bn, us, nh, ct) : zX) i).1))) (zb_nand _ _) ?_
                  refine z_istore_n F dX2_putBest_96 (by decide) ?_
                  refine z_iinc (v := nI (i + 1)) F dX2_putBest_97 rfl (nI_1 i) (by decide) ?_
                  refine z_goto (tgt := 51) F dX2_putBest_100 (by decide) ?_
                  have h9 := ih (i + 1) (by omega) (by omega)
                  rw [zexn_t n59] at h9
                  exact z_lv rfl h9
          exact z_lv rfl (loop2 7 0 (by omega) (by omega))
        · have hn1 : ((zall ob oc y t).1 y).isSome = false := zo_isn c41 (fun b hb => by have := (zall_ok (y := y + 1) ok (by omega)).2.2 y hy b hb; omega)
          refine z_iconst (v := 0) F dX2_putBest_44 (by decide) ?_
          exact z_iret F hr rfl hlk dX2_putBest_45 ⟨by rw [show (((zall ob oc y t)).1 y).isSome = false from hn1]; rfl, by unfold zpb; rw [show (((zall ob oc y t)).1 y).isSome = false from hn1]; rfl⟩ (Nat.le_of_ble_eq_true rfl) (Nat.le_of_ble_eq_true rfl)
      · have h20 : x ≤ y := by rw [nI_ltI (by omega) (by omega)] at c20; omega
        refine z_aload_n F dX2_putBest_23 rfl ?_
        refine z_iload_n F dX2_putBest_24 rfl ?_
        refine z_callVv (w1 := (wH hd d1 d2 cA bn us nh ct mk ex)) (w3 := []) F (c_E_findBest (zall_ok ok (by omega)) x (by omega) (by omega)) 0 rfl rfl (zcwV F.2.2.2.2.1 kcX2_findBest kmX2_27 kiX2_findBest ksX2_findBest knX2 hdX2_findBest rfl rfl ⟨(Nat.le_of_ble_eq_true rfl), (Nat.le_of_ble_eq_true rfl)⟩) dX2_putBest_25 rfl rfl rfl (Nat.le_of_ble_eq_true rfl) ⟨(Nat.le_of_ble_eq_true rfl), (Nat.le_of_ble_eq_true rfl)⟩ ?_
        rintro w2 rfl
        refine z_iinc (v := nI (x + 1)) F dX2_putBest_28 rfl (nI_1 x) (by decide) ?_
        refine z_goto (tgt := 18) F dX2_putBest_31 (by decide) ?_
        have h9 := ih (x + 1) (by omega) (by omega) (by omega)
        rw [zfr_s (by omega)] at h9
        exact z_lv rfl h9
  refine z_iload_n F dX2_putBest_0 rfl ?_
  refine z_if_lt (tgt := 14) F dX2_putBest_1 (by decide) (fun c1 => ?_) (fun c1 => ?_)
  · exact absurd c1 (nI_pos (by omega))
  · refine z_iload_n F dX2_putBest_4 rfl ?_
    refine z_bipush (v := 64) F dX2_putBest_5 (by decide) ?_
    refine z_icmp_ge (tgt := 14) F dX2_putBest_7 (by decide) (fun c7 => ?_) (fun c7 => ?_)
    · exact absurd c7 (nI_ge hy (by decide))
    · refine z_aload_n F dX2_putBest_10 rfl ?_
      refine z_ifnonnull (tgt := 16) F dX2_putBest_11 (by decide) ?_
      refine z_iconst (v := 1) F dX2_putBest_16 (by decide) ?_
      refine z_istore_n F dX2_putBest_17 (by decide) ?_
      have h9 := loop (y + 2) 1 (by omega) (by omega) (by omega)
      rw [zfr_0 _ _ _ _ (Nat.le_refl _)] at h9
      exact z_lv rfl h9
