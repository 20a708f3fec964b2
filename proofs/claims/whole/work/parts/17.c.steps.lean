set_option maxHeartbeats 4000000 in
theorem S_fits {l : Launch} {D : va_G} {cA cL : ClassId} {tys : List (ClassId × FieldType)} {ad am : Nat → Nat} {ou : Nat} (hl : l.stackTraces = false) {X M : va_W} (h : zInv ad am cA X M) (p0 p1 : Int32) (f : Nat → Int64) : zSt l D cA cL tys (am 0) ou (zInv ad am cA) zl01 yL_fits (zwsW yL_fits cL_fits 5 (some .int) [(0, 17, 20, 24)]) (fun mc ms => { frames := 8, cells := mc, slots := ms, locals := 127 }) yX5_fits (zws yX5_fits cX5_fits 3 (some .boolean)) { frames := 3, cells := 0, slots := 0, locals := 67 } [.ref (ad 0), .int p0, .int p1, .ref ou] [.ref (am 0), .int p0, .int p1] X M f := by
  obtain ⟨ro, lo, co, ks, nb, sl, si, we, ki, ap, tg, nu, bn, us, nh, ct, mk, ex, ob, oc, lc, fb, fs, cd, hw, ch, em, bx, sx, cn, nx, ns, pt, rfl, rfl, ok, hro, hHW, ⟨q1, q2, q3, q4, rfl, rfl, q7, q8, q9⟩, hoo, hns, hpt⟩ := h
  obtain ⟨o1, o2, o3, o4, o5, o6, o7, o8, o9, o10, o11, o12⟩ := id ok
  have hh : ∀ x, hw x < 2 ^ 31 := fun x => Nat.lt_of_le_of_lt (hHW.1 x) (by decide)
  by_cases h1 : (0 ≤ p0 ∧ p0 < nI nb)
  · by_cases h2 : (0 ≤ p1 ∧ p1 < nI nu)
    · obtain ⟨b, hb, rfl⟩ := (zhas (by omega)).mp h1
      obtain ⟨u, hu, rfl⟩ := (zhas (by omega)).mp h2
      refine ⟨0, zB (zfc ro lo ks sl si we ki nu (2 ^ u) b), (wX ad cA ro lo co ks nb sl si we ki ap tg nu bn us nh ct mk ex ob oc lc fb fs), (wM am cA 0 nb ro lo co ks nu si we ki hw sl (bif mk then some nh else none) (mk && ex) bx sx cn nx ns pt), 0, 0, by decide, by decide, by decide, ⟨_, _, _, _, _, _, _, _, _, _, _, _, _, _, _, _, _, _, _, _, _, _, _, _, _, _, _, _, _, _, _, _, _, rfl, rfl, ok, hro, hHW, ⟨q1, q2, q3, q4, rfl, rfl, q7, q8, q9⟩, hoo, hns, hpt⟩, zmi_mono (w_fits (nI b) (nI u) (c_fits ok b u hb hu)) ?_, zmi_mono (c_M_fits (zok0 ok) hh b u hb hu) ?_, c_M_thrown⟩
      · rintro r w2 ⟨rfl, v9, w9, g, ⟨rfl, rfl⟩, hg, rfl⟩
        exact ⟨rfl, g, fun _ => hg, rfl⟩
      · rintro r w2 ⟨rfl, rfl⟩
        exact ⟨fun _ => (by rw [zmp_eq]), rfl⟩
    · refine ⟨1, 0, (wX ad cA ro lo co ks nb sl si we ki ap tg nu bn us nh ct mk ex ob oc lc fb fs), (wM am cA 1 nb ro lo co ks nu si we ki hw sl (bif mk then some nh else none) (mk && ex) bx sx cn nx ns pt), 1, 6, by decide, by decide, by decide, ⟨_, _, _, _, _, _, _, _, _, _, _, _, _, _, _, _, _, _, _, _, _, _, _, _, _, _, _, _, _, _, _, _, _, rfl, rfl, ok, hro, hHW, ⟨q1, q2, q3, q4, rfl, rfl, q7, q8, q9⟩, hoo, hns, hpt⟩, zmi_mono (w_fits_x1 p0 p1 (c_fits_x2 hl p0 p1 h1 h2)) ?_, zmi_mono (c_M_fits_x1 o3 o1 p0 p1 (fun q => h2 q.2)) ?_, c_M_thrown⟩
      · rintro r w2 ⟨rfl, rfl⟩
        exact ⟨rfl, f, fun q => absurd q (by decide), rfl⟩
      · rintro r w2 ⟨rfl, rfl⟩
        exact ⟨fun q => absurd q (by decide), rfl⟩
  · refine ⟨1, 0, (wX ad cA ro lo co ks nb sl si we ki ap tg nu bn us nh ct mk ex ob oc lc fb fs), (wM am cA 1 nb ro lo co ks nu si we ki hw sl (bif mk then some nh else none) (mk && ex) bx sx cn nx ns pt), 1, 6, by decide, by decide, by decide, ⟨_, _, _, _, _, _, _, _, _, _, _, _, _, _, _, _, _, _, _, _, _, _, _, _, _, _, _, _, _, _, _, _, _, rfl, rfl, ok, hro, hHW, ⟨q1, q2, q3, q4, rfl, rfl, q7, q8, q9⟩, hoo, hns, hpt⟩, zmi_mono (w_fits_x1 p0 p1 (c_fits_x1 hl p0 p1 h1)) ?_, zmi_mono (c_M_fits_x1 o3 o1 p0 p1 (fun q => h1 q.1)) ?_, c_M_thrown⟩
    · rintro r w2 ⟨rfl, rfl⟩
      exact ⟨rfl, f, fun q => absurd q (by decide), rfl⟩
    · rintro r w2 ⟨rfl, rfl⟩
      exact ⟨fun q => absurd q (by decide), rfl⟩

set_option maxHeartbeats 4000000 in
theorem S_bar {l : Launch} {D : va_G} {cA cL : ClassId} {tys : List (ClassId × FieldType)} {ad am : Nat → Nat} {ou : Nat} (hl : l.stackTraces = false) {X M : va_W} (h : zInv ad am cA X M) (p0 : Int32) (f : Nat → Int64) : zSt l D cA cL tys (am 0) ou (zInv ad am cA) (fun v => v.toInt64) yL_bar (zwsW yL_bar cL_bar 4 (some .int) [(0, 9, 12, 24)]) (fun mc ms => { frames := 8, cells := mc, slots := ms, locals := 128 }) yX5_bar (zws yX5_bar cX5_bar 6 (some .int)) { frames := 3, cells := 0, slots := 0, locals := 67 } [.ref (ad 0), .int p0, .ref ou] [.ref (am 0), .int p0] X M f := by
  obtain ⟨ro, lo, co, ks, nb, sl, si, we, ki, ap, tg, nu, bn, us, nh, ct, mk, ex, ob, oc, lc, fb, fs, cd, hw, ch, em, bx, sx, cn, nx, ns, pt, rfl, rfl, ok, hro, hHW, ⟨q1, q2, q3, q4, rfl, rfl, q7, q8, q9⟩, hoo, hns, hpt⟩ := h
  obtain ⟨o1, o2, o3, o4, o5, o6, o7, o8, o9, o10, o11, o12⟩ := id ok
  have hh : ∀ x, hw x < 2 ^ 31 := fun x => Nat.lt_of_le_of_lt (hHW.1 x) (by decide)
  by_cases h1 : (0 ≤ p0 ∧ p0 < nI nu)
  · obtain ⟨u, hu, rfl⟩ := (zhas (by omega)).mp h1
    refine ⟨0, nI (zbar ro lo ks nb sl si we ki ap nu (zco tg nu u nu)), (wX ad cA ro lo co ks nb sl si we ki ap tg nu bn us nh ct mk ex ob oc lc fb fs), (wM am cA 0 nb ro lo co ks nu si we ki hw sl (bif mk then some nh else none) (mk && ex) bx sx cn nx ns pt), 0, 0, by decide, by decide, by decide, ⟨_, _, _, _, _, _, _, _, _, _, _, _, _, _, _, _, _, _, _, _, _, _, _, _, _, _, _, _, _, _, _, _, _, rfl, rfl, ok, hro, hHW, ⟨q1, q2, q3, q4, rfl, rfl, q7, q8, q9⟩, hoo, hns, hpt⟩, zmi_mono (w_bar (nI u) (c_bar ok u hu)) ?_, zmi_mono (c_M_bar (zok0 ok) hh u hu) ?_, c_M_thrown⟩
    · rintro r w2 ⟨rfl, v9, w9, g, ⟨rfl, rfl⟩, hg, rfl⟩
      exact ⟨rfl, g, fun _ => hg, rfl⟩
    · rintro r w2 ⟨rfl, rfl⟩
      exact ⟨fun _ => (by rw [zbar_eq hHW o3, zwr_eq hHW o3 hu]), rfl⟩
  · refine ⟨1, 0, (wX ad cA ro lo co ks nb sl si we ki ap tg nu bn us nh ct mk ex ob oc lc fb fs), (wM am cA 1 nb ro lo co ks nu si we ki hw sl (bif mk then some nh else none) (mk && ex) bx sx cn nx ns pt), 1, 6, by decide, by decide, by decide, ⟨_, _, _, _, _, _, _, _, _, _, _, _, _, _, _, _, _, _, _, _, _, _, _, _, _, _, _, _, _, _, _, _, _, rfl, rfl, ok, hro, hHW, ⟨q1, q2, q3, q4, rfl, rfl, q7, q8, q9⟩, hoo, hns, hpt⟩, zmi_mono (w_bar_x1 p0 (c_bar_x1 hl p0 h1)) ?_, zmi_mono (c_M_bar_x1 o3 p0 h1) ?_, c_M_thrown⟩
    · rintro r w2 ⟨rfl, rfl⟩
      exact ⟨rfl, f, fun q => absurd q (by decide), rfl⟩
    · rintro r w2 ⟨rfl, rfl⟩
      exact ⟨fun q => absurd q (by decide), rfl⟩

set_option maxHeartbeats 4000000 in
theorem S_group {l : Launch} {D : va_G} {cA cL : ClassId} {tys : List (ClassId × FieldType)} {ad am : Nat → Nat} {ou : Nat} (hl : l.stackTraces = false) {X M : va_W} (h : zInv ad am cA X M) (p0 p1 p2 : Int32) (f : Nat → Int64) : zSt l D cA cL tys (am 0) ou (zInv ad am cA) (fun v => v.toInt64) yL_group (zwsW yL_group cL_group 6 (some .int) [(0, 12, 15, 24), (0, 12, 19, 13)]) (fun mc ms => { frames := 8, cells := mc, slots := ms, locals := 130 }) yX5_group (zws yX5_group cX5_group 5 (some .int)) { frames := 2, cells := 0, slots := 0, locals := 43 } [.ref (ad 0), .int p0, .int p1, .int p2, .ref ou] [.ref (am 0), .int p0, .int p1, .int p2] X M f := by
  obtain ⟨ro, lo, co, ks, nb, sl, si, we, ki, ap, tg, nu, bn, us, nh, ct, mk, ex, ob, oc, lc, fb, fs, cd, hw, ch, em, bx, sx, cn, nx, ns, pt, rfl, rfl, ok, hro, hHW, ⟨q1, q2, q3, q4, rfl, rfl, q7, q8, q9⟩, hoo, hns, hpt⟩ := h
  obtain ⟨o1, o2, o3, o4, o5, o6, o7, o8, o9, o10, o11, o12⟩ := id ok
  have hh : ∀ x, hw x < 2 ^ 31 := fun x => Nat.lt_of_le_of_lt (hHW.1 x) (by decide)
  by_cases h1 : (0 ≤ p0 ∧ p0 < nI nu)
  · by_cases h2 : (0 ≤ p1 ∧ p1 < nI nu)
    · by_cases h3 : (0 ≤ p2 ∧ p2 ≤ 2)
      · by_cases h4 : ¬ p0 = p1
        · obtain ⟨u, hu, rfl⟩ := (zhas (by omega)).mp h1
          obtain ⟨v, hv, rfl⟩ := (zhas (by omega)).mp h2
          obtain ⟨g, g2, rfl⟩ := zrng (a := 0) (b := 2) (by decide) h3 (by decide)
          have hne : u ≠ v := fun q => h4 (by rw [q])
          refine ⟨0, nI (zrel ap tg u v), (wX ad cA ro lo co ks nb sl si we ki (zrl (zrl ap u v (decide (g = 1))) v u (decide (g = 1))) (zrl (zrl tg u v (decide (g = 2))) v u (decide (g = 2))) nu bn us nh ct mk ex ob oc lc fb fs), (wM am cA 0 nb ro lo co ks nu si we ki (zu (zu hw (8 * u + v) g) (8 * v + u) g) sl (bif mk then some nh else none) (mk && ex) bx sx cn nx ns pt), 0, 0, by decide, by decide, by decide, ⟨_, _, _, _, _, _, _, _, _, _, _, _, _, _, _, _, _, _, _, _, _, _, _, _, _, _, _, _, _, _, _, _, _, rfl, rfl, ⟨o1, o2, o3, o4, o5, o6, o7, o8, o9, o10, zrl_lt (zrl_lt o11 (by omega)) (by omega), zrl_lt (zrl_lt o12 (by omega)) (by omega)⟩, hro, zHW_g hHW o3 hu hv g2.2 hne, ⟨q1, q2, q3, q4, rfl, rfl, q7, q8, q9⟩, hoo, hns, hpt⟩, zmi_mono (w_group (nI u) (nI v) (nI g) (c_group ok u v g hu hv g2.2 hne)) ?_, zmi_mono (c_M_group o3 u v g hu hv g2.2 hne) ?_, c_M_thrown⟩
          · rintro r w2 ⟨rfl, v9, w9, g9, ⟨rfl, rfl⟩, hg, rfl⟩
            exact ⟨rfl, g9, fun _ => hg, rfl⟩
          · rintro r w2 ⟨rfl, rfl⟩
            exact ⟨fun _ => (by rw [hHW.2.1 u v (by omega) (by omega)]), rfl⟩
        · refine ⟨2, 0, (wX ad cA ro lo co ks nb sl si we ki ap tg nu bn us nh ct mk ex ob oc lc fb fs), (wM am cA 2 nb ro lo co ks nu si we ki hw sl (bif mk then some nh else none) (mk && ex) bx sx cn nx ns pt), 1, 6, by decide, by decide, by decide, ⟨_, _, _, _, _, _, _, _, _, _, _, _, _, _, _, _, _, _, _, _, _, _, _, _, _, _, _, _, _, _, _, _, _, rfl, rfl, ok, hro, hHW, ⟨q1, q2, q3, q4, rfl, rfl, q7, q8, q9⟩, hoo, hns, hpt⟩, zmi_mono (w_group_x2 p0 p1 p2 (c_group_x4 hl p0 p1 p2 h1 h2 h3 (Decidable.of_not_not h4))) ?_, zmi_mono (c_M_group_x2 o3 p0 p1 p2 h1 h2 (fun q => h4 q.2)) ?_, c_M_thrown⟩
          · rintro r w2 ⟨rfl, rfl⟩
            exact ⟨rfl, f, fun q => absurd q (by decide), rfl⟩
          · rintro r w2 ⟨rfl, rfl⟩
            exact ⟨fun q => absurd q (by decide), rfl⟩
      · refine ⟨2, 0, (wX ad cA ro lo co ks nb sl si we ki ap tg nu bn us nh ct mk ex ob oc lc fb fs), (wM am cA 2 nb ro lo co ks nu si we ki hw sl (bif mk then some nh else none) (mk && ex) bx sx cn nx ns pt), 1, 6, by decide, by decide, by decide, ⟨_, _, _, _, _, _, _, _, _, _, _, _, _, _, _, _, _, _, _, _, _, _, _, _, _, _, _, _, _, _, _, _, _, rfl, rfl, ok, hro, hHW, ⟨q1, q2, q3, q4, rfl, rfl, q7, q8, q9⟩, hoo, hns, hpt⟩, zmi_mono (w_group_x2 p0 p1 p2 (c_group_x3 hl p0 p1 p2 h1 h2 h3)) ?_, zmi_mono (c_M_group_x2 o3 p0 p1 p2 h1 h2 (fun q => h3 q.1)) ?_, c_M_thrown⟩
        · rintro r w2 ⟨rfl, rfl⟩
          exact ⟨rfl, f, fun q => absurd q (by decide), rfl⟩
        · rintro r w2 ⟨rfl, rfl⟩
          exact ⟨fun q => absurd q (by decide), rfl⟩
    · refine ⟨1, 0, (wX ad cA ro lo co ks nb sl si we ki ap tg nu bn us nh ct mk ex ob oc lc fb fs), (wM am cA 1 nb ro lo co ks nu si we ki hw sl (bif mk then some nh else none) (mk && ex) bx sx cn nx ns pt), 1, 6, by decide, by decide, by decide, ⟨_, _, _, _, _, _, _, _, _, _, _, _, _, _, _, _, _, _, _, _, _, _, _, _, _, _, _, _, _, _, _, _, _, rfl, rfl, ok, hro, hHW, ⟨q1, q2, q3, q4, rfl, rfl, q7, q8, q9⟩, hoo, hns, hpt⟩, zmi_mono (w_group_x1 p0 p1 p2 (c_group_x2 hl p0 p1 p2 h1 h2)) ?_, zmi_mono (c_M_group_x1 o3 p0 p1 p2 (fun q => h2 q.2)) ?_, c_M_thrown⟩
      · rintro r w2 ⟨rfl, rfl⟩
        exact ⟨rfl, f, fun q => absurd q (by decide), rfl⟩
      · rintro r w2 ⟨rfl, rfl⟩
        exact ⟨fun q => absurd q (by decide), rfl⟩
  · refine ⟨1, 0, (wX ad cA ro lo co ks nb sl si we ki ap tg nu bn us nh ct mk ex ob oc lc fb fs), (wM am cA 1 nb ro lo co ks nu si we ki hw sl (bif mk then some nh else none) (mk && ex) bx sx cn nx ns pt), 1, 6, by decide, by decide, by decide, ⟨_, _, _, _, _, _, _, _, _, _, _, _, _, _, _, _, _, _, _, _, _, _, _, _, _, _, _, _, _, _, _, _, _, rfl, rfl, ok, hro, hHW, ⟨q1, q2, q3, q4, rfl, rfl, q7, q8, q9⟩, hoo, hns, hpt⟩, zmi_mono (w_group_x1 p0 p1 p2 (c_group_x1 hl p0 p1 p2 h1)) ?_, zmi_mono (c_M_group_x1 o3 p0 p1 p2 (fun q => h1 q.1)) ?_, c_M_thrown⟩
    · rintro r w2 ⟨rfl, rfl⟩
      exact ⟨rfl, f, fun q => absurd q (by decide), rfl⟩
    · rintro r w2 ⟨rfl, rfl⟩
      exact ⟨fun q => absurd q (by decide), rfl⟩
