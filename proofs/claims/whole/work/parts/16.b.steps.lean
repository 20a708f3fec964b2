set_option maxHeartbeats 4000000 in
theorem S_box {l : Launch} {D : va_G} {cA cL : ClassId} {tys : List (ClassId × FieldType)} {ad am : Nat → Nat} {ou : Nat} (hl : l.stackTraces = false) {X M : va_W} (h : zInv ad am cA X M) (p0 p1 p2 p3 : Int32) (f : Nat → Int64) : zSt l D cA cL tys (am 0) ou (zInv ad am cA) (fun v => v.toInt64) yL_box (zwsW yL_box cL_box 7 (some .int) [(0, 14, 17, 13), (0, 14, 21, 15)]) (fun mc ms => { frames := 8, cells := mc, slots := ms, locals := 130 }) yX5_box (zws yX5_box cX5_box 5 (some .int)) { frames := 1, cells := 0, slots := 0, locals := 22 } [.ref (ad 0), .int p0, .int p1, .int p2, .int p3, .ref ou] [.ref (am 0), .int p0, .int p1, .int p2, .int p3] X M f := by
  obtain ⟨ro, lo, co, ks, nb, sl, si, we, ki, ap, tg, nu, bn, us, nh, ct, mk, ex, ob, oc, lc, fb, fs, cd, hw, ch, em, bx, sx, cn, nx, ns, pt, rfl, rfl, ok, hro, hHW, ⟨q1, q2, q3, q4, rfl, rfl, q7, q8, q9⟩, hoo, hns, hpt⟩ := h
  obtain ⟨o1, o2, o3, o4, o5, o6, o7, o8, o9, o10, o11, o12⟩ := id ok
  have hh : ∀ x, hw x < 2 ^ 31 := fun x => Nat.lt_of_le_of_lt (hHW.1 x) (by decide)
  by_cases h1 : (1 ≤ p0 ∧ p0 ≤ 1000)
  · by_cases h2 : (1 ≤ p1 ∧ p1 ≤ 1000)
    · by_cases h3 : (0 ≤ p2 ∧ p2 ≤ 1000)
      · by_cases h4 : (0 ≤ p3 ∧ p3 ≤ 255)
        · by_cases h5 : nb < 6
          · obtain ⟨r, g1, rfl⟩ := zrng (a := 1) (b := 1000) (by decide) h1 (by decide)
            obtain ⟨l2, g2, rfl⟩ := zrng (a := 1) (b := 1000) (by decide) h2 (by decide)
            obtain ⟨k1, g3, rfl⟩ := zrng (a := 0) (b := 1000) (by decide) h3 (by decide)
            obtain ⟨k2, g4, rfl⟩ := zrng (a := 0) (b := 255) (by decide) h4 (by decide)
            have e8 : ∀ i, i < nh → bn i ≠ nb := fun i hi => Nat.ne_of_lt (q8 i hi).2.2
            have hro2 : ∀ x, x < nb + 1 → 1 ≤ zu ro nb r x := by
              intro x hx
              unfold zu
              by_cases e : x = nb
              · rw [if_pos e]; exact g1.1
              · rw [if_neg e]; exact hro x (by omega)
            have hct : mk = true → ct = zct (zu co nb k1) bx nh := by
              intro hm
              rw [q9 hm]
              refine (zct_cg nh (fun i hi => ?_)).symm
              rw [(q8 i hi).1]
              show (if bn i = nb then k1 else co (bn i)) = co (bn i)
              rw [if_neg (e8 i hi)]
            refine ⟨0, nI nb, (wX ad cA (zu ro nb r) (zu lo nb l2) (zu co nb k1) (zu ks nb k2) (nb + 1) sl si we ki ap tg nu bn us nh ct mk ex ob oc lc fb fs), (wM am cA 0 (nb + 1) (zu ro nb r) (zu lo nb l2) (zu co nb k1) (zu ks nb k2) nu si we ki hw sl (bif mk then some nh else none) (mk && ex) bx sx cn nx ns pt), 0, 0, by decide, by decide, by decide, ⟨_, _, _, _, _, _, _, _, _, _, _, _, _, _, _, _, _, _, _, _, _, _, _, _, _, _, _, _, _, _, _, _, _, rfl, rfl, ⟨by omega, o2, o3, zu_le o4 g1.2, zu_le o5 g2.2, zu_le o6 g3.2, zu_b o7 (by omega), o8, o9, o10, o11, o12⟩, hro2, hHW, ⟨q1, q2, q3, q4, rfl, rfl, q7, fun i hi => ⟨(q8 i hi).1, (q8 i hi).2.1, Nat.lt_succ_of_lt (q8 i hi).2.2⟩, hct⟩, hoo, hns, hpt⟩, zmi_mono (w_box (nI r) (nI l2) (nI k1) (nI k2) (c_box h5 r l2 k1 k2 g1 g2 g3 g4)) ?_, zmi_mono (c_M_box h5 r l2 k1 k2 g1 g2 g3 g4) ?_, c_M_thrown⟩
            · rintro r w2 ⟨rfl, v9, w9, g, ⟨rfl, rfl⟩, hg, rfl⟩
              exact ⟨rfl, g, fun _ => hg, rfl⟩
            · rintro r w2 ⟨rfl, rfl⟩
              exact ⟨fun _ => rfl, rfl⟩
          · refine ⟨2, 0, (wX ad cA ro lo co ks nb sl si we ki ap tg nu bn us nh ct mk ex ob oc lc fb fs), (wM am cA 2 nb ro lo co ks nu si we ki hw sl (bif mk then some nh else none) (mk && ex) bx sx cn nx ns pt), 1, 6, by decide, by decide, by decide, ⟨_, _, _, _, _, _, _, _, _, _, _, _, _, _, _, _, _, _, _, _, _, _, _, _, _, _, _, _, _, _, _, _, _, rfl, rfl, ok, hro, hHW, ⟨q1, q2, q3, q4, rfl, rfl, q7, q8, q9⟩, hoo, hns, hpt⟩, zmi_mono (w_box_x2 p0 p1 p2 p3 (c_box_x5 hl p0 p1 p2 p3 h1 h2 h3 h4 o1 (by omega))) ?_, zmi_mono (c_M_box_x2 p0 p1 p2 p3 h1 h2 h3 h4 (by omega)) ?_, c_M_thrown⟩
            · rintro r w2 ⟨rfl, rfl⟩
              exact ⟨rfl, f, fun q => absurd q (by decide), rfl⟩
            · rintro r w2 ⟨rfl, rfl⟩
              exact ⟨fun q => absurd q (by decide), rfl⟩
        · refine ⟨1, 0, (wX ad cA ro lo co ks nb sl si we ki ap tg nu bn us nh ct mk ex ob oc lc fb fs), (wM am cA 1 nb ro lo co ks nu si we ki hw sl (bif mk then some nh else none) (mk && ex) bx sx cn nx ns pt), 1, 6, by decide, by decide, by decide, ⟨_, _, _, _, _, _, _, _, _, _, _, _, _, _, _, _, _, _, _, _, _, _, _, _, _, _, _, _, _, _, _, _, _, rfl, rfl, ok, hro, hHW, ⟨q1, q2, q3, q4, rfl, rfl, q7, q8, q9⟩, hoo, hns, hpt⟩, zmi_mono (w_box_x1 p0 p1 p2 p3 (c_box_x4 hl p0 p1 p2 p3 h1 h2 h3 h4)) ?_, zmi_mono (c_M_box_x1 p0 p1 p2 p3 (fun q => h4 q.2.2.2)) ?_, c_M_thrown⟩
          · rintro r w2 ⟨rfl, rfl⟩
            exact ⟨rfl, f, fun q => absurd q (by decide), rfl⟩
          · rintro r w2 ⟨rfl, rfl⟩
            exact ⟨fun q => absurd q (by decide), rfl⟩
      · refine ⟨1, 0, (wX ad cA ro lo co ks nb sl si we ki ap tg nu bn us nh ct mk ex ob oc lc fb fs), (wM am cA 1 nb ro lo co ks nu si we ki hw sl (bif mk then some nh else none) (mk && ex) bx sx cn nx ns pt), 1, 6, by decide, by decide, by decide, ⟨_, _, _, _, _, _, _, _, _, _, _, _, _, _, _, _, _, _, _, _, _, _, _, _, _, _, _, _, _, _, _, _, _, rfl, rfl, ok, hro, hHW, ⟨q1, q2, q3, q4, rfl, rfl, q7, q8, q9⟩, hoo, hns, hpt⟩, zmi_mono (w_box_x1 p0 p1 p2 p3 (c_box_x3 hl p0 p1 p2 p3 h1 h2 h3)) ?_, zmi_mono (c_M_box_x1 p0 p1 p2 p3 (fun q => h3 q.2.2.1)) ?_, c_M_thrown⟩
        · rintro r w2 ⟨rfl, rfl⟩
          exact ⟨rfl, f, fun q => absurd q (by decide), rfl⟩
        · rintro r w2 ⟨rfl, rfl⟩
          exact ⟨fun q => absurd q (by decide), rfl⟩
    · refine ⟨1, 0, (wX ad cA ro lo co ks nb sl si we ki ap tg nu bn us nh ct mk ex ob oc lc fb fs), (wM am cA 1 nb ro lo co ks nu si we ki hw sl (bif mk then some nh else none) (mk && ex) bx sx cn nx ns pt), 1, 6, by decide, by decide, by decide, ⟨_, _, _, _, _, _, _, _, _, _, _, _, _, _, _, _, _, _, _, _, _, _, _, _, _, _, _, _, _, _, _, _, _, rfl, rfl, ok, hro, hHW, ⟨q1, q2, q3, q4, rfl, rfl, q7, q8, q9⟩, hoo, hns, hpt⟩, zmi_mono (w_box_x1 p0 p1 p2 p3 (c_box_x2 hl p0 p1 p2 p3 h1 h2)) ?_, zmi_mono (c_M_box_x1 p0 p1 p2 p3 (fun q => h2 q.2.1)) ?_, c_M_thrown⟩
      · rintro r w2 ⟨rfl, rfl⟩
        exact ⟨rfl, f, fun q => absurd q (by decide), rfl⟩
      · rintro r w2 ⟨rfl, rfl⟩
        exact ⟨fun q => absurd q (by decide), rfl⟩
  · refine ⟨1, 0, (wX ad cA ro lo co ks nb sl si we ki ap tg nu bn us nh ct mk ex ob oc lc fb fs), (wM am cA 1 nb ro lo co ks nu si we ki hw sl (bif mk then some nh else none) (mk && ex) bx sx cn nx ns pt), 1, 6, by decide, by decide, by decide, ⟨_, _, _, _, _, _, _, _, _, _, _, _, _, _, _, _, _, _, _, _, _, _, _, _, _, _, _, _, _, _, _, _, _, rfl, rfl, ok, hro, hHW, ⟨q1, q2, q3, q4, rfl, rfl, q7, q8, q9⟩, hoo, hns, hpt⟩, zmi_mono (w_box_x1 p0 p1 p2 p3 (c_box_x1 hl p0 p1 p2 p3 h1)) ?_, zmi_mono (c_M_box_x1 p0 p1 p2 p3 (fun q => h1 q.1)) ?_, c_M_thrown⟩
    · rintro r w2 ⟨rfl, rfl⟩
      exact ⟨rfl, f, fun q => absurd q (by decide), rfl⟩
    · rintro r w2 ⟨rfl, rfl⟩
      exact ⟨fun q => absurd q (by decide), rfl⟩

set_option maxHeartbeats 4000000 in
theorem S_unit {l : Launch} {D : va_G} {cA cL : ClassId} {tys : List (ClassId × FieldType)} {ad am : Nat → Nat} {ou : Nat} (hl : l.stackTraces = false) {X M : va_W} (h : zInv ad am cA X M) (p0 p1 p2 : Int32) (f : Nat → Int64) : zSt l D cA cL tys (am 0) ou (zInv ad am cA) (fun v => v.toInt64) yL_unit (zwsW yL_unit cL_unit 6 (some .int) [(0, 12, 15, 13), (0, 12, 19, 15)]) (fun mc ms => { frames := 8, cells := mc, slots := ms, locals := 129 }) yX5_unit (zws yX5_unit cX5_unit 4 (some .int)) { frames := 1, cells := 0, slots := 0, locals := 22 } [.ref (ad 0), .int p0, .int p1, .int p2, .ref ou] [.ref (am 0), .int p0, .int p1, .int p2] X M f := by
  obtain ⟨ro, lo, co, ks, nb, sl, si, we, ki, ap, tg, nu, bn, us, nh, ct, mk, ex, ob, oc, lc, fb, fs, cd, hw, ch, em, bx, sx, cn, nx, ns, pt, rfl, rfl, ok, hro, hHW, ⟨q1, q2, q3, q4, rfl, rfl, q7, q8, q9⟩, hoo, hns, hpt⟩ := h
  obtain ⟨o1, o2, o3, o4, o5, o6, o7, o8, o9, o10, o11, o12⟩ := id ok
  have hh : ∀ x, hw x < 2 ^ 31 := fun x => Nat.lt_of_le_of_lt (hHW.1 x) (by decide)
  by_cases h1 : (1 ≤ p0 ∧ p0 ≤ 1000)
  · by_cases h2 : (0 ≤ p1 ∧ p1 ≤ 1000)
    · by_cases h3 : (0 ≤ p2 ∧ p2 ≤ 7)
      · by_cases h4 : nu < 8
        · obtain ⟨a1, g1, rfl⟩ := zrng (a := 1) (b := 1000) (by decide) h1 (by decide)
          obtain ⟨a2, g2, rfl⟩ := zrng (a := 0) (b := 1000) (by decide) h2 (by decide)
          obtain ⟨a3, g3, rfl⟩ := zrng (a := 0) (b := 7) (by decide) h3 (by decide)
          obtain ⟨w1, w2, w3, w4, w5, w6, w7, w8⟩ := hHW
          refine ⟨0, nI nu, (wX ad cA ro lo co ks nb sl (zu si nu a1) (zu we nu a2) (zu ki nu a3) ap tg (nu + 1) bn us nh ct mk ex ob oc lc fb fs), (wM am cA 0 nb ro lo co ks (nu + 1) (zu si nu a1) (zu we nu a2) (zu ki nu a3) hw sl (bif mk then some nh else none) (mk && ex) bx sx cn nx ns pt), 0, 0, by decide, by decide, by decide, ⟨_, _, _, _, _, _, _, _, _, _, _, _, _, _, _, _, _, _, _, _, _, _, _, _, _, _, _, _, _, _, _, _, _, rfl, rfl, ⟨o1, o2, by omega, o4, o5, o6, o7, zu_le o8 g1.2, zu_le o9 g2.2, zu_b o10 (by omega), o11, o12⟩, hro, ⟨w1, w2, w3, w4, w5, w6, fun a b ha hb => ⟨Nat.lt_succ_of_lt (w7 a b ha hb).1, Nat.lt_succ_of_lt (w7 a b ha hb).2⟩, fun a b ha hb => ⟨Nat.lt_succ_of_lt (w8 a b ha hb).1, Nat.lt_succ_of_lt (w8 a b ha hb).2⟩⟩, ⟨q1, q2, q3, q4, rfl, rfl, q7, q8, q9⟩, hoo, hns, hpt⟩, zmi_mono (w_unit (nI a1) (nI a2) (nI a3) (c_unit h4 a1 a2 a3 g1 g2 g3)) ?_, zmi_mono (c_M_unit h4 a1 a2 a3 g1 g2 g3) ?_, c_M_thrown⟩
          · rintro r w2 ⟨rfl, v9, w9, g, ⟨rfl, rfl⟩, hg, rfl⟩
            exact ⟨rfl, g, fun _ => hg, rfl⟩
          · rintro r w2 ⟨rfl, rfl⟩
            exact ⟨fun _ => rfl, rfl⟩
        · refine ⟨2, 0, (wX ad cA ro lo co ks nb sl si we ki ap tg nu bn us nh ct mk ex ob oc lc fb fs), (wM am cA 2 nb ro lo co ks nu si we ki hw sl (bif mk then some nh else none) (mk && ex) bx sx cn nx ns pt), 1, 6, by decide, by decide, by decide, ⟨_, _, _, _, _, _, _, _, _, _, _, _, _, _, _, _, _, _, _, _, _, _, _, _, _, _, _, _, _, _, _, _, _, rfl, rfl, ok, hro, hHW, ⟨q1, q2, q3, q4, rfl, rfl, q7, q8, q9⟩, hoo, hns, hpt⟩, zmi_mono (w_unit_x2 p0 p1 p2 (c_unit_x4 hl p0 p1 p2 h1 h2 h3 o3 (by omega))) ?_, zmi_mono (c_M_unit_x2 p0 p1 p2 h1 h2 h3 (by omega)) ?_, c_M_thrown⟩
          · rintro r w2 ⟨rfl, rfl⟩
            exact ⟨rfl, f, fun q => absurd q (by decide), rfl⟩
          · rintro r w2 ⟨rfl, rfl⟩
            exact ⟨fun q => absurd q (by decide), rfl⟩
      · refine ⟨1, 0, (wX ad cA ro lo co ks nb sl si we ki ap tg nu bn us nh ct mk ex ob oc lc fb fs), (wM am cA 1 nb ro lo co ks nu si we ki hw sl (bif mk then some nh else none) (mk && ex) bx sx cn nx ns pt), 1, 6, by decide, by decide, by decide, ⟨_, _, _, _, _, _, _, _, _, _, _, _, _, _, _, _, _, _, _, _, _, _, _, _, _, _, _, _, _, _, _, _, _, rfl, rfl, ok, hro, hHW, ⟨q1, q2, q3, q4, rfl, rfl, q7, q8, q9⟩, hoo, hns, hpt⟩, zmi_mono (w_unit_x1 p0 p1 p2 (c_unit_x3 hl p0 p1 p2 h1 h2 h3)) ?_, zmi_mono (c_M_unit_x1 p0 p1 p2 (fun q => h3 q.2.2)) ?_, c_M_thrown⟩
        · rintro r w2 ⟨rfl, rfl⟩
          exact ⟨rfl, f, fun q => absurd q (by decide), rfl⟩
        · rintro r w2 ⟨rfl, rfl⟩
          exact ⟨fun q => absurd q (by decide), rfl⟩
    · refine ⟨1, 0, (wX ad cA ro lo co ks nb sl si we ki ap tg nu bn us nh ct mk ex ob oc lc fb fs), (wM am cA 1 nb ro lo co ks nu si we ki hw sl (bif mk then some nh else none) (mk && ex) bx sx cn nx ns pt), 1, 6, by decide, by decide, by decide, ⟨_, _, _, _, _, _, _, _, _, _, _, _, _, _, _, _, _, _, _, _, _, _, _, _, _, _, _, _, _, _, _, _, _, rfl, rfl, ok, hro, hHW, ⟨q1, q2, q3, q4, rfl, rfl, q7, q8, q9⟩, hoo, hns, hpt⟩, zmi_mono (w_unit_x1 p0 p1 p2 (c_unit_x2 hl p0 p1 p2 h1 h2)) ?_, zmi_mono (c_M_unit_x1 p0 p1 p2 (fun q => h2 q.2.1)) ?_, c_M_thrown⟩
      · rintro r w2 ⟨rfl, rfl⟩
        exact ⟨rfl, f, fun q => absurd q (by decide), rfl⟩
      · rintro r w2 ⟨rfl, rfl⟩
        exact ⟨fun q => absurd q (by decide), rfl⟩
  · refine ⟨1, 0, (wX ad cA ro lo co ks nb sl si we ki ap tg nu bn us nh ct mk ex ob oc lc fb fs), (wM am cA 1 nb ro lo co ks nu si we ki hw sl (bif mk then some nh else none) (mk && ex) bx sx cn nx ns pt), 1, 6, by decide, by decide, by decide, ⟨_, _, _, _, _, _, _, _, _, _, _, _, _, _, _, _, _, _, _, _, _, _, _, _, _, _, _, _, _, _, _, _, _, rfl, rfl, ok, hro, hHW, ⟨q1, q2, q3, q4, rfl, rfl, q7, q8, q9⟩, hoo, hns, hpt⟩, zmi_mono (w_unit_x1 p0 p1 p2 (c_unit_x1 hl p0 p1 p2 h1)) ?_, zmi_mono (c_M_unit_x1 p0 p1 p2 (fun q => h1 q.1)) ?_, c_M_thrown⟩
    · rintro r w2 ⟨rfl, rfl⟩
      exact ⟨rfl, f, fun q => absurd q (by decide), rfl⟩
    · rintro r w2 ⟨rfl, rfl⟩
      exact ⟨fun q => absurd q (by decide), rfl⟩

set_option maxHeartbeats 4000000 in
theorem S_change {l : Launch} {D : va_G} {cA cL : ClassId} {tys : List (ClassId × FieldType)} {ad am : Nat → Nat} {ou : Nat} (hl : l.stackTraces = false) {X M : va_W} (h : zInv ad am cA X M) (p0 p1 : Int32) (f : Nat → Int64) : zSt l D cA cL tys (am 0) ou (zInv ad am cA) (fun v => v.toInt64) yL_change (zwsW yL_change cL_change 5 (some .int) [(0, 10, 13, 24), (0, 10, 17, 13)]) (fun mc ms => { frames := 8, cells := mc, slots := ms, locals := 128 }) yX5_change (zws yX5_change cX5_change 4 (some .int)) { frames := 2, cells := 0, slots := 0, locals := 43 } [.ref (ad 0), .int p0, .int p1, .ref ou] [.ref (am 0), .int p0, .int p1] X M f := by
  obtain ⟨ro, lo, co, ks, nb, sl, si, we, ki, ap, tg, nu, bn, us, nh, ct, mk, ex, ob, oc, lc, fb, fs, cd, hw, ch, em, bx, sx, cn, nx, ns, pt, rfl, rfl, ok, hro, hHW, ⟨q1, q2, q3, q4, rfl, rfl, q7, q8, q9⟩, hoo, hns, hpt⟩ := h
  obtain ⟨o1, o2, o3, o4, o5, o6, o7, o8, o9, o10, o11, o12⟩ := id ok
  have hh : ∀ x, hw x < 2 ^ 31 := fun x => Nat.lt_of_le_of_lt (hHW.1 x) (by decide)
  by_cases h1 : (0 ≤ p0 ∧ p0 < nI nu)
  · by_cases h2 : (0 ≤ p1 ∧ p1 ≤ 1000)
    · obtain ⟨u, hu, rfl⟩ := (zhas (by omega)).mp h1
      obtain ⟨v, g2, rfl⟩ := zrng (a := 0) (b := 1000) (by decide) h2 (by decide)
      refine ⟨0, nI (we u), (wX ad cA ro lo co ks nb sl si (zu we u v) ki ap tg nu bn us nh ct mk ex ob oc lc fb fs), (wM am cA 0 nb ro lo co ks nu si (zu we u v) ki hw sl (bif mk then some nh else none) (mk && ex) bx sx cn nx ns pt), 0, 0, by decide, by decide, by decide, ⟨_, _, _, _, _, _, _, _, _, _, _, _, _, _, _, _, _, _, _, _, _, _, _, _, _, _, _, _, _, _, _, _, _, rfl, rfl, ⟨o1, o2, o3, o4, o5, o6, o7, o8, zu_le o9 g2.2, o10, o11, o12⟩, hro, hHW, ⟨q1, q2, q3, q4, rfl, rfl, q7, q8, q9⟩, hoo, hns, hpt⟩, zmi_mono (w_change (nI u) (nI v) (c_change o3 u v hu g2.2)) ?_, zmi_mono (c_M_change o3 u v hu g2.2) ?_, c_M_thrown⟩
      · rintro r w2 ⟨rfl, v9, w9, g, ⟨rfl, rfl⟩, hg, rfl⟩
        exact ⟨rfl, g, fun _ => hg, rfl⟩
      · rintro r w2 ⟨rfl, rfl⟩
        exact ⟨fun _ => rfl, rfl⟩
    · refine ⟨2, 0, (wX ad cA ro lo co ks nb sl si we ki ap tg nu bn us nh ct mk ex ob oc lc fb fs), (wM am cA 2 nb ro lo co ks nu si we ki hw sl (bif mk then some nh else none) (mk && ex) bx sx cn nx ns pt), 1, 6, by decide, by decide, by decide, ⟨_, _, _, _, _, _, _, _, _, _, _, _, _, _, _, _, _, _, _, _, _, _, _, _, _, _, _, _, _, _, _, _, _, rfl, rfl, ok, hro, hHW, ⟨q1, q2, q3, q4, rfl, rfl, q7, q8, q9⟩, hoo, hns, hpt⟩, zmi_mono (w_change_x2 p0 p1 (c_change_x2 hl p0 p1 h1 h2)) ?_, zmi_mono (c_M_change_x2 o3 p0 p1 h1 h2) ?_, c_M_thrown⟩
      · rintro r w2 ⟨rfl, rfl⟩
        exact ⟨rfl, f, fun q => absurd q (by decide), rfl⟩
      · rintro r w2 ⟨rfl, rfl⟩
        exact ⟨fun q => absurd q (by decide), rfl⟩
  · refine ⟨1, 0, (wX ad cA ro lo co ks nb sl si we ki ap tg nu bn us nh ct mk ex ob oc lc fb fs), (wM am cA 1 nb ro lo co ks nu si we ki hw sl (bif mk then some nh else none) (mk && ex) bx sx cn nx ns pt), 1, 6, by decide, by decide, by decide, ⟨_, _, _, _, _, _, _, _, _, _, _, _, _, _, _, _, _, _, _, _, _, _, _, _, _, _, _, _, _, _, _, _, _, rfl, rfl, ok, hro, hHW, ⟨q1, q2, q3, q4, rfl, rfl, q7, q8, q9⟩, hoo, hns, hpt⟩, zmi_mono (w_change_x1 p0 p1 (c_change_x1 hl p0 p1 h1)) ?_, zmi_mono (c_M_change_x1 o3 p0 p1 h1) ?_, c_M_thrown⟩
    · rintro r w2 ⟨rfl, rfl⟩
      exact ⟨rfl, f, fun q => absurd q (by decide), rfl⟩
    · rintro r w2 ⟨rfl, rfl⟩
      exact ⟨fun q => absurd q (by decide), rfl⟩

set_option maxHeartbeats 4000000 in
theorem S_slack {l : Launch} {D : va_G} {cA cL : ClassId} {tys : List (ClassId × FieldType)} {ad am : Nat → Nat} {ou : Nat} (hl : l.stackTraces = false) {X M : va_W} (h : zInv ad am cA X M) (p0 : Int32) : zSv l D cA cL tys (am 0) (zInv ad am cA) yL_slack (zwsW yL_slack cL_slack 3 (some .int) [(0, 5, 8, 13)]) (fun mc ms => { frames := 8, cells := mc, slots := ms, locals := 127 }) yX5_slack (zws yX5_slack cX5_slack 2 none) { frames := 1, cells := 0, slots := 0, locals := 22 } [.ref (ad 0), .int p0] [.ref (am 0), .int p0] X M := by
  obtain ⟨ro, lo, co, ks, nb, sl, si, we, ki, ap, tg, nu, bn, us, nh, ct, mk, ex, ob, oc, lc, fb, fs, cd, hw, ch, em, bx, sx, cn, nx, ns, pt, rfl, rfl, ok, hro, hHW, ⟨q1, q2, q3, q4, rfl, rfl, q7, q8, q9⟩, hoo, hns, hpt⟩ := h
  obtain ⟨o1, o2, o3, o4, o5, o6, o7, o8, o9, o10, o11, o12⟩ := id ok
  have hh : ∀ x, hw x < 2 ^ 31 := fun x => Nat.lt_of_le_of_lt (hHW.1 x) (by decide)
  by_cases h1 : (0 ≤ p0 ∧ p0 ≤ 1000)
  · obtain ⟨v, g1, rfl⟩ := zrng (a := 0) (b := 1000) (by decide) h1 (by decide)
    refine ⟨0, (wX ad cA ro lo co ks nb v si we ki ap tg nu bn us nh ct mk ex ob oc lc fb fs), (wM am cA 0 nb ro lo co ks nu si we ki hw v (bif mk then some nh else none) (mk && ex) bx sx cn nx ns pt), 0, 0, by decide, by decide, by decide, ⟨_, _, _, _, _, _, _, _, _, _, _, _, _, _, _, _, _, _, _, _, _, _, _, _, _, _, _, _, _, _, _, _, _, rfl, rfl, ⟨o1, g1.2, o3, o4, o5, o6, o7, o8, o9, o10, o11, o12⟩, hro, hHW, ⟨q1, q2, q3, q4, rfl, rfl, q7, q8, q9⟩, hoo, hns, hpt⟩, zmi_mono (w_slack (cL := cL) (ou := 0) (f := fun _ => 0) (nI v) (c_slack v g1.2)) ?_, c_M_slack v g1.2, c_M_thrown⟩
    rintro r w2 ⟨rfl, rfl⟩
    exact ⟨rfl, rfl⟩
  · refine ⟨1, (wX ad cA ro lo co ks nb sl si we ki ap tg nu bn us nh ct mk ex ob oc lc fb fs), (wM am cA 1 nb ro lo co ks nu si we ki hw sl (bif mk then some nh else none) (mk && ex) bx sx cn nx ns pt), 1, 6, by decide, by decide, by decide, ⟨_, _, _, _, _, _, _, _, _, _, _, _, _, _, _, _, _, _, _, _, _, _, _, _, _, _, _, _, _, _, _, _, _, rfl, rfl, ok, hro, hHW, ⟨q1, q2, q3, q4, rfl, rfl, q7, q8, q9⟩, hoo, hns, hpt⟩, zmi_mono (w_slack_x1 (cL := cL) (ou := 0) (f := fun _ => 0) p0 (c_slack_x1 hl p0 h1)) ?_, c_M_slack_x1 p0 h1, c_M_thrown⟩
    rintro r w2 ⟨rfl, rfl⟩
    exact ⟨rfl, rfl⟩

set_option maxHeartbeats 4000000 in
theorem S_exact {l : Launch} {D : va_G} {cA cL : ClassId} {tys : List (ClassId × FieldType)} {ad am : Nat → Nat} {ou : Nat} (hl : l.stackTraces = false) {X M : va_W} (h : zInv ad am cA X M) : zSq l D cA cL tys (zInv ad am cA) yX4_exact (zws yX4_exact cX4_exact 1 (some .boolean)) { frames := 0, cells := 0, slots := 0, locals := 0 } yX5_exact (zws yX5_exact cX5_exact 1 (some .boolean)) { frames := 0, cells := 0, slots := 0, locals := 0 } [.ref (ad 0)] [.ref (am 0)] X M := by
  obtain ⟨ro, lo, co, ks, nb, sl, si, we, ki, ap, tg, nu, bn, us, nh, ct, mk, ex, ob, oc, lc, fb, fs, cd, hw, ch, em, bx, sx, cn, nx, ns, pt, rfl, rfl, ok, hro, hHW, ⟨q1, q2, q3, q4, rfl, rfl, q7, q8, q9⟩, hoo, hns, hpt⟩ := h
  obtain ⟨o1, o2, o3, o4, o5, o6, o7, o8, o9, o10, o11, o12⟩ := id ok
  have hh : ∀ x, hw x < 2 ^ 31 := fun x => Nat.lt_of_le_of_lt (hHW.1 x) (by decide)
  exact ⟨_, (wX ad cA ro lo co ks nb sl si we ki ap tg nu bn us nh ct mk ex ob oc lc fb fs), (wM am cA 0 nb ro lo co ks nu si we ki hw sl (bif mk then some nh else none) (mk && ex) bx sx cn nx ns pt), ⟨_, _, _, _, _, _, _, _, _, _, _, _, _, _, _, _, _, _, _, _, _, _, _, _, _, _, _, _, _, _, _, _, _, rfl, rfl, ok, hro, hHW, ⟨q1, q2, q3, q4, rfl, rfl, q7, q8, q9⟩, hoo, hns, hpt⟩, c_exact, c_M_exact⟩

set_option maxHeartbeats 4000000 in
theorem S_boxes {l : Launch} {D : va_G} {cA cL : ClassId} {tys : List (ClassId × FieldType)} {ad am : Nat → Nat} {ou : Nat} (hl : l.stackTraces = false) {X M : va_W} (h : zInv ad am cA X M) : zSq l D cA cL tys (zInv ad am cA) yX4_boxes (zws yX4_boxes cX4_boxes 1 (some .int)) { frames := 0, cells := 0, slots := 0, locals := 0 } yX5_boxes (zws yX5_boxes cX5_boxes 1 (some .int)) { frames := 0, cells := 0, slots := 0, locals := 0 } [.ref (ad 0)] [.ref (am 0)] X M := by
  obtain ⟨ro, lo, co, ks, nb, sl, si, we, ki, ap, tg, nu, bn, us, nh, ct, mk, ex, ob, oc, lc, fb, fs, cd, hw, ch, em, bx, sx, cn, nx, ns, pt, rfl, rfl, ok, hro, hHW, ⟨q1, q2, q3, q4, rfl, rfl, q7, q8, q9⟩, hoo, hns, hpt⟩ := h
  obtain ⟨o1, o2, o3, o4, o5, o6, o7, o8, o9, o10, o11, o12⟩ := id ok
  have hh : ∀ x, hw x < 2 ^ 31 := fun x => Nat.lt_of_le_of_lt (hHW.1 x) (by decide)
  exact ⟨_, (wX ad cA ro lo co ks nb sl si we ki ap tg nu bn us nh ct mk ex ob oc lc fb fs), (wM am cA 0 nb ro lo co ks nu si we ki hw sl (bif mk then some nh else none) (mk && ex) bx sx cn nx ns pt), ⟨_, _, _, _, _, _, _, _, _, _, _, _, _, _, _, _, _, _, _, _, _, _, _, _, _, _, _, _, _, _, _, _, _, rfl, rfl, ok, hro, hHW, ⟨q1, q2, q3, q4, rfl, rfl, q7, q8, q9⟩, hoo, hns, hpt⟩, c_boxes, c_M_boxes⟩
