/-- the exact choice is the same on both sides (this is still to be shown) -/
def zExact (l : Launch) (D : va_G) (cA cL : ClassId) (tys : List (ClassId × FieldType)) (ad am : Nat → Nat) (ou : Nat) : Prop := ∀ (ro lo co ks : Nat → Nat) (nb sl : Nat) (si we ki ap tg : Nat → Nat) (nu : Nat) (bn us : Nat → Nat) (nh ct : Nat) (mk ex : Bool) (ob : Nat → Option Nat) (oc : Nat → Nat) (lc : Nat → Option Nat) (fb fs : Nat → Nat) (cd : Nat) (hw : Nat → Nat) (bx : Nat → Option Nat) (sx : Nat → Nat) (cn : Nat) (nx : Nat → Option Nat) (ns pt : Nat → Nat) (mo : Nat) (f : Nat → Int64), zok ro lo co ks nb sl si we ki ap tg nu → (∀ x, x < nb → 1 ≤ ro x) → zHW ap tg hw nu → zCo co nb bn us nh ct mk ex (bif mk then some nh else none) (mk && ex) bx sx → ((∀ x, oc x ≤ 1000) ∧ ∀ x b, ob x = some b → b < 6) → (∀ x, ns x < 256) → (∀ x, pt x < 9) → mo ≤ 6 → nu ≤ mo → zSt l D cA cL tys (am 0) ou (zInv ad am cA) (fun v => v.toInt64) yL_choose (zwsW yL_choose cL_choose 4 (some .int) [(0, 9, 12, 13)]) (fun mc ms => { frames := 8, cells := mc, slots := ms, locals := 177 }) yX5_choose (zws yX5_choose cX5_choose 3 (some .int)) { frames := 7, cells := 0, slots := 0, locals := 154 } [.ref (ad 0), .int (nI mo), .ref ou] [.ref (am 0), .int (nI mo)] (wX ad cA ro lo co ks nb sl si we ki ap tg nu bn us nh ct mk ex ob oc lc fb fs) (wM am cA cd nb ro lo co ks nu si we ki hw sl (bif mk then some nh else none) (mk && ex) bx sx cn nx ns pt) f

set_option maxHeartbeats 4000000 in
theorem S_choose {l : Launch} {D : va_G} {cA cL : ClassId} {tys : List (ClassId × FieldType)} {ad am : Nat → Nat} {ou : Nat} (hl : l.stackTraces = false) {X M : va_W} (h : zInv ad am cA X M) (p0 : Int32) (f : Nat → Int64) (hE : zExact l D cA cL tys ad am ou) : zSt l D cA cL tys (am 0) ou (zInv ad am cA) (fun v => v.toInt64) yL_choose (zwsW yL_choose cL_choose 4 (some .int) [(0, 9, 12, 13)]) (fun mc ms => { frames := 8, cells := mc, slots := ms, locals := 177 }) yX5_choose (zws yX5_choose cX5_choose 3 (some .int)) { frames := 7, cells := 0, slots := 0, locals := 154 } [.ref (ad 0), .int p0, .ref ou] [.ref (am 0), .int p0] X M f := by
  obtain ⟨ro, lo, co, ks, nb, sl, si, we, ki, ap, tg, nu, bn, us, nh, ct, mk, ex, ob, oc, lc, fb, fs, cd, hw, ch, em, bx, sx, cn, nx, ns, pt, rfl, rfl, ok, hro, hHW, ⟨q1, q2, q3, q4, rfl, rfl, q7, q8, q9⟩, hoo, hns, hpt⟩ := h
  obtain ⟨o1, o2, o3, o4, o5, o6, o7, o8, o9, o10, o11, o12⟩ := id ok
  have hh : ∀ x, hw x < 2 ^ 31 := fun x => Nat.lt_of_le_of_lt (hHW.1 x) (by decide)
  by_cases h1 : (0 ≤ p0 ∧ p0 ≤ 6)
  · obtain ⟨mo, hm, rfl⟩ := zrng (a := 0) (b := 6) (by decide) h1 (by decide)
    rcases Nat.lt_or_ge mo nu with hlt | hge
    · obtain ⟨r1, r2⟩ := zrule (FF := zff ro lo ks sl si we ki ap tg nu) (FM := fun b a => zmf ro lo ks sl si we ki hw nu b a) (fun b a => zmf_eq hHW o3 ro lo ks sl si we ki b a) (co := co) (nb := nb) (nu := nu) (cm := fun u => zco tg nu u nu) (cm2 := fun u => zwr hw nu u 8) (fun u hu => zwr_eq hHW o3 hu) bn us nx ns nu (Nat.le_refl _)
      obtain ⟨⟨b1, b2, b3⟩, b4, b5⟩ := zbr_ok (FF := zff ro lo ks sl si we ki ap tg nu) (co := co) (nb := nb) (cm := fun u => zco tg nu u nu) (h := ((bn, us, 0, 0) : zCh)) ⟨by show 0 ≤ 8; decide, q2, q3⟩ rfl o1 (fun u hu => zco_lt (k := 8) o12 hu nu) nu o3
      obtain ⟨m1, m2, m3, m4⟩ := zmu_ok (FM := fun b a => zmf ro lo ks sl si we ki hw nu b a) (co := co) (nb := nb) (cm := fun u => zwr hw nu u 8) (t := ((true, 0, nx, ns, 0) : zMR)) ⟨by show 0 < 256; decide, hns, Nat.le_refl _, fun _ k hk => absurd hk (Nat.not_lt_zero k)⟩ o1 (fun v hv => zwr_lt o3 hv 8) nu o3
      have hval : zo (bif (zmu (fun b a => zmf ro lo ks sl si we ki hw nu b a) co nb (fun u => zwr hw nu u 8) ((true, 0, nx, ns, 0) : zMR) nu).1 then some (zct co (zcpo bx (zmu (fun b a => zmf ro lo ks sl si we ki hw nu b a) co nb (fun u => zwr hw nu u 8) ((true, 0, nx, ns, 0) : zMR) nu).2.2.1 (zmu (fun b a => zmf ro lo ks sl si we ki hw nu b a) co nb (fun u => zwr hw nu u 8) ((true, 0, nx, ns, 0) : zMR) nu).2.2.2.2) (zmu (fun b a => zmf ro lo ks sl si we ki hw nu b a) co nb (fun u => zwr hw nu u 8) ((true, 0, nx, ns, 0) : zMR) nu).2.2.2.2) else none) = zo (bif (zbr (zff ro lo ks sl si we ki ap tg nu) co nb (fun u => zco tg nu u nu) ((bn, us, 0, 0) : zCh) nu).1 then some (zbr (zff ro lo ks sl si we ki ap tg nu) co nb (fun u => zco tg nu u nu) ((bn, us, 0, 0) : zCh) nu).2.2.2.2.2 else none) := by
        rw [← r1]
        cases hz : (zbr (zff ro lo ks sl si we ki ap tg nu) co nb (fun u => zco tg nu u nu) ((bn, us, 0, 0) : zCh) nu).1 with
        | false => rfl
        | true =>
          rw [cond_true, cond_true, (r2 hz).2.2.2]
          refine congrArg (fun x => zo (some x)) (zct_cg _ (fun i hi => ?_))
          show co ((zcpo bx _ _ i).getD 0) = _
          unfold zcpo
          rw [if_pos hi]
      have hCo : zCo co nb (zbr (zff ro lo ks sl si we ki ap tg nu) co nb (fun u => zco tg nu u nu) ((bn, us, 0, 0) : zCh) nu).2.2.1 (zbr (zff ro lo ks sl si we ki ap tg nu) co nb (fun u => zco tg nu u nu) ((bn, us, 0, 0) : zCh) nu).2.2.2.1 (bif (zbr (zff ro lo ks sl si we ki ap tg nu) co nb (fun u => zco tg nu u nu) ((bn, us, 0, 0) : zCh) nu).1 then (zbr (zff ro lo ks sl si we ki ap tg nu) co nb (fun u => zco tg nu u nu) ((bn, us, 0, 0) : zCh) nu).2.2.2.2.1 else 0) (bif (zbr (zff ro lo ks sl si we ki ap tg nu) co nb (fun u => zco tg nu u nu) ((bn, us, 0, 0) : zCh) nu).1 then (zbr (zff ro lo ks sl si we ki ap tg nu) co nb (fun u => zco tg nu u nu) ((bn, us, 0, 0) : zCh) nu).2.2.2.2.2 else 0) (zbr (zff ro lo ks sl si we ki ap tg nu) co nb (fun u => zco tg nu u nu) ((bn, us, 0, 0) : zCh) nu).1 false (bif (zmu (fun b a => zmf ro lo ks sl si we ki hw nu b a) co nb (fun u => zwr hw nu u 8) ((true, 0, nx, ns, 0) : zMR) nu).1 then some (zmu (fun b a => zmf ro lo ks sl si we ki hw nu b a) co nb (fun u => zwr hw nu u 8) ((true, 0, nx, ns, 0) : zMR) nu).2.2.2.2 else none) false (bif (zmu (fun b a => zmf ro lo ks sl si we ki hw nu b a) co nb (fun u => zwr hw nu u 8) ((true, 0, nx, ns, 0) : zMR) nu).1 then zcpo bx (zmu (fun b a => zmf ro lo ks sl si we ki hw nu b a) co nb (fun u => zwr hw nu u 8) ((true, 0, nx, ns, 0) : zMR) nu).2.2.1 (zmu (fun b a => zmf ro lo ks sl si we ki hw nu b a) co nb (fun u => zwr hw nu u 8) ((true, 0, nx, ns, 0) : zMR) nu).2.2.2.2 else bx) (bif (zmu (fun b a => zmf ro lo ks sl si we ki hw nu b a) co nb (fun u => zwr hw nu u 8) ((true, 0, nx, ns, 0) : zMR) nu).1 then zcpn sx (zmu (fun b a => zmf ro lo ks sl si we ki hw nu b a) co nb (fun u => zwr hw nu u 8) ((true, 0, nx, ns, 0) : zMR) nu).2.2.2.1 (zmu (fun b a => zmf ro lo ks sl si we ki hw nu b a) co nb (fun u => zwr hw nu u 8) ((true, 0, nx, ns, 0) : zMR) nu).2.2.2.2 else sx) := by
        refine ⟨?_, b2, b3, ?_, by rw [Bool.and_false], ?_, ?_, ?_, ?_⟩
        · cases (zbr (zff ro lo ks sl si we ki ap tg nu) co nb (fun u => zco tg nu u nu) ((bn, us, 0, 0) : zCh) nu).1 with
          | false => exact Nat.zero_le _
          | true => exact b1
        · cases (zmu (fun b a => zmf ro lo ks sl si we ki hw nu b a) co nb (fun u => zwr hw nu u 8) ((true, 0, nx, ns, 0) : zMR) nu).1 with
          | false => exact q4
          | true => exact zcpn_b q4 m2
        · rw [← r1]
          cases hz : (zbr (zff ro lo ks sl si we ki ap tg nu) co nb (fun u => zco tg nu u nu) ((bn, us, 0, 0) : zCh) nu).1 with
          | false => rfl
          | true => rw [cond_true, cond_true, cond_true, (r2 hz).2.1]
        · intro hz
          rw [hz]; rfl
        · intro i hi
          cases hz : (zbr (zff ro lo ks sl si we ki ap tg nu) co nb (fun u => zco tg nu u nu) ((bn, us, 0, 0) : zCh) nu).1 with
          | false => rw [hz] at hi; exact absurd hi (Nat.not_lt_zero i)
          | true =>
            rw [hz, cond_true, (r2 hz).2.1] at hi
            rw [← r1, hz, cond_true, cond_true]
            have p3 := (r2 hz).2.2.1 i hi
            unfold zcpo zcpn
            rw [if_pos hi, if_pos hi]
            exact p3
        · intro hz
          rw [← r1, hz, cond_true, cond_true, cond_true, (r2 hz).2.2.2, (r2 hz).2.1]
          refine (zct_cg _ (fun i hi => ?_)).symm
          unfold zcpo
          rw [if_pos hi]
      refine ⟨0, zo (bif (zbr (zff ro lo ks sl si we ki ap tg nu) co nb (fun u => zco tg nu u nu) ((bn, us, 0, 0) : zCh) nu).1 then some (zbr (zff ro lo ks sl si we ki ap tg nu) co nb (fun u => zco tg nu u nu) ((bn, us, 0, 0) : zCh) nu).2.2.2.2.2 else none), (wX ad cA ro lo co ks nb sl si we ki ap tg nu (zbr (zff ro lo ks sl si we ki ap tg nu) co nb (fun u => zco tg nu u nu) ((bn, us, 0, 0) : zCh) nu).2.2.1 (zbr (zff ro lo ks sl si we ki ap tg nu) co nb (fun u => zco tg nu u nu) ((bn, us, 0, 0) : zCh) nu).2.2.2.1 (bif (zbr (zff ro lo ks sl si we ki ap tg nu) co nb (fun u => zco tg nu u nu) ((bn, us, 0, 0) : zCh) nu).1 then (zbr (zff ro lo ks sl si we ki ap tg nu) co nb (fun u => zco tg nu u nu) ((bn, us, 0, 0) : zCh) nu).2.2.2.2.1 else 0) (bif (zbr (zff ro lo ks sl si we ki ap tg nu) co nb (fun u => zco tg nu u nu) ((bn, us, 0, 0) : zCh) nu).1 then (zbr (zff ro lo ks sl si we ki ap tg nu) co nb (fun u => zco tg nu u nu) ((bn, us, 0, 0) : zCh) nu).2.2.2.2.2 else 0) (zbr (zff ro lo ks sl si we ki ap tg nu) co nb (fun u => zco tg nu u nu) ((bn, us, 0, 0) : zCh) nu).1 false ob oc lc fb fs), (wM am cA 0 nb ro lo co ks nu si we ki hw sl (bif (zmu (fun b a => zmf ro lo ks sl si we ki hw nu b a) co nb (fun u => zwr hw nu u 8) ((true, 0, nx, ns, 0) : zMR) nu).1 then some (zmu (fun b a => zmf ro lo ks sl si we ki hw nu b a) co nb (fun u => zwr hw nu u 8) ((true, 0, nx, ns, 0) : zMR) nu).2.2.2.2 else none) false (bif (zmu (fun b a => zmf ro lo ks sl si we ki hw nu b a) co nb (fun u => zwr hw nu u 8) ((true, 0, nx, ns, 0) : zMR) nu).1 then zcpo bx (zmu (fun b a => zmf ro lo ks sl si we ki hw nu b a) co nb (fun u => zwr hw nu u 8) ((true, 0, nx, ns, 0) : zMR) nu).2.2.1 (zmu (fun b a => zmf ro lo ks sl si we ki hw nu b a) co nb (fun u => zwr hw nu u 8) ((true, 0, nx, ns, 0) : zMR) nu).2.2.2.2 else bx) (bif (zmu (fun b a => zmf ro lo ks sl si we ki hw nu b a) co nb (fun u => zwr hw nu u 8) ((true, 0, nx, ns, 0) : zMR) nu).1 then zcpn sx (zmu (fun b a => zmf ro lo ks sl si we ki hw nu b a) co nb (fun u => zwr hw nu u 8) ((true, 0, nx, ns, 0) : zMR) nu).2.2.2.1 (zmu (fun b a => zmf ro lo ks sl si we ki hw nu b a) co nb (fun u => zwr hw nu u 8) ((true, 0, nx, ns, 0) : zMR) nu).2.2.2.2 else sx) (zmu (fun b a => zmf ro lo ks sl si we ki hw nu b a) co nb (fun u => zwr hw nu u 8) ((true, 0, nx, ns, 0) : zMR) nu).2.2.2.2 (zmu (fun b a => zmf ro lo ks sl si we ki hw nu b a) co nb (fun u => zwr hw nu u 8) ((true, 0, nx, ns, 0) : zMR) nu).2.2.1 (zmu (fun b a => zmf ro lo ks sl si we ki hw nu b a) co nb (fun u => zwr hw nu u 8) ((true, 0, nx, ns, 0) : zMR) nu).2.2.2.1 pt), 0, 0, by decide, by decide, by decide, ⟨_, _, _, _, _, _, _, _, _, _, _, _, _, _, _, _, _, _, _, _, _, _, _, _, _, _, _, _, _, _, _, _, _, rfl, rfl, ok, hro, hHW, hCo, hoo, m2, hpt⟩, zmi_mono (w_choose (nI mo) (c_choose_r ok q2 q3 mo hm.2 hlt)) ?_, zmi_mono (c_M_choose_r (zok0 ok) hh hns mo hm.2 hlt) ?_, c_M_thrown⟩
      · rintro r w2 ⟨rfl, v9, w9, g, ⟨rfl, rfl⟩, hg, rfl⟩
        exact ⟨rfl, g, fun _ => hg, rfl⟩
      · rintro r w2 ⟨rfl, rfl⟩
        exact ⟨fun _ => hval, rfl⟩
    · exact hE ro lo co ks nb sl si we ki ap tg nu bn us nh ct mk ex ob oc lc fb fs cd hw bx sx cn nx ns pt mo f ok hro hHW ⟨q1, q2, q3, q4, rfl, rfl, q7, q8, q9⟩ hoo hns hpt hm.2 hge
  · refine ⟨1, 0, (wX ad cA ro lo co ks nb sl si we ki ap tg nu bn us nh ct mk ex ob oc lc fb fs), (wM am cA 1 nb ro lo co ks nu si we ki hw sl (bif mk then some nh else none) (mk && ex) bx sx cn nx ns pt), 1, 6, by decide, by decide, by decide, ⟨_, _, _, _, _, _, _, _, _, _, _, _, _, _, _, _, _, _, _, _, _, _, _, _, _, _, _, _, _, _, _, _, _, rfl, rfl, ok, hro, hHW, ⟨q1, q2, q3, q4, rfl, rfl, q7, q8, q9⟩, hoo, hns, hpt⟩, zmi_mono (w_choose_x1 p0 (c_choose_x1 hl p0 h1)) ?_, zmi_mono (c_M_choose_x1 p0 h1) ?_, c_M_thrown⟩
    · rintro r w2 ⟨rfl, rfl⟩
      exact ⟨rfl, f, fun q => absurd q (by decide), rfl⟩
    · rintro r w2 ⟨rfl, rfl⟩
      exact ⟨fun q => absurd q (by decide), rfl⟩
