/-! ===== the exact choice is the same on both sides ===== -/
theorem zli_inj {g h : Nat → Nat} : ∀ n k, zli g n k = zli h n k → ∀ j, k ≤ j → j < k + n → g j = h j
  | 0, k, _, j, h1, h2 => by omega
  | n + 1, k, e, j, h1, h2 => by
    have e : g k :: zli g n (k + 1) = h k :: zli h n (k + 1) := e
    by_cases c : j = k
    · subst c; exact (List.cons.inj e).1
    · exact zli_inj n (k + 1) (List.cons.inj e).2 j (by omega) (by omega)
def zckl (nu : Nat) : Bool := (zWs 64 (2 ^ nu - 1)).all (fun v => decide (v.length ≤ 6) && v.all (fun f => decide (1 ≤ f) && decide (f ≤ 2 ^ nu - 1)))
set_option maxRecDepth 100000 in
theorem zckl_all : ∀ nu, nu < 7 → zckl nu = true := by decide +kernel
theorem zWs_bnd {nu : Nat} (h : nu ≤ 6) {v : List Nat} (hv : v ∈ zWs 64 (2 ^ nu - 1)) : v.length ≤ 6 ∧ ∀ f, f ∈ v → 1 ≤ f ∧ f ≤ 2 ^ nu - 1 := by
  have e := zckl_all nu (by omega)
  unfold zckl at e
  simp only [Bool.and_eq_true, List.all_eq_true, decide_eq_true_eq] at e
  exact e v hv
theorem zy64 : ∀ nu, nu < 7 → 2 ^ nu - 1 < 64 := by decide
theorem zcan_pos {s f : Nat} (h : f ∈ zcan s) : 1 ≤ f := by
  rcases Nat.eq_zero_or_pos f with q | q
  · subst q
    exact absurd (Nat.zero_and _) (zcan_mem.mp h).2.2
  · exact q
theorem zexact_math {FF FM : Nat → Nat → Bool} (hF : ∀ b a, FM b a = FF a b) {co : Nat → Nat} {nb nu : Nat} (hb : nb ≤ 6) (hn : nu ≤ 6) (hc : ∀ x, co x ≤ 1000) {bn us : Nat → Nat} (q2 : ∀ i, bn i < 6) (q3 : ∀ i, us i < 256) {ob : Nat → Option Nat} {oc : Nat → Nat} (hoo : (∀ x, oc x ≤ 1000) ∧ ∀ x b, ob x = some b → b < 6) {lc : Nat → Option Nat} {fb fs : Nat → Nat} {bx : Nat → Option Nat} {sx : Nat → Nat} (q4 : ∀ i, sx i < 256) {cn : Nat} {nx : Nat → Option Nat} {ns pt : Nat → Nat} (hns : ∀ x, ns x < 256) (hpt : ∀ x, pt x < 9) {OO : zO} {AA : zT} {PB : zX} (hOO : OO = zfr (zos FF co nb) ((zclr ob 64, oc) : zO) 1 ((2 ^ nu - 1) + 1)) (hAA : AA = zall OO.1 OO.2 (2 ^ nu - 1) (zt0 lc fb fs)) (hPB : PB = zpb OO.1 OO.2 AA (2 ^ nu - 1) (((2 ^ nu - 1), bn, us, 0, 0) : zX)) :
    zMk nu ((none, bx, sx, cn, nx, ns, zcpn pt (fun _ => 0) nu) : zM) ∧ zokO OO ∧ ∃ fin, zrn FM co nb nu 300 ((none, bx, sx, cn, nx, ns, zcpn pt (fun _ => 0) nu) : zM) = some fin ∧ zMk nu fin ∧ zo (fin.1.map (zct co fin.2.1)) = zo (bif (AA.1 (2 ^ nu - 1)).isSome then some PB.2.2.2.2 else none) ∧ zCo co nb PB.2.1 PB.2.2.1 PB.2.2.2.1 PB.2.2.2.2 (AA.1 (2 ^ nu - 1)).isSome (AA.1 (2 ^ nu - 1)).isSome fin.1 fin.1.isSome fin.2.1 fin.2.2.1 := by
  have hFM : FM = fun b a => FF a b := funext fun b => funext fun a => hF b a
  subst hFM
  have hy := zy64 nu (by omega)
  generalize hyy : 2 ^ nu - 1 = y at *
  have hM0 : zMk nu ((none, bx, sx, cn, nx, ns, zcpn pt (fun _ => 0) nu) : zM) := by
    refine ⟨fun u hu => ?_, fun k => ?_, hns, q4, fun q h => by cases h⟩
    · show zcpn pt (fun _ => 0) nu u ≤ u
      rw [zcpn_in hu]; exact Nat.zero_le _
    · show (if k < nu then 0 else pt k) < 9
      by_cases c : k < nu
      · rw [if_pos c]; decide
      · rw [if_neg c]; exact hpt k
  have hO : zokO OO := by
    rw [hOO]
    refine zfr_ok ⟨hoo.1, fun x b h => ?_⟩ _ (fun x t _ ht => zos_ok hb hc ht)
    have h : (if x < 64 then none else ob x) = some b := h
    by_cases c : x < 64
    · rw [if_pos c] at h; cases h
    · rw [if_neg c] at h; exact hoo.2 x b h
  obtain ⟨ls, p1, p2, p3⟩ := zparts hn
  rw [hyy] at p3
  have hpt0 : zcpn pt (fun _ => 0) nu = zcpn pt (zLf (List.replicate nu 0)) nu := by
    funext k
    unfold zcpn
    by_cases c : k < nu
    · rw [if_pos c, if_pos c]
      unfold zLf
      simp [c]
    · rw [if_neg c, if_neg c]
  have hfin := zrn_fold (FM := fun b a => FF a b) (co := co) (nb := nb) (p0 := pt) 300 _ ls ((none, bx, sx, cn, nx, ns, zcpn pt (fun _ => 0) nu) : zM) p1 hpt0
  have hbest := zfo_best (FM := fun b a => FF a b) (co := co) (nb := nb) (nu := nu) (p0 := pt) ls ((none, bx, sx, cn, nx, ns, zcpn pt (fun _ => 0) nu) : zM) [] p2 (Or.inl ⟨rfl, fun v hv => by cases hv⟩)
  have hMf := zrn_ok hb (show nu ≤ 8 by omega) hM0 hfin
  generalize zfo (fun b a => FF a b) co nb nu pt ls ((none, bx, sx, cn, nx, ns, zcpn pt (fun _ => 0) nu) : zM) = fin at hfin hbest hMf
  rw [List.nil_append] at hbest
  have hoff := (zoff (FF := FF) (co := co) (nb := nb) (ob := ob) (oc := oc) (y + 1) (by omega)).1
  rw [← hOO] at hoff
  have hbst : zJv (fun s => zche (FF s) co nb) co fin (ls.map (zwy nu)) := hbest
  generalize hOf : (fun s => zche (FF s) co nb) = O at hbst
  have hoff : ∀ x, 1 ≤ x → x < y + 1 → OO.1 x = O x ∧ ∀ b, O x = some b → OO.2 x = co b := by
    intro x h1 h2
    rw [← hOf]
    exact hoff x h1 h2
  have hlt : ∀ x b, O x = some b → b < nb := by
    intro x b h
    rw [← hOf] at h
    exact (zche_lt h).1
  have htb : zTb O co AA y := by
    rw [hAA]
    refine zall_tb hy (fun s hs f hf => hoff f (zcan_pos hf) ?_) y (Nat.le_refl _)
    have := (zcan_mem.mp hf).1
    omega
  refine ⟨hM0, hO, fin, hfin, hMf, ?_⟩
  rcases htb with ⟨t1, t2⟩ | ⟨w, t1, t2, t3, t4, t5, t6⟩
  · rcases hbst with ⟨e1, e2⟩ | ⟨q, e1, e2, e3, e4, e5⟩
    · have hP : PB = ((y, bn, us, 0, 0) : zX) := by rw [hPB]; unfold zpb; rw [t1]; rfl
      rw [hP, t1, e1]
      exact ⟨rfl, Nat.zero_le _, q2, q3, hMf.2.2.2.1, rfl, rfl, fun _ => rfl, fun i hi => absurd hi (Nat.not_lt_zero i), fun h => by cases h⟩
    · exact absurd e4 (t2 _ ((p3 _).mp e3))
  · rcases hbst with ⟨e1, e2⟩ | ⟨q, e1, e2, e3, e4, e5⟩
    · exact absurd t3 (e2 _ ((p3 _).mpr t2))
    · have hw : zli fin.2.2.1 q 0 = w := zLt_tri (t6 _ ((p3 _).mp e3) e4) (e5 _ ((p3 _).mpr t2) t3)
      have hq : q = w.length := by rw [← hw, zli_len]
      obtain ⟨hl6, hbd⟩ := zWs_bnd hn (by rw [hyy]; exact t2)
      rw [hyy] at hbd
      have hsome : ∀ f, f ∈ w → ∃ b, O f = some b := by
        intro f hf
        have := t3 f hf
        cases hz : O f with
        | none => rw [hz] at this; cases this
        | some b => exact ⟨b, rfl⟩
      obtain ⟨b2, u2, x1, x2, x3, x4⟩ := zexn_path (O := O) (co := co) (ob := OO.1) (oc := OO.2) (fs := AA.2.2) w y bn us 0 0 t1 (fun f hf => by
        obtain ⟨h1, h2⟩ := hbd f hf
        obtain ⟨z1, z2⟩ := hoff f h1 (by omega)
        obtain ⟨b, hb9⟩ := hsome f hf
        exact ⟨z1, by rw [z2 b hb9, hb9]; rfl⟩)
      have hP : PB = ((0, b2, u2, w.length, zwC O co w) : zX) := by
        rw [hPB]; unfold zpb; rw [t4]
        show zexn OO.1 OO.2 AA.2.2 ((y, bn, us, 0, 0) : zX) 6 = _
        have := zexn_up (ob := OO.1) (oc := OO.2) (fs := AA.2.2) (t := ((y, bn, us, 0, 0) : zX)) (i := w.length) (by rw [x1]; exact Nat.lt_irrefl 0) (6 - w.length)
        rw [show w.length + (6 - w.length) = 6 by omega] at this
        rw [this, x1, Nat.zero_add, Nat.zero_add]
      have hsx : ∀ j, j < w.length → fin.2.2.1 j = u2 j := by
        intro j hj
        refine zli_inj w.length 0 ?_ j (Nat.zero_le _) (by omega)
        rw [x3, ← hq]; exact hw
      have hu2 : ∀ j, j < w.length → u2 j ∈ w := by
        intro j hj
        have : u2 j ∈ zli u2 w.length 0 := (zli_mem _ 0).mpr ⟨j, Nat.zero_le _, by omega, rfl⟩
        rw [x3] at this
        exact this
      have hct : zct co fin.2.1 w.length = zwC O co w := by
        rw [zct_li (O := O) (ns := fin.2.2.1) w.length (fun j hj => e2 j (by omega)), ← hq, hw]
      rw [hP, t4, e1, hq]
      refine ⟨?_, by show w.length ≤ 8; omega, fun i => ?_, fun i => ?_, hMf.2.2.2.1, rfl, rfl, fun h => (nomatch (show true = false from h)), fun i hi => ?_, fun _ => hct.symm⟩
      · show zo (some (zct co fin.2.1 w.length)) = zo (some (zwC O co w))
        rw [hct]
      · show b2 i < 6
        by_cases c : i < w.length
        · obtain ⟨b, hb9⟩ := hsome _ (hu2 i c)
          rw [x4 i (Nat.zero_le _) (by omega), hb9]
          exact Nat.lt_of_lt_of_le (hlt _ _ hb9) hb
        · rw [(x2 i (Or.inr (by omega))).1]; exact q2 i
      · show u2 i < 256
        by_cases c : i < w.length
        · have := (hbd _ (hu2 i c)).2
          omega
        · rw [(x2 i (Or.inr (by omega))).2]; exact q3 i
      · have hi : i < w.length := hi
        obtain ⟨b, hb9⟩ := hsome _ (hu2 i hi)
        have hb2 : b2 i = b := by rw [x4 i (Nat.zero_le _) (by omega), hb9]; rfl
        refine ⟨?_, hsx i hi, ?_⟩
        · show fin.2.1 i = some (b2 i)
          rw [e2 i (by omega), hsx i hi, hb9, hb2]
        · show b2 i < nb
          rw [hb2]; exact hlt _ _ hb9
