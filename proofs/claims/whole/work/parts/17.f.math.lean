/-! ===== ways: lists of sets; which is less ===== -/
def zwC (O : Nat → Option Nat) (co : Nat → Nat) : List Nat → Nat
  | [] => 0
  | f :: w => co ((O f).getD 0) + zwC O co w
def zlP (O : Nat → Option Nat) : List Nat → List Nat → Prop
  | [], _ => False
  | _ :: _, [] => False
  | f :: w, g :: v => (O f).getD 0 < (O g).getD 0 ∨ ((O f).getD 0 = (O g).getD 0 ∧ (f < g ∨ (f = g ∧ zlP O w v)))
/-- the way w is less than the way v: cost, number, then box and set at the first place where they differ -/
def zLt (O : Nat → Option Nat) (co : Nat → Nat) (w v : List Nat) : Prop := zwC O co w < zwC O co v ∨ (zwC O co w = zwC O co v ∧ (w.length < v.length ∨ (w.length = v.length ∧ zlP O w v)))
theorem zlP_tr {O : Nat → Option Nat} : ∀ w v x, zlP O w v → zlP O v x → zlP O w x
  | [], _, _, h, _ => h.elim
  | _ :: _, [], _, h, _ => h.elim
  | _ :: _, _ :: _, [], _, h => h.elim
  | f :: w, g :: v, h :: x, h1, h2 => by
    have ih := zlP_tr (O := O) w v x
    simp only [zlP] at h1 h2 ⊢
    rcases h1 with a | ⟨a, b | ⟨b, c⟩⟩ <;> rcases h2 with d | ⟨d, e | ⟨e, k⟩⟩ <;> first | (left; omega) | (right; refine ⟨by omega, ?_⟩; first | (left; omega) | (right; exact ⟨by omega, ih c k⟩))
theorem zlP_tri {O : Nat → Option Nat} : ∀ w v, w.length = v.length → ¬ zlP O w v → ¬ zlP O v w → w = v
  | [], [], _, _, _ => rfl
  | [], _ :: _, h, _, _ => by cases h
  | _ :: _, [], h, _, _ => by cases h
  | f :: w, g :: v, h, h1, h2 => by
    simp only [zlP] at h1 h2
    have hb : (O f).getD 0 = (O g).getD 0 := by
      rcases Nat.lt_trichotomy ((O f).getD 0) ((O g).getD 0) with q | q | q
      · exact absurd (Or.inl q) h1
      · exact q
      · exact absurd (Or.inl q) h2
    have he : f = g := by
      rcases Nat.lt_trichotomy f g with q | q | q
      · exact absurd (Or.inr ⟨hb, Or.inl q⟩) h1
      · exact q
      · exact absurd (Or.inr ⟨hb.symm, Or.inl q⟩) h2
    have ht := zlP_tri (O := O) w v (by simpa using h) (fun q => h1 (Or.inr ⟨hb, Or.inr ⟨he, q⟩⟩)) (fun q => h2 (Or.inr ⟨hb.symm, Or.inr ⟨he.symm, q⟩⟩))
    rw [he, ht]
theorem zlP_irr {O : Nat → Option Nat} : ∀ w, ¬ zlP O w w
  | [], h => h.elim
  | f :: w, h => by
    have ih := zlP_irr (O := O) w
    simp only [zlP] at h
    rcases h with a | ⟨_, b | ⟨_, c⟩⟩
    · omega
    · omega
    · exact ih c
theorem zLt_tr {O : Nat → Option Nat} {co : Nat → Nat} {w v x : List Nat} (h1 : zLt O co w v) (h2 : zLt O co v x) : zLt O co w x := by
  have ih := zlP_tr (O := O) w v x
  unfold zLt at *
  rcases h1 with a | ⟨a, b | ⟨b, c⟩⟩ <;> rcases h2 with d | ⟨d, e | ⟨e, k⟩⟩ <;> first | (left; omega) | (right; refine ⟨by omega, ?_⟩; first | (left; omega) | (right; exact ⟨by omega, ih c k⟩))
theorem zLt_tri {O : Nat → Option Nat} {co : Nat → Nat} {w v : List Nat} (h1 : ¬ zLt O co w v) (h2 : ¬ zLt O co v w) : w = v := by
  unfold zLt at *
  have hc : zwC O co w = zwC O co v := by
    rcases Nat.lt_trichotomy (zwC O co w) (zwC O co v) with q | q | q
    · exact absurd (Or.inl q) h1
    · exact q
    · exact absurd (Or.inl q) h2
  have hl : w.length = v.length := by
    rcases Nat.lt_trichotomy w.length v.length with q | q | q
    · exact absurd (Or.inr ⟨hc, Or.inl q⟩) h1
    · exact q
    · exact absurd (Or.inr ⟨hc.symm, Or.inl q⟩) h2
  exact zlP_tri w v hl (fun q => h1 (Or.inr ⟨hc, Or.inr ⟨hl, q⟩⟩)) (fun q => h2 (Or.inr ⟨hc.symm, Or.inr ⟨hl.symm, q⟩⟩))
theorem zLt_irr {O : Nat → Option Nat} {co : Nat → Nat} (w : List Nat) : ¬ zLt O co w w := by
  have ih := zlP_irr (O := O) w
  unfold zLt
  rintro (a | ⟨_, b | ⟨_, c⟩⟩)
  · omega
  · omega
  · exact ih c
theorem zLt_cons {O : Nat → Option Nat} {co : Nat → Nat} {f : Nat} {w v : List Nat} : zLt O co (f :: w) (f :: v) ↔ zLt O co w v := by
  unfold zLt
  simp only [zlP, zwC, List.length_cons]
  constructor
  · rintro (a | ⟨a, b | ⟨b, c | ⟨_, c | ⟨_, c⟩⟩⟩⟩)
    · left; omega
    · right; exact ⟨by omega, Or.inl (by omega)⟩
    · omega
    · omega
    · right; exact ⟨by omega, Or.inr ⟨by omega, c⟩⟩
  · rintro (a | ⟨a, b | ⟨b, c⟩⟩)
    · left; omega
    · right; exact ⟨by omega, Or.inl (by omega)⟩
    · right; exact ⟨by omega, Or.inr ⟨by omega, Or.inr ⟨trivial, Or.inr ⟨trivial, c⟩⟩⟩⟩
/-! ===== the partings, as lists ===== -/
def zLf (l : List Nat) : Nat → Nat := fun k => l.getD k 0
theorem zmx_cg {pt qt : Nat → Nat} : ∀ n, (∀ k, k < n → pt k = qt k) → zmx pt n = zmx qt n
  | 0, _ => rfl
  | n + 1, h => by
    show (if zmx pt n < pt n then pt n else zmx pt n) = (if zmx qt n < qt n then qt n else zmx qt n)
    rw [zmx_cg n (fun k hk => h k (by omega)), h n (by omega)]
theorem zns_cg {pt qt : Nat → Nat} {nu : Nat} (h : ∀ k, k < nu → pt k = qt k) : ∀ u, u < nu ∨ u = 0 → zns pt nu u = (zns qt nu u).map (fun q => zcpn pt q nu)
  | 0, _ => rfl
  | u + 1, hu => by
    have hu : u + 1 < nu := by omega
    have e1 := h (u + 1) hu
    have e2 := zmx_cg (pt := pt) (qt := qt) (u + 1) (fun k hk => h k (by omega))
    by_cases c : qt (u + 1) ≤ zmx qt (u + 1)
    · rw [zns_t (by rw [e1, e2]; exact c), zns_t c]
      show some _ = some _
      congr 1
      funext k
      show (if u + 1 < k ∧ k < nu then 0 else if k = u + 1 then pt (u + 1) + 1 else pt k) = (if k < nu then (if u + 1 < k ∧ k < nu then 0 else if k = u + 1 then qt (u + 1) + 1 else qt k) else pt k)
      by_cases ck : k < nu
      · rw [if_pos ck, e1]
        by_cases c2 : u + 1 < k ∧ k < nu
        · rw [if_pos c2, if_pos c2]
        · rw [if_neg c2, if_neg c2]
          by_cases c3 : k = u + 1
          · rw [if_pos c3, if_pos c3]
          · rw [if_neg c3, if_neg c3]; exact h k ck
      · rw [if_neg ck, if_neg (fun q => ck q.2), if_neg (show ¬ k = u + 1 by omega)]
    · rw [zns_f (by rw [e1, e2]; exact c), zns_f c]
      exact zns_cg h u (by omega)
/-- all partings from l on, at most n of them -/
def zPl (nu : Nat) : Nat → List Nat → Option (List (List Nat))
  | 0, _ => none
  | n + 1, l => match zns (zLf l) nu (nu - 1) with
    | none => some [l]
    | some q => (zPl nu n ((List.range nu).map q)).map (l :: ·)
/-- the ways, one after another -/
def zfo (FM : Nat → Nat → Bool) (co : Nat → Nat) (nb nu : Nat) (p0 : Nat → Nat) : List (List Nat) → zM → zM
  | [], t => t
  | l :: ls, t => zfo FM co nb nu p0 ls (zon FM co nb nu (t.1, t.2.1, t.2.2.1, t.2.2.2.1, t.2.2.2.2.1, t.2.2.2.2.2.1, zcpn p0 (zLf l) nu))
theorem zcpn_in {f g : Nat → Nat} {j k : Nat} (h : k < j) : zcpn f g j k = g k := if_pos h
theorem zrn_fold {FM : Nat → Nat → Bool} {co : Nat → Nat} {nb nu : Nat} {p0 : Nat → Nat} : ∀ (n : Nat) (l : List Nat) (ls : List (List Nat)) (t : zM), zPl nu n l = some ls → t.2.2.2.2.2.2 = zcpn p0 (zLf l) nu → zrn FM co nb nu n t = some (zfo FM co nb nu p0 ls t)
  | 0, _, _, _, h, _ => by cases h
  | n + 1, l, ls, t, h, ht => by
    have hcg := zns_cg (pt := t.2.2.2.2.2.2) (qt := zLf l) (nu := nu) (fun k hk => by rw [ht]; exact zcpn_in hk) (nu - 1) (by omega)
    have et : t = (t.1, t.2.1, t.2.2.1, t.2.2.2.1, t.2.2.2.2.1, t.2.2.2.2.2.1, zcpn p0 (zLf l) nu) := by rw [← ht]
    cases hz : zns (zLf l) nu (nu - 1) with
    | none =>
      have hl : ls = [l] := by
        unfold zPl at h
        rw [hz] at h
        exact (Option.some.inj h).symm
      rw [zrn_n (by rw [zon_pt, hcg, hz]; rfl), hl]
      show some _ = some (zon FM co nb nu (t.1, t.2.1, t.2.2.1, t.2.2.2.1, t.2.2.2.2.1, t.2.2.2.2.2.1, zcpn p0 (zLf l) nu))
      rw [← et]
    | some q =>
      have hl : ∃ ls2, zPl nu n ((List.range nu).map q) = some ls2 ∧ ls = l :: ls2 := by
        unfold zPl at h
        rw [hz] at h
        have h : (zPl nu n ((List.range nu).map q)).map (l :: ·) = some ls := h
        cases hr : zPl nu n ((List.range nu).map q) with
        | none => rw [hr] at h; cases h
        | some ls2 => rw [hr] at h; exact ⟨ls2, rfl, (Option.some.inj h).symm⟩
      obtain ⟨ls2, h2, rfl⟩ := hl
      rw [zrn_s (q := zcpn t.2.2.2.2.2.2 q nu) (by rw [zon_pt, hcg, hz]; rfl)]
      have hq : zcpn t.2.2.2.2.2.2 q nu = zcpn p0 (zLf ((List.range nu).map q)) nu := by
        funext k
        unfold zcpn
        by_cases c : k < nu
        · rw [if_pos c, if_pos c]
          unfold zLf
          simp [c]
        · rw [if_neg c, if_neg c, ht]
          exact if_neg c
      rw [zrn_fold n _ ls2 _ h2 hq]
      have e9 : zfo FM co nb nu p0 (l :: ls2) t = zfo FM co nb nu p0 ls2 (zon FM co nb nu t) := by
        show zfo FM co nb nu p0 ls2 (zon FM co nb nu (t.1, t.2.1, t.2.2.1, t.2.2.2.1, t.2.2.2.2.1, t.2.2.2.2.2.1, zcpn p0 (zLf l) nu)) = _
        rw [← et]
      rw [e9]
      cases ls2 with
      | nil =>
        exfalso
        cases n with
        | zero => cases h2
        | succ n =>
          unfold zPl at h2
          cases hx : zns (zLf ((List.range nu).map q)) nu (nu - 1) with
          | none =>
            rw [hx] at h2
            have h2 : (some [(List.range nu).map q] : Option (List (List Nat))) = some [] := h2
            cases h2
          | some y =>
            rw [hx] at h2
            have h2 : (zPl nu n ((List.range nu).map y)).map ((List.range nu).map q :: ·) = some [] := h2
            cases hy : zPl nu n ((List.range nu).map y) with
            | none => rw [hy] at h2; cases h2
            | some z => rw [hy] at h2; cases h2
      | cons a as => rfl
