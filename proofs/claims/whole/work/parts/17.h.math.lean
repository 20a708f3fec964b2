/-! ===== the reference keeps the least way ===== -/
def zfea (O : Nat → Option Nat) (v : List Nat) : Prop := ∀ f, f ∈ v → (O f).isSome = true
/-- the way of a parting -/
def zwy (nu : Nat) (l : List Nat) : List Nat := zli (zwn (zLf l) (fun _ => 0) nu).1 (zwn (zLf l) (fun _ => 0) nu).2 0
theorem zwn_same {pt qt ns : Nat → Nat} : ∀ n, (∀ k, k < n → pt k = qt k) → (zwn pt ns n).2 = (zwn qt (fun _ => 0) n).2 ∧ ∀ k, k < 8 → (zwn pt ns n).1 k = (zwn qt (fun _ => 0) n).1 k
  | 0, _ => ⟨rfl, fun k hk => by show (if k < 8 then 0 else ns k) = (if k < 8 then 0 else 0); rw [if_pos hk, if_pos hk]⟩
  | n + 1, h => by
    obtain ⟨e1, e2⟩ := zwn_same (ns := ns) n (fun k hk => h k (by omega))
    have e3 := h n (by omega)
    constructor
    · show (if (zwn pt ns n).2 < pt n + 1 then pt n + 1 else (zwn pt ns n).2) = (if (zwn qt (fun _ => 0) n).2 < qt n + 1 then qt n + 1 else (zwn qt (fun _ => 0) n).2)
      rw [e1, e3]
    · intro k hk
      show (if k = pt n then (zwn pt ns n).1 (pt n) ||| 2 ^ n else (zwn pt ns n).1 k) = (if k = qt n then (zwn qt (fun _ => 0) n).1 (qt n) ||| 2 ^ n else (zwn qt (fun _ => 0) n).1 k)
      rw [e3]
      by_cases c : k = qt n
      · rw [if_pos c, if_pos c, e2 (qt n) (by omega)]
      · rw [if_neg c, if_neg c, e2 k hk]
theorem zmg_iff {FM : Nat → Nat → Bool} {co : Nat → Nat} {nb nu : Nat} {t : zM} : zmg FM co nb nu t = true ↔ zfea (fun s => zche (fun b => FM b s) co nb) (zli (zwn t.2.2.2.2.2.2 t.2.2.2.2.2.1 nu).1 (zwn t.2.2.2.2.2.2 t.2.2.2.2.2.1 nu).2 0) := by
  constructor
  · intro h f hf
    obtain ⟨j, _, hj, e⟩ := (zli_mem _ 0).mp hf
    have hn : zwi FM co nb (zwn t.2.2.2.2.2.2 t.2.2.2.2.2.1 nu).1 (zwn t.2.2.2.2.2.2 t.2.2.2.2.2.1 nu).2 = none := Option.isNone_iff_eq_none.mp h
    have := zfst_all hn j (by omega)
    show (zche (fun b => FM b f) co nb).isSome = true
    rw [← e]
    cases hz : zche (fun b => FM b ((zwn t.2.2.2.2.2.2 t.2.2.2.2.2.1 nu).1 j)) co nb with
    | none =>
      have this : (zche (fun b => FM b ((zwn t.2.2.2.2.2.2 t.2.2.2.2.2.1 nu).1 j)) co nb).isNone = false := this
      rw [hz] at this; cases this
    | some b => rfl
  · intro h
    show (zwi FM co nb _ _).isNone = true
    cases hz : zwi FM co nb (zwn t.2.2.2.2.2.2 t.2.2.2.2.2.1 nu).1 (zwn t.2.2.2.2.2.2 t.2.2.2.2.2.1 nu).2 with
    | none => rfl
    | some k =>
      obtain ⟨h1, h2⟩ := zfst_lt hz
      have h3 := h _ ((zli_mem _ 0).mpr ⟨k, Nat.zero_le _, by omega, rfl⟩)
      have h2 : (zche (fun b => FM b ((zwn t.2.2.2.2.2.2 t.2.2.2.2.2.1 nu).1 k)) co nb).isNone = true := h2
      have h3 : (zche (fun b => FM b ((zwn t.2.2.2.2.2.2 t.2.2.2.2.2.1 nu).1 k)) co nb).isSome = true := h3
      cases hq : zche (fun b => FM b ((zwn t.2.2.2.2.2.2 t.2.2.2.2.2.1 nu).1 k)) co nb with
      | none => rw [hq] at h3; cases h3
      | some b => rw [hq] at h2; cases h2
def zJv (O : Nat → Option Nat) (co : Nat → Nat) (t : zM) (seen : List (List Nat)) : Prop := (t.1 = none ∧ ∀ v, v ∈ seen → ¬ zfea O v) ∨ ∃ q, t.1 = some q ∧ (∀ j, j < q → t.2.1 j = O (t.2.2.1 j)) ∧ zli t.2.2.1 q 0 ∈ seen ∧ zfea O (zli t.2.2.1 q 0) ∧ ∀ v, v ∈ seen → zfea O v → ¬ zLt O co v (zli t.2.2.1 q 0)
theorem zJv_keep {O : Nat → Option Nat} {co : Nat → Nat} {t t2 : zM} {seen : List (List Nat)} {v : List Nat} (h : zJv O co t seen) (e1 : t2.1 = t.1) (e2 : t2.2.1 = t.2.1) (e3 : t2.2.2.1 = t.2.2.1) (hv : zfea O v → ∃ q, t.1 = some q ∧ ¬ zLt O co v (zli t.2.2.1 q 0)) : zJv O co t2 (seen ++ [v]) := by
  unfold zJv
  rw [e1, e2, e3]
  rcases h with ⟨h1, h2⟩ | ⟨q, h1, h2, h3, h4, h5⟩
  · refine Or.inl ⟨h1, fun w hw => ?_⟩
    rcases List.mem_append.mp hw with q | q
    · exact h2 w q
    · rw [List.mem_singleton.mp q]
      intro z
      obtain ⟨q, e, _⟩ := hv z
      rw [h1] at e
      cases e
  · refine Or.inr ⟨q, h1, h2, List.mem_append_left _ h3, h4, fun w hw hf => ?_⟩
    rcases List.mem_append.mp hw with z | z
    · exact h5 w z hf
    · rw [List.mem_singleton.mp z] at hf ⊢
      obtain ⟨q9, e, z9⟩ := hv hf
      rw [h1] at e
      cases e
      exact z9
theorem zon_best {FM : Nat → Nat → Bool} {co : Nat → Nat} {nb nu : Nat} {p0 : Nat → Nat} {t : zM} {l : List Nat} {seen : List (List Nat)} (hl : (zwn (zLf l) (fun _ => 0) nu).2 ≤ 8) (h : zJv (fun s => zche (fun b => FM b s) co nb) co t seen) :
    zJv (fun s => zche (fun b => FM b s) co nb) co (zon FM co nb nu (t.1, t.2.1, t.2.2.1, t.2.2.2.1, t.2.2.2.2.1, t.2.2.2.2.2.1, zcpn p0 (zLf l) nu)) (seen ++ [zwy nu l]) := by
  obtain ⟨s1, s2⟩ := zwn_same (pt := zcpn p0 (zLf l) nu) (qt := zLf l) (ns := t.2.2.2.2.2.1) nu (fun k hk => zcpn_in hk)
  have hw : zli (zwn (zcpn p0 (zLf l) nu) t.2.2.2.2.2.1 nu).1 (zwn (zcpn p0 (zLf l) nu) t.2.2.2.2.2.1 nu).2 0 = zwy nu l := by
    unfold zwy
    rw [s1]
    exact zli_cg _ 0 (fun j _ hj => s2 j (by omega))
  generalize ht : ((t.1, t.2.1, t.2.2.1, t.2.2.2.1, t.2.2.2.2.1, t.2.2.2.2.2.1, zcpn p0 (zLf l) nu) : zM) = u
  have u1 : u.1 = t.1 := by rw [← ht]
  have u2 : u.2.1 = t.2.1 := by rw [← ht]
  have u3 : u.2.2.1 = t.2.2.1 := by rw [← ht]
  have hw : zli (zwn u.2.2.2.2.2.2 u.2.2.2.2.2.1 nu).1 (zwn u.2.2.2.2.2.2 u.2.2.2.2.2.1 nu).2 0 = zwy nu l := by rw [← ht]; exact hw
  have hgi := zmg_iff (FM := FM) (co := co) (nb := nb) (nu := nu) (t := u)
  rw [hw] at hgi
  cases hg : zmg FM co nb nu u with
  | false =>
    have e : zon FM co nb nu u = zmy FM co nb nu u := by unfold zon; rw [hg]; rfl
    rw [e]
    exact zJv_keep h u1 u2 u3 (fun q => by rw [hgi.mpr q] at hg; cases hg)
  | true =>
    have hf := hgi.mp hg
    have hn : zwi FM co nb (zwn u.2.2.2.2.2.2 u.2.2.2.2.2.1 nu).1 (zwn u.2.2.2.2.2.2 u.2.2.2.2.2.1 nu).2 = none := Option.isNone_iff_eq_none.mp hg
    have hnx : ∀ j, j < (zmy FM co nb nu u).2.2.2.1 → (zmy FM co nb nu u).2.2.2.2.1 j = (fun s => zche (fun b => FM b s) co nb) ((zmy FM co nb nu u).2.2.2.2.2.1 j) := by
      intro j hj
      have hj : j < (zwn u.2.2.2.2.2.2 u.2.2.2.2.2.1 nu).2 := hj
      show zcpo u.2.2.2.2.1 (zwf FM co nb (zwn u.2.2.2.2.2.2 u.2.2.2.2.2.1 nu).1) (zJ (zwi FM co nb (zwn u.2.2.2.2.2.2 u.2.2.2.2.2.1 nu).1 (zwn u.2.2.2.2.2.2 u.2.2.2.2.2.1 nu).2) (zwn u.2.2.2.2.2.2 u.2.2.2.2.2.1 nu).2) j = _
      rw [hn]
      unfold zcpo zJ
      rw [if_pos hj]
      rfl
    cases hb : zmb co u.1 u.2.1 u.2.2.1 (zmy FM co nb nu u).2.2.2.1 (zmy FM co nb nu u).2.2.2.2.1 (zmy FM co nb nu u).2.2.2.2.2.1 with
    | false =>
      have e : zon FM co nb nu u = zmy FM co nb nu u := by unfold zon; rw [hg, hb]; rfl
      rw [e]
      refine zJv_keep h u1 u2 u3 (fun _ => ?_)
      rcases h with ⟨h1, _⟩ | ⟨q, h1, h2, _⟩
      · rw [u1, h1] at hb; cases hb
      · refine ⟨q, h1, fun z => ?_⟩
        rw [u1, u2, u3, h1] at hb
        have := (zmb_eq (O := fun s => zche (fun b => FM b s) co nb) hnx h2).mpr (by
          show zLt _ co (zli (zwn u.2.2.2.2.2.2 u.2.2.2.2.2.1 nu).1 (zwn u.2.2.2.2.2.2 u.2.2.2.2.2.1 nu).2 0) _
          rw [hw]; exact z)
        rw [hb] at this
        cases this
    | true =>
      have e : zon FM co nb nu u = zkp (zmy FM co nb nu u) := by unfold zon; rw [hg, hb]; rfl
      rw [e]
      have hnew : zli (zcpn u.2.2.1 (zwn u.2.2.2.2.2.2 u.2.2.2.2.2.1 nu).1 (zwn u.2.2.2.2.2.2 u.2.2.2.2.2.1 nu).2) (zwn u.2.2.2.2.2.2 u.2.2.2.2.2.1 nu).2 0 = zwy nu l := by
        rw [← hw]
        exact zli_cg _ 0 (fun j _ hj => zcpn_in (by omega))
      refine Or.inr ⟨(zwn u.2.2.2.2.2.2 u.2.2.2.2.2.1 nu).2, rfl, fun j hj => ?_, ?_, ?_, ?_⟩
      · show zcpo u.2.1 (zmy FM co nb nu u).2.2.2.2.1 (zwn u.2.2.2.2.2.2 u.2.2.2.2.2.1 nu).2 j = zche (fun b => FM b (zcpn u.2.2.1 (zwn u.2.2.2.2.2.2 u.2.2.2.2.2.1 nu).1 (zwn u.2.2.2.2.2.2 u.2.2.2.2.2.1 nu).2 j)) co nb
        rw [zcpn_in hj]
        unfold zcpo
        rw [if_pos hj]
        exact hnx j hj
      · show zli (zcpn u.2.2.1 (zwn u.2.2.2.2.2.2 u.2.2.2.2.2.1 nu).1 (zwn u.2.2.2.2.2.2 u.2.2.2.2.2.1 nu).2) (zwn u.2.2.2.2.2.2 u.2.2.2.2.2.1 nu).2 0 ∈ _
        rw [hnew]
        exact List.mem_append_right _ (List.mem_singleton.mpr rfl)
      · show zfea _ (zli (zcpn u.2.2.1 (zwn u.2.2.2.2.2.2 u.2.2.2.2.2.1 nu).1 (zwn u.2.2.2.2.2.2 u.2.2.2.2.2.1 nu).2) (zwn u.2.2.2.2.2.2 u.2.2.2.2.2.1 nu).2 0)
        rw [hnew]
        exact hf
      · intro v hv hfv
        show ¬ zLt _ co v (zli (zcpn u.2.2.1 (zwn u.2.2.2.2.2.2 u.2.2.2.2.2.1 nu).1 (zwn u.2.2.2.2.2.2 u.2.2.2.2.2.1 nu).2) (zwn u.2.2.2.2.2.2 u.2.2.2.2.2.1 nu).2 0)
        rw [hnew]
        intro z
        rcases List.mem_append.mp hv with a | a
        · rcases h with ⟨h1, h2⟩ | ⟨q, h1, h2, h3, h4, h5⟩
          · exact h2 v a hfv
          · rw [u1, u2, u3, h1] at hb
            have := (zmb_eq (O := fun s => zche (fun b => FM b s) co nb) hnx h2).mp hb
            have this : zLt _ co (zli (zwn u.2.2.2.2.2.2 u.2.2.2.2.2.1 nu).1 (zwn u.2.2.2.2.2.2 u.2.2.2.2.2.1 nu).2 0) _ := this
            rw [hw] at this
            exact h5 v a hfv (zLt_tr z this)
        · rw [List.mem_singleton.mp a] at z
          exact zLt_irr _ z
theorem zfo_best {FM : Nat → Nat → Bool} {co : Nat → Nat} {nb nu : Nat} {p0 : Nat → Nat} : ∀ (ls : List (List Nat)) (t : zM) (seen : List (List Nat)), (∀ l, l ∈ ls → (zwn (zLf l) (fun _ => 0) nu).2 ≤ 8) → zJv (fun s => zche (fun b => FM b s) co nb) co t seen → zJv (fun s => zche (fun b => FM b s) co nb) co (zfo FM co nb nu p0 ls t) (seen ++ ls.map (zwy nu))
  | [], t, seen, _, h => by rw [List.map_nil, List.append_nil]; exact h
  | l :: ls, t, seen, hl, h => by
    have e := zfo_best (p0 := p0) ls _ _ (fun x hx => hl x (List.mem_cons_of_mem _ hx)) (zon_best (p0 := p0) (hl l List.mem_cons_self) h)
    rw [List.append_assoc] at e
    exact e
