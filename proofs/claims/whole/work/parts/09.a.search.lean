/-! ===== the choice and the search, on numbers ===== -/
/-- the first number below n that P holds of -/
def zfst (P : Nat → Bool) : Nat → Option Nat
  | 0 => none
  | n + 1 => match zfst P n with
    | some k => some k
    | none => bif P n then some n else none
theorem zfst_n {P : Nat → Bool} {n : Nat} (h : zfst P n = none) (hp : P n = false) : zfst P (n + 1) = none := by
  show (match zfst P n with | some k => some k | none => bif P n then some n else none) = none
  rw [h, hp]; rfl
theorem zfst_s {P : Nat → Bool} {n : Nat} (h : zfst P n = none) (hp : P n = true) : zfst P (n + 1) = some n := by
  show (match zfst P n with | some k => some k | none => bif P n then some n else none) = _
  rw [h, hp]; rfl
theorem zfst_k {P : Nat → Bool} {n k : Nat} (h : zfst P n = some k) : zfst P (n + 1) = some k := by
  show (match zfst P n with | some k => some k | none => bif P n then some n else none) = _
  rw [h]
theorem zfst_up {P : Nat → Bool} {j k : Nat} (h : zfst P j = some k) : ∀ d, zfst P (j + d) = some k
  | 0 => h
  | d + 1 => zfst_k (zfst_up h d)
theorem zfst_at {P : Nat → Bool} {j n : Nat} (h : zfst P j = none) (hp : P j = true) (hj : j < n) : zfst P n = some j := by
  have := zfst_up (zfst_s h hp) (n - (j + 1))
  rw [show j + 1 + (n - (j + 1)) = n by omega] at this
  exact this
/-- a store among numbers or nothing -/
def zuo (f : Nat → Option Nat) (k : Nat) (v : Option Nat) : Nat → Option Nat := fun j => if j = k then v else f j
theorem zuo_s {f : Nat → Option Nat} {k : Nat} {v : Option Nat} : zuo f k v k = v := if_pos rfl
theorem zuo_n {f : Nat → Option Nat} {k j : Nat} {v : Option Nat} (h : j ≠ k) : zuo f k v j = f j := if_neg h
theorem zuo_upd (f : Nat → Option Nat) (k : Nat) (v : Option Nat) : upd (fun j => zo (f j)) k (zo v) = fun j => zo (zuo f k v j) := by
  funext j
  unfold upd zuo
  by_cases h : j = k
  · rw [if_pos h, if_pos h]
  · rw [if_neg h, if_neg h]
section ZO
variable {p : Program} {l : Launch} {e : Env} {R : Room} {s : State} {m : MethodId} {args : Array Value} {below : List Frame} {meth : Method} {c : Code} {Q : State → Prop}
variable {cc : ByteArray} {nL cells slots pc : Nat} {D : va_G} {cl : List vw_C} {A : Nat → Prop} {tys : List (ClassId × FieldType)} {Ts : List Cond} {own : String} {G : State → (Nat → Prop) → Prop}
variable {ws : va_W} {lv : List (Nat × Value)} {st : List Value}
theorem z_iastO (F : zF p s m args c cc nL Ts own D cl tys A G) (q0 t0 : Nat) {a n j : Nat} {cA : ClassId} {f : Nat → Option Nat} {i x : Int32} (v : Option Nat) (hd : decode cc pc = .ok (.iastore, 1)) (he : ws[q0]? = some (a, .inl (cA, n, .inl (fun x => zo (f x))))) (ht : tys[t0]? = some (cA, .int)) (hi : i = nI j) (hj : j < n) (hn : n < 2 ^ 31) (hx : x = zo v)
    (kk : zW p l e R s m args below meth c nL D cl A cells slots Q (ws.set q0 (a, .inl (cA, n, .inl (fun x => zo (zuo f j v x))))) lv (pc + 1) st) : zW p l e R s m args below meth c nL D cl A cells slots Q ws lv pc (.int x :: .int i :: .ref a :: st) := by
  subst hx
  refine z_iast F q0 t0 hd he ht hi hj hn ?_
  rw [zuo_upd]
  exact kk
end ZO
/-- the first j places emptied -/
def zclr (f : Nat → Option Nat) (j : Nat) : Nat → Option Nat := fun x => if x < j then none else f x
theorem zclr_0 (f : Nat → Option Nat) : zclr f 0 = f := by funext x; simp [zclr]
theorem zclr_s (f : Nat → Option Nat) (j : Nat) : zuo (zclr f j) j none = zclr f (j + 1) := by
  funext x
  unfold zuo zclr
  by_cases h : x = j
  · rw [if_pos h, if_pos (by omega)]
  · rw [if_neg h]
    by_cases h2 : x < j
    · rw [if_pos h2, if_pos (by omega)]
    · rw [if_neg h2, if_neg (by omega)]
/-- whether the way by first f, at cost c with n boxes, is better than what is known of s -/
def zbet (ob lc : Nat → Option Nat) (fb fs : Nat → Nat) (s f c n : Nat) : Bool := match lc s with
  | none => true
  | some L => decide (c < L ∨ c = L ∧ (n < fb s ∨ n = fb s ∧ ((ob f).getD 0 < (ob (fs s)).getD 0 ∨ (ob f).getD 0 = (ob (fs s)).getD 0 ∧ f < fs s)))
abbrev zT : Type := (Nat → Option Nat) × (Nat → Nat) × (Nat → Nat)
/-- s is tried with the first set f -/
def ztry (ob : Nat → Option Nat) (oc : Nat → Nat) (s f : Nat) (t : zT) : zT := match t.1 (zd s f) with
  | none => t
  | some L => bif zbet ob t.1 t.2.1 t.2.2 s f (oc f + L) (1 + t.2.1 (zd s f)) then (zuo t.1 s (some (oc f + L)), zu t.2.1 s (1 + t.2.1 (zd s f)), zu t.2.2 s f) else t
/-- a loop's state at x, begun at lo with a -/
def zfr {α : Type} (step : Nat → α → α) (a : α) (lo : Nat) : Nat → α
  | 0 => a
  | n + 1 => if lo ≤ n then step n (zfr step a lo n) else a
theorem zfr_0 {α : Type} (step : Nat → α → α) (a : α) (lo : Nat) : ∀ n, n ≤ lo → zfr step a lo n = a
  | 0, _ => rfl
  | n + 1, h => by
    show (if lo ≤ n then _ else _) = _
    rw [if_neg (by omega)]
theorem zfr_s {α : Type} {step : Nat → α → α} {a : α} {lo n : Nat} (h : lo ≤ n) : zfr step a lo (n + 1) = step n (zfr step a lo n) := by
  show (if lo ≤ n then _ else _) = _
  rw [if_pos h]
/-- the lowest bit -/
def zlow (s : Nat) : Nat := s &&& (256 - s)
/-- what findBest does with a first set -/
def zfbs (ob : Nat → Option Nat) (oc : Nat → Nat) (s : Nat) (f : Nat) (t : zT) : zT :=
  bif decide (zd f s = 0) && (decide (¬ f &&& zlow s = 0) && (ob f).isSome) then ztry ob oc s f t else t
def zfnd (ob : Nat → Option Nat) (oc : Nat → Nat) (s : Nat) (t : zT) : zT := zfr (zfbs ob oc s) t (zlow s) (s + 1)
/-- the state of the search is sound -/
def zEok (ob : Nat → Option Nat) (oc : Nat → Nat) (t : zT) : Prop := (∀ x, oc x ≤ 1000) ∧ (∀ x b, ob x = some b → b < 6) ∧ ∀ x, x < 64 → ∀ L, t.1 x = some L → L ≤ 1000 * x ∧ t.2.1 x ≤ x ∧ (0 < x → t.2.2 x < 64 ∧ (ob (t.2.2 x)).isSome = true ∧ zd x (t.2.2 x) < x ∧ (t.1 (zd x (t.2.2 x))).isSome = true)
theorem ztry_ok {ob : Nat → Option Nat} {oc : Nat → Nat} {s f : Nat} {t : zT} (h : zEok ob oc t) (hs64 : s < 64) (hf : f < 64) (hs : zd s f < s) (ho : (ob f).isSome = true) : zEok ob oc (ztry ob oc s f t) := by
  obtain ⟨h1, h2, h3⟩ := h
  unfold ztry
  cases hr : t.1 (zd s f) with
  | none => exact ⟨h1, h2, h3⟩
  | some L =>
    have hL := h3 _ (by omega) _ hr
    show zEok ob oc (bif _ then _ else _)
    cases zbet ob t.1 t.2.1 t.2.2 s f (oc f + L) (1 + t.2.1 (zd s f)) with
    | false => exact ⟨h1, h2, h3⟩
    | true =>
      refine ⟨h1, h2, fun x hx64 L2 hx => ?_⟩
      have hx : zuo t.1 s (some (oc f + L)) x = some L2 := hx
      show L2 ≤ 1000 * x ∧ zu t.2.1 s (1 + t.2.1 (zd s f)) x ≤ x ∧ (0 < x → zu t.2.2 s f x < 64 ∧ (ob (zu t.2.2 s f x)).isSome = true ∧ zd x (zu t.2.2 s f x) < x ∧ (zuo t.1 s (some (oc f + L)) (zd x (zu t.2.2 s f x))).isSome = true)
      by_cases hxs : x = s
      · subst hxs
        rw [zuo_s] at hx
        cases hx
        rw [zu_s, zu_s]
        have := h1 f
        exact ⟨by omega, by omega, fun _ => ⟨hf, ho, hs, by rw [zuo_n (by omega), hr]; rfl⟩⟩
      · rw [zuo_n hxs] at hx
        rw [zu_n hxs, zu_n hxs]
        obtain ⟨g1, g2, g3⟩ := h3 x hx64 L2 hx
        refine ⟨g1, g2, fun h0 => ?_⟩
        obtain ⟨k1, k2, k3, k4⟩ := g3 h0
        refine ⟨k1, k2, k3, ?_⟩
        by_cases he : zd x (t.2.2 x) = s
        · rw [he, zuo_s]; rfl
        · rw [zuo_n he]; exact k4
theorem zd_lt {s f : Nat} (h : ¬ f &&& s = 0) : zd s f < s := by
  have h1 := zd_le s f
  rcases Nat.lt_or_ge (zd s f) s with h2 | h2
  · exact h2
  · exfalso
    have e : zd s f = s := Nat.le_antisymm h1 h2
    apply h
    apply Nat.eq_of_testBit_eq
    intro i
    rw [Nat.testBit_and, Nat.zero_testBit]
    have := zd_bit s f i
    rw [e] at this
    cases hs : s.testBit i <;> cases hf : f.testBit i <;> simp_all
theorem zlow_in : ∀ s, s < 64 → zlow s &&& s = zlow s ∧ (0 < s → 0 < zlow s ∧ zlow s ≤ s) := by decide +kernel
theorem zlow_meet {f s : Nat} (hs : s < 64) (h : ¬ f &&& zlow s = 0) : ¬ f &&& s = 0 := by
  intro q
  apply h
  rw [← (zlow_in s hs).1, Nat.and_comm (zlow s) s, ← Nat.and_assoc, q, Nat.zero_and]
theorem zfbs_ok {ob : Nat → Option Nat} {oc : Nat → Nat} {s f : Nat} {t : zT} (h : zEok ob oc t) (hs : s < 64) (hf : f < 64) : zEok ob oc (zfbs ob oc s f t) := by
  unfold zfbs
  by_cases hc : (decide (zd f s = 0) && (decide (¬ f &&& zlow s = 0) && (ob f).isSome)) = true
  · rw [hc]
    simp only [Bool.and_eq_true, decide_eq_true_eq] at hc
    exact ztry_ok h hs hf (zd_lt (zlow_meet hs hc.2.1)) hc.2.2
  · rw [Bool.not_eq_true] at hc
    rw [hc]
    exact h
theorem zfr_ok {α : Type} {step : Nat → α → α} {a : α} {lo : Nat} {I : α → Prop} (h0 : I a) : ∀ n, (∀ x b, x < n → I b → I (step x b)) → I (zfr step a lo n)
  | 0, _ => h0
  | n + 1, hs => by
    by_cases h : lo ≤ n
    · rw [zfr_s h]
      exact hs n _ (by omega) (zfr_ok h0 n (fun x b hx => hs x b (by omega)))
    · rw [zfr_0 step a lo (n + 1) (by omega)]
      exact h0
theorem zfnd_ok {ob : Nat → Option Nat} {oc : Nat → Nat} {s : Nat} {t : zT} (h : zEok ob oc t) (hs : s < 64) : zEok ob oc (zfnd ob oc s t) :=
  zfr_ok h _ (fun x b hx hb => zfbs_ok hb hs (by omega))
/-- taking the boxes of a way out, one after another: what is left, boxes, sets, how many, cost -/
abbrev zX : Type := Nat × (Nat → Nat) × (Nat → Nat) × Nat × Nat
def zexs (ob : Nat → Option Nat) (oc fs : Nat → Nat) (t : zX) : zX := (zd t.1 (fs t.1), zu t.2.1 t.2.2.2.1 ((ob (fs t.1)).getD 0), zu t.2.2.1 t.2.2.2.1 (fs t.1), t.2.2.2.1 + 1, t.2.2.2.2 + oc (fs t.1))
def zexn (ob : Nat → Option Nat) (oc fs : Nat → Nat) (t : zX) : Nat → zX
  | 0 => t
  | i + 1 => if 0 < (zexn ob oc fs t i).1 then zexs ob oc fs (zexn ob oc fs t i) else zexn ob oc fs t i
theorem zexn_t {ob : Nat → Option Nat} {oc fs : Nat → Nat} {t : zX} {i : Nat} (h : 0 < (zexn ob oc fs t i).1) : zexn ob oc fs t (i + 1) = zexs ob oc fs (zexn ob oc fs t i) := by
  show (if _ then _ else _) = _
  rw [if_pos h]
theorem zexn_f {ob : Nat → Option Nat} {oc fs : Nat → Nat} {t : zX} {i : Nat} (h : ¬ 0 < (zexn ob oc fs t i).1) : zexn ob oc fs t (i + 1) = zexn ob oc fs t i := by
  show (if _ then _ else _) = _
  rw [if_neg h]
theorem zexn_up {ob : Nat → Option Nat} {oc fs : Nat → Nat} {t : zX} {i : Nat} (h : ¬ 0 < (zexn ob oc fs t i).1) : ∀ d, zexn ob oc fs t (i + d) = zexn ob oc fs t i
  | 0 => rfl
  | d + 1 => by
    have e := zexn_up h d
    rw [show i + (d + 1) = (i + d) + 1 from rfl, zexn_f (by rw [e]; exact h), e]
theorem zexn_ok {ob : Nat → Option Nat} {oc : Nat → Nat} {t : zT} {x : zX} (h : zEok ob oc t) (hx : x.1 < 64) (hl : (t.1 x.1).isSome = true) : ∀ i, (zexn ob oc t.2.2 x i).1 < 64 ∧ (t.1 (zexn ob oc t.2.2 x i).1).isSome = true ∧ (zexn ob oc t.2.2 x i).2.2.2.1 ≤ x.2.2.2.1 + i
  | 0 => ⟨hx, hl, Nat.le_refl _⟩
  | i + 1 => by
    obtain ⟨h1, h2, h3⟩ := zexn_ok h hx hl i
    by_cases h0 : 0 < (zexn ob oc t.2.2 x i).1
    · rw [zexn_t h0]
      obtain ⟨L, hL⟩ := Option.isSome_iff_exists.mp h2
      obtain ⟨-, -, g⟩ := h.2.2 _ h1 _ hL
      obtain ⟨k1, k2, k3, k4⟩ := g h0
      exact ⟨Nat.lt_trans k3 h1, k4, by show _ + 1 ≤ _; omega⟩
    · rw [zexn_f h0]
      exact ⟨h1, h2, by omega⟩
theorem zbet_some {ob lc : Nat → Option Nat} {fb fs : Nat → Nat} {x f v k L b1 b2 : Nat} (hL : lc x = some L) (h1 : ob f = some b1) (h2 : ob (fs x) = some b2) : zbet ob lc fb fs x f v k = decide (v < L ∨ v = L ∧ (k < fb x ∨ k = fb x ∧ (b1 < b2 ∨ b1 = b2 ∧ f < fs x))) := by
  unfold zbet
  rw [hL, h1, h2]; rfl
theorem zbet_none {ob lc : Nat → Option Nat} {fb fs : Nat → Nat} {x f v k : Nat} (hL : lc x = none) : zbet ob lc fb fs x f v k = true := by
  unfold zbet
  rw [hL]
theorem ztry_none {ob : Nat → Option Nat} {oc : Nat → Nat} {x f : Nat} {t : zT} (h : t.1 (zd x f) = none) : ztry ob oc x f t = t := by
  unfold ztry
  rw [h]
theorem ztry_t {ob : Nat → Option Nat} {oc : Nat → Nat} {x f L : Nat} {t : zT} (h : t.1 (zd x f) = some L) (hb : zbet ob t.1 t.2.1 t.2.2 x f (oc f + L) (1 + t.2.1 (zd x f)) = true) : ztry ob oc x f t = (zuo t.1 x (some (oc f + L)), zu t.2.1 x (1 + t.2.1 (zd x f)), zu t.2.2 x f) := by
  unfold ztry
  rw [h]
  show (bif _ then _ else _) = _
  rw [hb]; rfl
theorem ztry_f {ob : Nat → Option Nat} {oc : Nat → Nat} {x f L : Nat} {t : zT} (h : t.1 (zd x f) = some L) (hb : zbet ob t.1 t.2.1 t.2.2 x f (oc f + L) (1 + t.2.1 (zd x f)) = false) : ztry ob oc x f t = t := by
  unfold ztry
  rw [h]
  show (bif _ then _ else _) = _
  rw [hb]; rfl
/-- the search with its three tables as one -/
def wT (he e1 e2 e3 e4 e5 : Nat) (cA : ClassId) (ob : Nat → Option Nat) (oc : Nat → Nat) (t : zT) : va_W := wE he e1 e2 e3 e4 e5 cA ob oc t.1 t.2.1 t.2.2
/-- all sets up to y searched -/
def zall (ob : Nat → Option Nat) (oc : Nat → Nat) (y : Nat) (t : zT) : zT := zfr (zfnd ob oc) t 1 (y + 1)
theorem zall_ok {ob : Nat → Option Nat} {oc : Nat → Nat} {t : zT} (h : zEok ob oc t) {y : Nat} (hy : y ≤ 64) : zEok ob oc (zfr (zfnd ob oc) t 1 y) := zfr_ok h _ (fun x b hx hb => zfnd_ok hb (by omega))
theorem zo_n1 {o : Option Nat} (h : o = none) : zo o = -1 := by rw [h]; rfl
theorem zo_s1 {o : Option Nat} {v : Nat} (h : o = some v) : zo o = nI v := by rw [h]; rfl
theorem zo_g {o : Option Nat} (h : o.isSome = true) : zo o = nI (o.getD 0) := by
  obtain ⟨v, rfl⟩ := Option.isSome_iff_exists.mp h
  rfl
theorem zi_ne (v : Nat) (h : v < 2 ^ 31) : ¬ nI v = -1 := zo_ne h
theorem zo_isn {o : Option Nat} (h : zo o = -1) (hb : ∀ b, o = some b → b < 2 ^ 31) : o.isSome = false := by
  cases o with
  | none => rfl
  | some b => exact absurd h (zo_ne (hb b rfl))
theorem zo_iss {o : Option Nat} (h : ¬ zo o = -1) : o.isSome = true := by
  cases o with
  | none => exact absurd rfl h
  | some b => rfl
