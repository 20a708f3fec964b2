/-! ===== the class on numbers ===== -/
theorem zset_and (P Q : Nat → Bool) (n : Nat) : zset P n &&& zset Q n = zset (fun x => P x && Q x) n := by
  apply Nat.eq_of_testBit_eq
  intro i
  rw [Nat.testBit_and, zset_bit, zset_bit, zset_bit]
  cases decide (i < n) <;> simp
theorem zset_no {P : Nat → Bool} {n : Nat} (h : ∀ j, P j = false) : zset P n = 0 := by
  apply Nat.eq_of_testBit_eq
  intro i
  rw [zset_bit, h i, Bool.and_false, Nat.zero_testBit]
theorem zche_cg {P Q : Nat → Bool} {co : Nat → Nat} : ∀ n, (∀ j, j < n → P j = Q j) → zche P co n = zche Q co n
  | 0, _ => rfl
  | n + 1, h => by
    show (bif P n then _ else _) = (bif Q n then _ else _)
    rw [h n (by omega), zche_cg n (fun j hj => h j (by omega))]
/-- whether a set suits box x by kinds, sizes, weights -/
def zfc (ro lo ks : Nat → Nat) (sl : Nat) (si we ki : Nat → Nat) (nu a x : Nat) : Bool := decide (zd (zuni (fun y => 2 ^ ki y) a nu) (ks x) = 0) && decide (zsum si a nu + sl ≤ ro x) && decide (zsum we a nu ≤ lo x)
def zapt (ap : Nat → Nat) (nu a : Nat) : Bool := zany (fun x => a.testBit x && decide (¬ ap x &&& a = 0)) nu
def zwhl (tg : Nat → Nat) (nu a : Nat) : Bool := !zany (fun x => a.testBit x && decide (¬ zd (tg x) a = 0)) nu
/-- whether a set fits box x -/
def zff (ro lo ks : Nat → Nat) (sl : Nat) (si we ki ap tg : Nat → Nat) (nu a x : Nat) : Bool := !zapt ap nu a && (zwhl tg nu a && zfc ro lo ks sl si we ki nu a x)
/-- the bounds of the state -/
def zok (ro lo co ks : Nat → Nat) (nb sl : Nat) (si we ki ap tg : Nat → Nat) (nu : Nat) : Prop :=
  nb ≤ 6 ∧ sl ≤ 1000 ∧ nu ≤ 8 ∧ (∀ x, ro x ≤ 1000) ∧ (∀ x, lo x ≤ 1000) ∧ (∀ x, co x ≤ 1000) ∧ (∀ x, ks x < 256) ∧ (∀ x, si x ≤ 1000) ∧ (∀ x, we x ≤ 1000) ∧ (∀ x, ki x < 8) ∧ (∀ x, ap x < 256) ∧ ∀ x, tg x < 256
abbrev zCh : Type := (Nat → Nat) × (Nat → Nat) × Nat × Nat
/-- a company comes into the first box that it fits, else into a new one -/
def zputc (FF : Nat → Nat → Bool) (co : Nat → Nat) (nb k : Nat) (h : zCh) : Bool × zCh := match zfst (fun i => decide (h.1 i < nb) && FF (h.2.1 i ||| k) (h.1 i)) h.2.2.1 with
  | some i => (true, (h.1, zu h.2.1 i (h.2.1 i ||| k), h.2.2.1, h.2.2.2))
  | none => match zche (FF k) co nb with
    | none => (false, h)
    | some b => (true, (zu h.1 h.2.2.1 b, zu h.2.1 h.2.2.1 k, h.2.2.1 + 1, h.2.2.2 + co b))
def zokH (h : zCh) : Prop := h.2.2.1 ≤ 8 ∧ (∀ i, h.1 i < 6) ∧ ∀ i, h.2.1 i < 256
theorem zputc_s {FF : Nat → Nat → Bool} {co : Nat → Nat} {nb k i : Nat} {h : zCh} (hf : zfst (fun i => decide (h.1 i < nb) && FF (h.2.1 i ||| k) (h.1 i)) h.2.2.1 = some i) : zputc FF co nb k h = (true, (h.1, zu h.2.1 i (h.2.1 i ||| k), h.2.2.1, h.2.2.2)) := by
  unfold zputc
  rw [hf]
theorem zputc_n {FF : Nat → Nat → Bool} {co : Nat → Nat} {nb k : Nat} {h : zCh} (hf : zfst (fun i => decide (h.1 i < nb) && FF (h.2.1 i ||| k) (h.1 i)) h.2.2.1 = none) (hc : zche (FF k) co nb = none) : zputc FF co nb k h = (false, h) := by
  unfold zputc
  rw [hf]
  show (match zche (FF k) co nb with | none => _ | some b => _) = _
  rw [hc]
theorem zputc_b {FF : Nat → Nat → Bool} {co : Nat → Nat} {nb k b : Nat} {h : zCh} (hf : zfst (fun i => decide (h.1 i < nb) && FF (h.2.1 i ||| k) (h.1 i)) h.2.2.1 = none) (hc : zche (FF k) co nb = some b) : zputc FF co nb k h = (true, (zu h.1 h.2.2.1 b, zu h.2.1 h.2.2.1 k, h.2.2.1 + 1, h.2.2.2 + co b)) := by
  unfold zputc
  rw [hf]
  show (match zche (FF k) co nb with | none => _ | some b => _) = _
  rw [hc]
/-- a store keeps a bound -/
theorem zu_b {f : Nat → Nat} {k v M : Nat} (h : ∀ i, f i < M) (hv : v < M) : ∀ i, zu f k v i < M := by
  intro i
  unfold zu
  by_cases q : i = k
  · rw [if_pos q]; exact hv
  · rw [if_neg q]; exact h i
theorem zu_le {f : Nat → Nat} {k v M : Nat} (h : ∀ i, f i ≤ M) (hv : v ≤ M) : ∀ i, zu f k v i ≤ M := by
  intro i
  unfold zu
  by_cases q : i = k
  · rw [if_pos q]; exact hv
  · rw [if_neg q]; exact h i
theorem zputc_ok {FF : Nat → Nat → Bool} {co : Nat → Nat} {nb k : Nat} {h : zCh} (ok : zokH h) (hb : nb ≤ 6) (hk : k < 256) (hn : h.2.2.1 < 8) : zokH (zputc FF co nb k h).2 ∧ (zputc FF co nb k h).2.2.2.1 ≤ h.2.2.1 + 1 := by
  obtain ⟨h1, h2, h3⟩ := ok
  cases hf : zfst (fun i => decide (h.1 i < nb) && FF (h.2.1 i ||| k) (h.1 i)) h.2.2.1 with
  | some i =>
    rw [zputc_s hf]
    exact ⟨⟨h1, h2, zu_b h3 (Nat.or_lt_two_pow (n := 8) (h3 i) hk)⟩, Nat.le_succ _⟩
  | none =>
    cases hc : zche (FF k) co nb with
    | none => rw [zputc_n hf hc]; exact ⟨⟨h1, h2, h3⟩, Nat.le_succ _⟩
    | some b =>
      rw [zputc_b hf hc]
      have := (zche_lt hc).1
      exact ⟨⟨hn, zu_b h2 (by omega), zu_b h3 hk⟩, Nat.le_refl _⟩
/-- the rule: unit after unit; whether it goes on, who is placed, the choice -/
abbrev zR : Type := Bool × Nat × zCh
def zrs (FF : Nat → Nat → Bool) (co : Nat → Nat) (nb : Nat) (cm : Nat → Nat) (u : Nat) (t : zR) : zR :=
  bif t.1 then (bif t.2.1.testBit u then t else ((zputc FF co nb (cm u) t.2.2).1, t.2.1 ||| cm u, (zputc FF co nb (cm u) t.2.2).2)) else t
def zbr (FF : Nat → Nat → Bool) (co : Nat → Nat) (nb : Nat) (cm : Nat → Nat) (h : zCh) : Nat → zR
  | 0 => (true, 0, h)
  | u + 1 => zrs FF co nb cm u (zbr FF co nb cm h u)
theorem zbr_up {FF : Nat → Nat → Bool} {co : Nat → Nat} {nb : Nat} {cm : Nat → Nat} {h : zCh} {u : Nat} (hf : (zbr FF co nb cm h u).1 = false) : ∀ d, zbr FF co nb cm h (u + d) = zbr FF co nb cm h u
  | 0 => rfl
  | d + 1 => by
    have e := zbr_up hf d
    show zrs FF co nb cm (u + d) (zbr FF co nb cm h (u + d)) = _
    rw [e]
    unfold zrs
    rw [hf]; rfl
theorem zrs_k {FF : Nat → Nat → Bool} {co : Nat → Nat} {nb : Nat} {cm : Nat → Nat} {u : Nat} {t : zR} (h1 : t.1 = true) (h2 : t.2.1.testBit u = true) : zrs FF co nb cm u t = t := by
  unfold zrs
  rw [h1, h2]; rfl
theorem zrs_p {FF : Nat → Nat → Bool} {co : Nat → Nat} {nb : Nat} {cm : Nat → Nat} {u : Nat} {t : zR} (h1 : t.1 = true) (h2 : t.2.1.testBit u = false) : zrs FF co nb cm u t = ((zputc FF co nb (cm u) t.2.2).1, t.2.1 ||| cm u, (zputc FF co nb (cm u) t.2.2).2) := by
  unfold zrs
  rw [h1, h2]; rfl
theorem zbr_ok {FF : Nat → Nat → Bool} {co : Nat → Nat} {nb : Nat} {cm : Nat → Nat} {h : zCh} (ok : zokH h) (h0 : h.2.2.1 = 0) (hb : nb ≤ 6) (hc : ∀ u, u < 8 → cm u < 256) : ∀ u, u ≤ 8 → zokH (zbr FF co nb cm h u).2.2 ∧ (zbr FF co nb cm h u).2.2.2.2.1 ≤ u ∧ (zbr FF co nb cm h u).2.1 < 256
  | 0, _ => ⟨ok, by show h.2.2.1 ≤ 0; omega, by show 0 < 256; decide⟩
  | u + 1, hu => by
    obtain ⟨g1, g2, g3⟩ := zbr_ok (FF := FF) (co := co) ok h0 hb hc u (by omega)
    show zokH (zrs FF co nb cm u (zbr FF co nb cm h u)).2.2 ∧ (zrs FF co nb cm u (zbr FF co nb cm h u)).2.2.2.2.1 ≤ u + 1 ∧ (zrs FF co nb cm u (zbr FF co nb cm h u)).2.1 < 256
    cases e1 : (zbr FF co nb cm h u).1 with
    | false =>
      unfold zrs
      rw [e1]
      exact ⟨g1, by show (zbr FF co nb cm h u).2.2.2.2.1 ≤ u + 1; omega, g3⟩
    | true =>
      cases e2 : (zbr FF co nb cm h u).2.1.testBit u with
      | true => rw [zrs_k e1 e2]; exact ⟨g1, by omega, g3⟩
      | false =>
        rw [zrs_p e1 e2]
        obtain ⟨k1, k2⟩ := zputc_ok (FF := FF) (co := co) g1 hb (hc u (by omega)) (by omega)
        exact ⟨k1, by show (zputc FF co nb (cm u) (zbr FF co nb cm h u).2.2).2.2.2.1 ≤ u + 1; omega, Nat.or_lt_two_pow (n := 8) g3 (hc u (by omega))⟩
/-- the boxes offered for the sets below x -/
abbrev zO : Type := (Nat → Option Nat) × (Nat → Nat)
def zos (FF : Nat → Nat → Bool) (co : Nat → Nat) (nb : Nat) (x : Nat) (t : zO) : zO := match zche (FF x) co nb with
  | none => t
  | some b => (zuo t.1 x (some b), zu t.2 x (co b))
theorem zos_n {FF : Nat → Nat → Bool} {co : Nat → Nat} {nb x : Nat} {t : zO} (h : zche (FF x) co nb = none) : zos FF co nb x t = t := by unfold zos; rw [h]
theorem zos_s {FF : Nat → Nat → Bool} {co : Nat → Nat} {nb x b : Nat} {t : zO} (h : zche (FF x) co nb = some b) : zos FF co nb x t = (zuo t.1 x (some b), zu t.2 x (co b)) := by unfold zos; rw [h]
def zokO (t : zO) : Prop := (∀ x, t.2 x ≤ 1000) ∧ ∀ x b, t.1 x = some b → b < 6
theorem zos_ok {FF : Nat → Nat → Bool} {co : Nat → Nat} {nb x : Nat} {t : zO} (hb : nb ≤ 6) (hc : ∀ x, co x ≤ 1000) (h : zokO t) : zokO (zos FF co nb x t) := by
  cases hz : zche (FF x) co nb with
  | none => rw [zos_n hz]; exact h
  | some b =>
    rw [zos_s hz]
    refine ⟨zu_le h.1 (hc b), fun y d hy => ?_⟩
    have hy : zuo t.1 x (some b) y = some d := hy
    by_cases q : y = x
    · subst q
      rw [zuo_s] at hy
      cases hy
      have := (zche_lt hz).1
      omega
    · rw [zuo_n q] at hy
      exact h.2 y d hy
/-- the search's tables as putBest begins -/
def zt0 (lc : Nat → Option Nat) (fb fs : Nat → Nat) : zT := (zuo (zclr lc 64) 0 (some 0), zu fb 0 0, fs)
theorem zt0_ok {ob : Nat → Option Nat} {oc : Nat → Nat} (lc : Nat → Option Nat) (fb fs : Nat → Nat) (h : zokO (ob, oc)) : zEok ob oc (zt0 lc fb fs) := by
  refine ⟨h.1, h.2, fun x hx L hL => ?_⟩
  have hL : zuo (zclr lc 64) 0 (some 0) x = some L := hL
  by_cases q : x = 0
  · subst q
    rw [zuo_s] at hL
    cases hL
    exact ⟨Nat.zero_le _, by show zu fb 0 0 0 ≤ 0; rw [zu_s]; exact Nat.le_refl _, fun h => absurd h (by decide)⟩
  · rw [zuo_n q] at hL
    unfold zclr at hL
    rw [if_pos hx] at hL
    cases hL
