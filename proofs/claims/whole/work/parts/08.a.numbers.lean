/-! ===== the units, on numbers ===== -/
theorem zu_zu (f : Nat → Nat) (k v w : Nat) : zu (zu f k v) k w = zu f k w := by
  funext j
  unfold zu
  by_cases h : j = k
  · rw [if_pos h, if_pos h]
  · rw [if_neg h, if_neg h, if_neg h]
/-- how two units stand: 1 apart, 2 together -/
def zrel (ap tg : Nat → Nat) (u v : Nat) : Nat := bif (ap u).testBit v then 1 else bif (tg u).testBit v then 2 else 0
/-- bit t of the row of f is b -/
def zrl (ap : Nat → Nat) (f t : Nat) (b : Bool) : Nat → Nat := zu ap f (bif b then zd (ap f) (2 ^ t) ||| 2 ^ t else zd (ap f) (2 ^ t))
theorem zrl_t (ap : Nat → Nat) (f t : Nat) : zrl ap f t true = zu (zu ap f (zd (ap f) (2 ^ t))) f (zu ap f (zd (ap f) (2 ^ t)) f ||| 2 ^ t) := by
  rw [zu_zu, zu_s]; rfl
/-- how many numbers of a .. n - 1 have P -/
def zcin (P : Nat → Bool) (a : Nat) : Nat → Nat
  | 0 => 0
  | n + 1 => bif decide (a ≤ n) && P n then zcin P a n + 1 else zcin P a n
theorem zcin_0 (P : Nat → Bool) (a : Nat) : ∀ n, n ≤ a → zcin P a n = 0
  | 0, _ => rfl
  | n + 1, h => by
    show (bif decide (a ≤ n) && P n then _ else _) = _
    rw [decide_eq_false (by omega)]
    exact zcin_0 P a n (by omega)
theorem zcin_t {P : Nat → Bool} {a n : Nat} (h1 : a ≤ n) (h2 : P n = true) : zcin P a (n + 1) = zcin P a n + 1 := by
  show (bif decide (a ≤ n) && P n then _ else _) = _
  rw [decide_eq_true h1, h2]; rfl
theorem zcin_f {P : Nat → Bool} {a n : Nat} (h2 : P n = false) : zcin P a (n + 1) = zcin P a n := by
  show (bif decide (a ≤ n) && P n then _ else _) = _
  rw [h2, Bool.and_false]; rfl
theorem zcin_le (P : Nat → Bool) (a : Nat) : ∀ n, zcin P a n ≤ n
  | 0 => Nat.le_refl _
  | n + 1 => by
    have := zcin_le P a n
    show (bif decide (a ≤ n) && P n then _ else _) ≤ _
    cases decide (a ≤ n) && P n
    · show zcin P a n ≤ _; omega
    · show zcin P a n + 1 ≤ _; omega
/-- the sum of the f x of the numbers below n -/
def zadd (f : Nat → Nat) : Nat → Nat
  | 0 => 0
  | n + 1 => zadd f n + f n
theorem zadd_le {f : Nat → Nat} {M : Nat} (h : ∀ x, f x ≤ M) : ∀ n, zadd f n ≤ n * M
  | 0 => by simp [zadd]
  | n + 1 => by
    have h1 := zadd_le h n
    have h2 := h n
    rw [Nat.succ_mul]
    exact Nat.add_le_add h1 h2
/-- one round of growth, up to member n -/
def zci (tg : Nat → Nat) (c : Nat) : Nat → Nat
  | 0 => c
  | n + 1 => bif (zci tg c n).testBit n then zci tg c n ||| tg n else zci tg c n
theorem zci_t {tg : Nat → Nat} {c n : Nat} (h : (zci tg c n).testBit n = true) : zci tg c (n + 1) = zci tg c n ||| tg n := by
  show (bif _ then _ else _) = _
  rw [h]; rfl
theorem zci_f {tg : Nat → Nat} {c n : Nat} (h : (zci tg c n).testBit n = false) : zci tg c (n + 1) = zci tg c n := by
  show (bif _ then _ else _) = _
  rw [h]; rfl
theorem zci_lt {tg : Nat → Nat} {c k : Nat} (h : ∀ x, tg x < 2 ^ k) (hc : c < 2 ^ k) : ∀ n, zci tg c n < 2 ^ k
  | 0 => hc
  | n + 1 => by
    have h1 := zci_lt h hc n
    show (bif _ then _ else _) < _
    cases (zci tg c n).testBit n
    · exact h1
    · exact Nat.or_lt_two_pow h1 (h n)
/-- the company of u after r rounds among nu units -/
def zco (tg : Nat → Nat) (nu u : Nat) : Nat → Nat
  | 0 => 2 ^ u
  | r + 1 => zci tg (zco tg nu u r) nu
theorem zco_lt {tg : Nat → Nat} {nu u k : Nat} (h : ∀ x, tg x < 2 ^ k) (hu : u < k) : ∀ r, zco tg nu u r < 2 ^ k
  | 0 => Nat.pow_lt_pow_right (by omega) hu
  | r + 1 => zci_lt h (zco_lt h hu r) nu
theorem zany_s {P : Nat → Bool} {n : Nat} (h1 : zany P n = false) (h2 : P n = false) : zany P (n + 1) = false := by
  show (zany P n || P n) = false
  rw [h1, h2]; rfl
