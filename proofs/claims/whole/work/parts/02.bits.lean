/-! ===== numbers and bits: sets of small numbers as Nats ===== -/
theorem zb_and (a b : Nat) : nI a &&& nI b = nI (a &&& b) := by
  apply Int32.toBitVec_inj.1
  show BitVec.ofNat 32 a &&& BitVec.ofNat 32 b = BitVec.ofNat 32 (a &&& b)
  apply BitVec.eq_of_getLsbD_eq
  intro i hi
  simp [hi]
theorem zb_or (a b : Nat) : nI a ||| nI b = nI (a ||| b) := by
  apply Int32.toBitVec_inj.1
  show BitVec.ofNat 32 a ||| BitVec.ofNat 32 b = BitVec.ofNat 32 (a ||| b)
  apply BitVec.eq_of_getLsbD_eq
  intro i hi
  simp [hi]
/-- the bits of a that b has not -/
def zd (a b : Nat) : Nat := a ^^^ (a &&& b)
theorem zd_bit (a b i : Nat) : (zd a b).testBit i = (a.testBit i && !b.testBit i) := by
  unfold zd
  rw [Nat.testBit_xor, Nat.testBit_and]
  cases a.testBit i <;> cases b.testBit i <;> rfl
theorem zb_m1 : ∀ i, i < 32 → (-1 : Int32).toBitVec.getLsbD i = true := by decide +kernel
theorem zb_nand (a b : Nat) : nI a &&& (nI b ^^^ (-1)) = nI (zd a b) := by
  apply Int32.toBitVec_inj.1
  apply BitVec.eq_of_getLsbD_eq
  intro i hi
  rw [Int32.toBitVec_and, Int32.toBitVec_xor, BitVec.getLsbD_and, BitVec.getLsbD_xor, zb_m1 i hi]
  show ((BitVec.ofNat 32 a).getLsbD i && ((BitVec.ofNat 32 b).getLsbD i ^^ true)) = (BitVec.ofNat 32 (zd a b)).getLsbD i
  rw [BitVec.getLsbD_ofNat, BitVec.getLsbD_ofNat, BitVec.getLsbD_ofNat, zd_bit]
  simp [hi]
theorem zb_not (b : Nat) : (nI b ^^^ (-1)) = nI (zd 4294967295 b) := by
  rw [← zb_nand]
  apply Int32.toBitVec_inj.1
  apply BitVec.eq_of_getLsbD_eq
  intro i hi
  have h1 : (nI 4294967295).toBitVec.getLsbD i = true := (by decide +kernel : ∀ i, i < 32 → (nI 4294967295).toBitVec.getLsbD i = true) i hi
  rw [Int32.toBitVec_and, BitVec.getLsbD_and, h1, Bool.true_and]
theorem zb_shl1 : ∀ j, j < 31 → (1 : Int32) <<< (nI j &&& 31) = nI (2 ^ j) := by decide +kernel
theorem zb_sl : ∀ n, n < 32 → ((nI n &&& 31).toBitVec.smod 32).toNat = n := by decide +kernel
theorem zb_bit {a j : Nat} (ha : a < 2 ^ 31) (hj : j < 32) : (nI a >>> (nI j &&& 31)) &&& 1 = 0 ↔ a.testBit j = false := by
  rw [pk_shrN ha _ j (zb_sl j hj), show (1 : Int32) = nI 1 from rfl, zb_and, Nat.and_one_is_mod, ← nI_0, nI_eq (by omega) (by omega), Nat.testBit_eq_decide_div_mod_eq, decide_eq_false_iff_not]
  generalize a / 2 ^ j = z
  omega
theorem zb_eq0 {a : Nat} (ha : a < 2 ^ 31) : nI a = 0 ↔ a = 0 := by
  rw [← nI_0, nI_eq ha (by omega)]
theorem zb_low : ∀ s, s < 256 → nI s &&& (-nI s) = nI (s &&& (256 - s)) := by decide +kernel
theorem zb_or_lt {a b k : Nat} (ha : a < 2 ^ k) (hb : b < 2 ^ k) : a ||| b < 2 ^ k := Nat.or_lt_two_pow ha hb
theorem zd_le (a b : Nat) : zd a b ≤ a := by
  have h : zd a b = zd a b &&& a := by
    apply Nat.eq_of_testBit_eq
    intro i
    rw [Nat.testBit_and, zd_bit]
    cases a.testBit i <;> simp
  rw [h]
  exact Nat.and_le_right
theorem zd_eq0 {a b : Nat} : zd a b = 0 ↔ ∀ i, a.testBit i = true → b.testBit i = true := by
  constructor
  · intro h i ha
    have h1 := zd_bit a b i
    rw [h, Nat.zero_testBit, ha] at h1
    cases hb : b.testBit i with
    | true => rfl
    | false => rw [hb] at h1; simp at h1
  · intro h
    apply Nat.eq_of_testBit_eq
    intro i
    rw [zd_bit, Nat.zero_testBit]
    cases ha : a.testBit i with
    | true => rw [h i ha]; rfl
    | false => rfl
/-- the numbers below n that P holds of, as bits -/
def zset (P : Nat → Bool) : Nat → Nat
  | 0 => 0
  | n + 1 => bif P n then zset P n ||| 2 ^ n else zset P n
theorem zset_bit (P : Nat → Bool) : ∀ n i, (zset P n).testBit i = (decide (i < n) && P i)
  | 0, i => by simp [zset]
  | n + 1, i => by
    unfold zset
    cases hp : P n with
    | true =>
      rw [cond_true, Nat.testBit_or, zset_bit P n i, Nat.testBit_two_pow]
      by_cases h : n = i
      · subst h; simp [hp]
      · have h1 : decide (i < n) = decide (i < n + 1) := by simp; omega
        simp [h, h1]
    | false =>
      rw [cond_false, zset_bit P n i]
      by_cases h : n = i
      · subst h; simp [hp]
      · have h1 : decide (i < n) = decide (i < n + 1) := by simp; omega
        rw [h1]
theorem zset_lt (P : Nat → Bool) : ∀ n, zset P n < 2 ^ n
  | 0 => by simp [zset]
  | n + 1 => by
    unfold zset
    have h := zset_lt P n
    have h2 : 2 ^ (n + 1) = 2 * 2 ^ n := by rw [Nat.pow_succ]; omega
    cases P n with
    | true => exact Nat.or_lt_two_pow (by omega) (by omega)
    | false => show zset P n < _; omega
theorem zset_cg {P P2 : Nat → Bool} : ∀ n, (∀ j, j < n → P j = P2 j) → zset P n = zset P2 n
  | 0, _ => rfl
  | n + 1, h => by
    unfold zset
    rw [h n (by omega), zset_cg n (fun j hj => h j (by omega))]
/-- the sum over the numbers below n that are bits of a -/
def zsum (f : Nat → Nat) (a : Nat) : Nat → Nat
  | 0 => 0
  | n + 1 => bif a.testBit n then zsum f a n + f n else zsum f a n
theorem zsum_le {f : Nat → Nat} {M : Nat} (a : Nat) : ∀ n, (∀ j, j < n → f j ≤ M) → zsum f a n ≤ n * M
  | 0, _ => by simp [zsum]
  | n + 1, h => by
    unfold zsum
    have h1 := zsum_le (f := f) (M := M) a n (fun j hj => h j (by omega))
    have h2 := h n (by omega)
    rw [Nat.succ_mul]
    cases a.testBit n with
    | true => exact Nat.add_le_add h1 h2
    | false => exact Nat.le_trans h1 (Nat.le_add_right _ _)
/-- the bits of the f j of the numbers below n that are bits of a, one for one -/
def zuni (f : Nat → Nat) (a : Nat) : Nat → Nat
  | 0 => 0
  | n + 1 => bif a.testBit n then zuni f a n ||| f n else zuni f a n
theorem zuni_lt {f : Nat → Nat} {k : Nat} (a : Nat) : ∀ n, (∀ j, j < n → f j < 2 ^ k) → zuni f a n < 2 ^ k
  | 0, _ => by simpa [zuni] using Nat.two_pow_pos k
  | n + 1, h => by
    unfold zuni
    have h1 := zuni_lt (f := f) (k := k) a n (fun j hj => h j (by omega))
    cases a.testBit n with
    | true => exact Nat.or_lt_two_pow h1 (h n (by omega))
    | false => exact h1
/-- whether one below n has P -/
def zany (P : Nat → Bool) : Nat → Bool
  | 0 => false
  | n + 1 => zany P n || P n
theorem zany_iff (P : Nat → Bool) : ∀ n, zany P n = true ↔ ∃ j, j < n ∧ P j = true
  | 0 => by simp [zany]
  | n + 1 => by
    unfold zany
    rw [Bool.or_eq_true, zany_iff P n]
    constructor
    · rintro (⟨j, h1, h2⟩ | h)
      · exact ⟨j, by omega, h2⟩
      · exact ⟨n, by omega, h⟩
    · rintro ⟨j, h1, h2⟩
      by_cases hj : j = n
      · subst hj; exact Or.inr h2
      · exact Or.inl ⟨j, by omega, h2⟩
theorem zany_f {P : Nat → Bool} {n : Nat} (h : ∀ j, j < n → P j = false) : zany P n = false := by
  cases hz : zany P n with
  | false => rfl
  | true =>
    obtain ⟨j, h1, h2⟩ := (zany_iff P n).mp hz
    rw [h j h1] at h2
    cases h2
theorem zany_t {P : Nat → Bool} {n j : Nat} (h : j < n) (hj : P j = true) : zany P n = true := (zany_iff P n).mpr ⟨j, h, hj⟩
/-- a store, by numbers -/
def zu (f : Nat → Nat) (k v : Nat) : Nat → Nat := fun j => if j = k then v else f j
theorem zu_s {f : Nat → Nat} {k v : Nat} : zu f k v k = v := if_pos rfl
theorem zu_n {f : Nat → Nat} {k v j : Nat} (h : j ≠ k) : zu f k v j = f j := if_neg h
theorem zu_upd (f : Nat → Nat) (k v : Nat) : upd (fun j => nI (f j)) k (nI v) = fun j => nI (zu f k v j) := by
  funext j
  unfold upd zu
  by_cases h : j = k
  · rw [if_pos h, if_pos h]
  · rw [if_neg h, if_neg h]
