/-! ===== the reference: its picture ===== -/
def wM (am : Nat → Nat) (cA : ClassId) (cd nb : Nat) (ro lo co ks : Nat → Nat) (nu : Nat) (si we ki hw : Nat → Nat) (sl : Nat) (ch : Option Nat) (em : Bool) (bx : Nat → Option Nat) (sx : Nat → Nat) (cn : Nat) (nx : Nat → Option Nat) (ns pt : Nat → Nat) : va_W :=
  [(am 0, .inr (5, [.int (nI cd), .int (nI nb), .ref (am 1), .ref (am 2), .ref (am 3), .ref (am 4), .int (nI nu), .ref (am 5), .ref (am 6), .ref (am 7), .ref (am 8), .int (nI sl), .int (zo ch), .int (zB em), .ref (am 9), .ref (am 10), .int (nI cn), .ref (am 11), .ref (am 12), .ref (am 13)])),
   (am 1, .inl (cA, 6, .inl (fun x => nI (ro x)))), (am 2, .inl (cA, 6, .inl (fun x => nI (lo x)))), (am 3, .inl (cA, 6, .inl (fun x => nI (co x)))), (am 4, .inl (cA, 6, .inl (fun x => nI (ks x)))),
   (am 5, .inl (cA, 8, .inl (fun x => nI (si x)))), (am 6, .inl (cA, 8, .inl (fun x => nI (we x)))), (am 7, .inl (cA, 8, .inl (fun x => nI (ki x)))), (am 8, .inl (cA, 64, .inl (fun x => nI (hw x)))),
   (am 9, .inl (cA, 8, .inl (fun x => zo (bx x)))), (am 10, .inl (cA, 8, .inl (fun x => nI (sx x)))), (am 11, .inl (cA, 8, .inl (fun x => zo (nx x)))), (am 12, .inl (cA, 8, .inl (fun x => nI (ns x)))), (am 13, .inl (cA, 8, .inl (fun x => nI (pt x))))]
theorem zle_m1 {b : Int32} {n : Nat} (hn : n < 2 ^ 31) : b ≤ nI n - 1 ↔ b < nI n := by
  have h1 : (nI n - 1).toInt = (n : Int) - 1 := by
    cases n with
    | zero => decide
    | succ k => rw [nI_pred, nI_toInt (by omega)]; omega
  rw [Int32.le_iff_toInt_le, Int32.lt_iff_toInt_lt, h1, nI_toInt hn]
  omega
theorem zb_bit1 {a j : Nat} (ha : a < 2 ^ 31) (hj : j < 32) : (nI a >>> (nI j &&& 31)) &&& 1 = 1 ↔ a.testBit j = true := by
  rw [pk_shrN ha _ j (zb_sl j hj), show (1 : Int32) = nI 1 from rfl, zb_and, Nat.and_one_is_mod, nI_eq (by omega) (by omega), Nat.testBit_eq_decide_div_mod_eq, decide_eq_true_eq]
theorem zntt {b : Bool} (h : ¬ b = true) : b = false := by cases b <;> simp_all
theorem znff {b : Bool} (h : ¬ b = false) : b = true := by cases b <;> simp_all
/-- two apart in the set a, by the pairs -/
def zma (hw : Nat → Nat) (nu a : Nat) : Bool := zany (fun x => zany (fun y => a.testBit x && (a.testBit y && decide (hw (8 * x + y) = 1))) x) nu
/-- whether the set a is whole, by the pairs -/
def zmw (hw : Nat → Nat) (nu a : Nat) : Bool := !zany (fun x => zany (fun y => a.testBit x && (!a.testBit y && decide (hw (8 * x + y) = 2))) nu) nu
def zmk (ks ki : Nat → Nat) (nu b a : Nat) : Bool := !zany (fun x => a.testBit x && !(ks b).testBit (ki x)) nu
def zmp (ro lo ks : Nat → Nat) (sl : Nat) (si we ki : Nat → Nat) (nu b a t : Nat) : Bool := (decide (t = 0) || zmk ks ki nu b a) && ((decide (t ≤ 1) || decide (zsum si a nu + sl ≤ ro b)) && (decide (t < 3) || decide (zsum we a nu ≤ lo b)))
def zmf (ro lo ks : Nat → Nat) (sl : Nat) (si we ki hw : Nat → Nat) (nu b a : Nat) : Bool := zmp ro lo ks sl si we ki nu b a 3 && (!zma hw nu a && zmw hw nu a)
/-- one unit's company spreads: all b with a -/
def zwb (hw : Nat → Nat) (x : Nat) (t : Nat) : Nat → Nat
  | 0 => t
  | n + 1 => bif (zwb hw x t n).testBit x && decide (hw (8 * x + n) = 2) then zwb hw x t n ||| 2 ^ n else zwb hw x t n
def zwa (hw : Nat → Nat) (nu : Nat) (t : Nat) : Nat → Nat
  | 0 => t
  | n + 1 => zwb hw n (zwa hw nu t n) nu
def zwr (hw : Nat → Nat) (nu u : Nat) : Nat → Nat
  | 0 => 2 ^ u
  | n + 1 => zwa hw nu (zwr hw nu u n) nu
theorem zwb_t {hw : Nat → Nat} {x t n : Nat} (h : (zwb hw x t n).testBit x = true) (h2 : hw (8 * x + n) = 2) : zwb hw x t (n + 1) = zwb hw x t n ||| 2 ^ n := by
  show (bif _ then _ else _) = _
  rw [h, decide_eq_true h2]; rfl
theorem zwb_f {hw : Nat → Nat} {x t n : Nat} (h : (zwb hw x t n).testBit x = false) : zwb hw x t (n + 1) = zwb hw x t n := by
  show (bif _ then _ else _) = _
  rw [h]; rfl
theorem zwb_g {hw : Nat → Nat} {x t n : Nat} (h2 : ¬ hw (8 * x + n) = 2) : zwb hw x t (n + 1) = zwb hw x t n := by
  show (bif _ then _ else _) = _
  rw [decide_eq_false h2, Bool.and_false]; rfl
theorem zwb_lt {hw : Nat → Nat} {x t : Nat} (ht : t < 2 ^ 8) : ∀ n, n ≤ 8 → zwb hw x t n < 2 ^ 8
  | 0, _ => ht
  | n + 1, hn => by
    have h1 := zwb_lt (hw := hw) (x := x) ht n (by omega)
    show (bif _ then _ else _) < _
    cases (zwb hw x t n).testBit x && decide (hw (8 * x + n) = 2)
    · exact h1
    · exact Nat.or_lt_two_pow h1 (Nat.pow_lt_pow_right (by decide) (by omega))
theorem zwa_lt {hw : Nat → Nat} {nu t : Nat} (hn : nu ≤ 8) (ht : t < 2 ^ 8) : ∀ n, zwa hw nu t n < 2 ^ 8
  | 0 => ht
  | n + 1 => zwb_lt (zwa_lt hn ht n) nu hn
theorem zwr_lt {hw : Nat → Nat} {nu u : Nat} (hn : nu ≤ 8) (hu : u < 8) : ∀ n, zwr hw nu u n < 2 ^ 8
  | 0 => Nat.pow_lt_pow_right (by decide) hu
  | n + 1 => zwa_lt hn (zwr_lt hn hu n) nu
