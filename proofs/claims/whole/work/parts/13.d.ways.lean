/-! ===== the reference's ways ===== -/
def zcpo (f g : Nat → Option Nat) (j : Nat) : Nat → Option Nat := fun k => if k < j then g k else f k
def zcpn (f g : Nat → Nat) (j : Nat) : Nat → Nat := fun k => if k < j then g k else f k
theorem zcpo_0 (f g : Nat → Option Nat) : zcpo f g 0 = f := by funext k; simp [zcpo]
theorem zcpn_0 (f g : Nat → Nat) : zcpn f g 0 = f := by funext k; simp [zcpn]
theorem zcpo_s (f g : Nat → Option Nat) (j : Nat) : zuo (zcpo f g j) j (g j) = zcpo f g (j + 1) := by
  funext k
  unfold zuo zcpo
  by_cases h : k = j
  · rw [if_pos h, if_pos (by omega), h]
  · rw [if_neg h]
    by_cases h2 : k < j
    · rw [if_pos h2, if_pos (by omega)]
    · rw [if_neg h2, if_neg (by omega)]
theorem zcpn_s (f g : Nat → Nat) (j : Nat) : zu (zcpn f g j) j (g j) = zcpn f g (j + 1) := by
  funext k
  unfold zu zcpn
  by_cases h : k = j
  · rw [if_pos h, if_pos (by omega), h]
  · rw [if_neg h]
    by_cases h2 : k < j
    · rw [if_pos h2, if_pos (by omega)]
    · rw [if_neg h2, if_neg (by omega)]
/-- the cost of the first n boxes of a row -/
def zct (co : Nat → Nat) (f : Nat → Option Nat) (n : Nat) : Nat := zadd (fun k => co ((f k).getD 0)) n
theorem zct_le {co : Nat → Nat} {f : Nat → Option Nat} {n : Nat} (h : ∀ x, co x ≤ 1000) (hn : n ≤ 8) : zct co f n ≤ 8000 := Nat.le_trans (zadd_le (fun k => h _) n) (Nat.mul_le_mul_right 1000 hn)
/-- whether the new way is the lesser at the first place from k on where they differ -/
def zlx (nx bx : Nat → Option Nat) (ns sx : Nat → Nat) : Nat → Nat → Bool
  | 0, _ => false
  | n + 1, k => if (nx k).getD 0 = (bx k).getD 0 then (if ns k = sx k then zlx nx bx ns sx n (k + 1) else decide (ns k < sx k)) else decide ((nx k).getD 0 < (bx k).getD 0)
theorem zlx_b {nx bx : Nat → Option Nat} {ns sx : Nat → Nat} {n k : Nat} (h : ¬ (nx k).getD 0 = (bx k).getD 0) : zlx nx bx ns sx (n + 1) k = decide ((nx k).getD 0 < (bx k).getD 0) := by
  show (if _ then _ else _) = _
  rw [if_neg h]
theorem zlx_s {nx bx : Nat → Option Nat} {ns sx : Nat → Nat} {n k : Nat} (h : (nx k).getD 0 = (bx k).getD 0) (h2 : ¬ ns k = sx k) : zlx nx bx ns sx (n + 1) k = decide (ns k < sx k) := by
  show (if _ then _ else _) = _
  rw [if_pos h, if_neg h2]
theorem zlx_k {nx bx : Nat → Option Nat} {ns sx : Nat → Nat} {n k : Nat} (h : (nx k).getD 0 = (bx k).getD 0) (h2 : ns k = sx k) : zlx nx bx ns sx (n + 1) k = zlx nx bx ns sx n (k + 1) := by
  show (if _ then _ else _) = _
  rw [if_pos h, if_pos h2]
/-- whether the new way (cn boxes) is better than the kept one -/
def zmb (co : Nat → Nat) (ch : Option Nat) (bx : Nat → Option Nat) (sx : Nat → Nat) (cn : Nat) (nx : Nat → Option Nat) (ns : Nat → Nat) : Bool := match ch with
  | none => true
  | some q => if zct co nx cn = zct co bx q then (if cn = q then zlx nx bx ns sx cn 0 else decide (cn < q)) else decide (zct co nx cn < zct co bx q)
theorem zmb_c {co : Nat → Nat} {q : Nat} {bx : Nat → Option Nat} {sx : Nat → Nat} {cn : Nat} {nx : Nat → Option Nat} {ns : Nat → Nat} (h : ¬ zct co nx cn = zct co bx q) : zmb co (some q) bx sx cn nx ns = decide (zct co nx cn < zct co bx q) := by
  show (if _ then _ else _) = _
  rw [if_neg h]
theorem zmb_n {co : Nat → Nat} {q : Nat} {bx : Nat → Option Nat} {sx : Nat → Nat} {cn : Nat} {nx : Nat → Option Nat} {ns : Nat → Nat} (h : zct co nx cn = zct co bx q) (h2 : ¬ cn = q) : zmb co (some q) bx sx cn nx ns = decide (cn < q) := by
  show (if _ then _ else _) = _
  rw [if_pos h, if_neg h2]
theorem zmb_l {co : Nat → Nat} {q : Nat} {bx : Nat → Option Nat} {sx : Nat → Nat} {cn : Nat} {nx : Nat → Option Nat} {ns : Nat → Nat} (h : zct co nx cn = zct co bx q) (h2 : cn = q) : zmb co (some q) bx sx cn nx ns = zlx nx bx ns sx cn 0 := by
  show (if _ then _ else _) = _
  rw [if_pos h, if_pos h2]
/-- the greatest of the first n -/
def zmx (pt : Nat → Nat) : Nat → Nat
  | 0 => 0
  | n + 1 => if zmx pt n < pt n then pt n else zmx pt n
theorem zmx_t {pt : Nat → Nat} {n : Nat} (h : zmx pt n < pt n) : zmx pt (n + 1) = pt n := by
  show (if _ then _ else _) = _
  rw [if_pos h]
theorem zmx_f {pt : Nat → Nat} {n : Nat} (h : ¬ zmx pt n < pt n) : zmx pt (n + 1) = zmx pt n := by
  show (if _ then _ else _) = _
  rw [if_neg h]
theorem zmx_lt {pt : Nat → Nat} {M : Nat} (hM : 0 < M) (h : ∀ k, pt k < M) : ∀ n, zmx pt n < M
  | 0 => hM
  | n + 1 => by
    show (if _ then _ else _) < _
    by_cases q : zmx pt n < pt n
    · rw [if_pos q]; exact h n
    · rw [if_neg q]; exact zmx_lt hM h n
/-- the places behind u, up to j, are 0 -/
def zclz (pt : Nat → Nat) (u j : Nat) : Nat → Nat := fun k => if u < k ∧ k < j then 0 else pt k
theorem zclz_0 (pt : Nat → Nat) (u : Nat) : zclz pt u (u + 1) = pt := by
  funext k
  unfold zclz
  rw [if_neg (by omega)]
theorem zclz_s (pt : Nat → Nat) {u j : Nat} (h : u < j) : zu (zclz pt u j) j 0 = zclz pt u (j + 1) := by
  funext k
  unfold zu zclz
  by_cases q : k = j
  · rw [if_pos q, if_pos (by omega)]
  · rw [if_neg q]
    by_cases q2 : u < k ∧ k < j
    · rw [if_pos q2, if_pos (by omega)]
    · rw [if_neg q2, if_neg (by omega)]
/-- the next way of parting, from place u on down -/
def zns (pt : Nat → Nat) (nu : Nat) : Nat → Option (Nat → Nat)
  | 0 => none
  | u + 1 => if pt (u + 1) ≤ zmx pt (u + 1) then some (zclz (zu pt (u + 1) (pt (u + 1) + 1)) (u + 1) nu) else zns pt nu u
theorem zns_t {pt : Nat → Nat} {nu u : Nat} (h : pt (u + 1) ≤ zmx pt (u + 1)) : zns pt nu (u + 1) = some (zclz (zu pt (u + 1) (pt (u + 1) + 1)) (u + 1) nu) := by
  show (if _ then _ else _) = _
  rw [if_pos h]
theorem zns_f {pt : Nat → Nat} {nu u : Nat} (h : ¬ pt (u + 1) ≤ zmx pt (u + 1)) : zns pt nu (u + 1) = zns pt nu u := by
  show (if _ then _ else _) = _
  rw [if_neg h]
/-- the sets and their number after u units -/
def zwn (pt : Nat → Nat) (ns : Nat → Nat) : Nat → (Nat → Nat) × Nat
  | 0 => (fun k => if k < 8 then 0 else ns k, 0)
  | u + 1 => (zu (zwn pt ns u).1 (pt u) ((zwn pt ns u).1 (pt u) ||| 2 ^ u), if (zwn pt ns u).2 < pt u + 1 then pt u + 1 else (zwn pt ns u).2)
theorem zwn_le {pt ns : Nat → Nat} : ∀ n, (∀ u, u < n → pt u ≤ u) → (zwn pt ns n).2 ≤ n
  | 0, _ => Nat.le_refl _
  | n + 1, h => by
    have h1 := zwn_le (pt := pt) (ns := ns) n (fun u hu => h u (by omega))
    have h2 := h n (by omega)
    show (if _ then _ else _) ≤ _
    by_cases q : (zwn pt ns n).2 < pt n + 1
    · rw [if_pos q]; omega
    · rw [if_neg q]; omega
theorem zwn_lt {pt ns : Nat → Nat} (hns : ∀ k, ns k < 256) : ∀ n, n ≤ 8 → ∀ k, (zwn pt ns n).1 k < 256
  | 0, _, k => by
    show (if k < 8 then 0 else ns k) < 256
    by_cases q : k < 8
    · rw [if_pos q]; decide
    · rw [if_neg q]; exact hns k
  | n + 1, h, k => zu_b (zwn_lt hns n (by omega)) (Nat.or_lt_two_pow (n := 8) (zwn_lt hns n (by omega) _) (Nat.pow_lt_pow_right (by decide) (by omega))) k
