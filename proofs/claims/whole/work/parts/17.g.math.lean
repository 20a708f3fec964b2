/-! ===== a way out of an array ===== -/
def zli (g : Nat → Nat) : Nat → Nat → List Nat
  | 0, _ => []
  | n + 1, k => g k :: zli g n (k + 1)
theorem zli_len (g : Nat → Nat) : ∀ n k, (zli g n k).length = n
  | 0, _ => rfl
  | n + 1, k => by show (zli g n (k + 1)).length + 1 = n + 1; rw [zli_len g n (k + 1)]
theorem zli_cg {g h : Nat → Nat} : ∀ n k, (∀ j, k ≤ j → j < k + n → g j = h j) → zli g n k = zli h n k
  | 0, _, _ => rfl
  | n + 1, k, e => by
    show g k :: zli g n (k + 1) = h k :: zli h n (k + 1)
    rw [e k (Nat.le_refl _) (by omega), zli_cg n (k + 1) (fun j h1 h2 => e j (by omega) (by omega))]
theorem zli_mem {g : Nat → Nat} {f : Nat} : ∀ n k, f ∈ zli g n k ↔ ∃ j, k ≤ j ∧ j < k + n ∧ g j = f
  | 0, k => by
    constructor
    · intro h; cases h
    · rintro ⟨j, h1, h2, _⟩; omega
  | n + 1, k => by
    show f ∈ g k :: zli g n (k + 1) ↔ _
    rw [List.mem_cons, zli_mem n (k + 1)]
    constructor
    · rintro (e | ⟨j, h1, h2, h3⟩)
      · exact ⟨k, Nat.le_refl _, by omega, e.symm⟩
      · exact ⟨j, by omega, by omega, h3⟩
    · rintro ⟨j, h1, h2, h3⟩
      by_cases c : j = k
      · subst c; exact Or.inl h3.symm
      · exact Or.inr ⟨j, by omega, by omega, h3⟩
theorem zlx_eq {O : Nat → Option Nat} {nx bx : Nat → Option Nat} {ns sx : Nat → Nat} : ∀ n k, (∀ j, k ≤ j → j < k + n → nx j = O (ns j) ∧ bx j = O (sx j)) → (zlx nx bx ns sx n k = true ↔ zlP O (zli ns n k) (zli sx n k))
  | 0, k, _ => by
    constructor
    · intro h; cases h
    · intro h; exact h.elim
  | n + 1, k, h => by
    have ih := zlx_eq (O := O) (nx := nx) (bx := bx) (ns := ns) (sx := sx) n (k + 1) (fun j h1 h2 => h j (by omega) (by omega))
    obtain ⟨e1, e2⟩ := h k (Nat.le_refl _) (by omega)
    show _ ↔ (O (ns k)).getD 0 < (O (sx k)).getD 0 ∨ ((O (ns k)).getD 0 = (O (sx k)).getD 0 ∧ (ns k < sx k ∨ (ns k = sx k ∧ zlP O (zli ns n (k + 1)) (zli sx n (k + 1)))))
    by_cases c : (nx k).getD 0 = (bx k).getD 0
    · by_cases c2 : ns k = sx k
      · rw [zlx_k c c2, ih]
        rw [e1, e2] at c
        constructor
        · intro q; exact Or.inr ⟨c, Or.inr ⟨c2, q⟩⟩
        · rintro (q | ⟨_, q | ⟨_, q⟩⟩)
          · omega
          · omega
          · exact q
      · rw [zlx_s c c2, decide_eq_true_eq]
        rw [e1, e2] at c
        constructor
        · intro q; exact Or.inr ⟨c, Or.inl q⟩
        · rintro (q | ⟨_, q | ⟨q, _⟩⟩)
          · omega
          · exact q
          · exact absurd q c2
    · rw [zlx_b c, decide_eq_true_eq, e1, e2]
      rw [e1, e2] at c
      constructor
      · intro q; exact Or.inl q
      · rintro (q | ⟨q, _⟩)
        · exact q
        · exact absurd q c
theorem zwC_li {O : Nat → Option Nat} {co : Nat → Nat} {g : Nat → Nat} : ∀ n k, zwC O co (zli g (n + 1) k) = zwC O co (zli g n k) + co ((O (g (k + n))).getD 0)
  | 0, k => by
    show co ((O (g k)).getD 0) + 0 = 0 + co ((O (g (k + 0))).getD 0)
    rw [Nat.add_zero, Nat.zero_add]; rfl
  | n + 1, k => by
    have ih := zwC_li (O := O) (co := co) (g := g) n (k + 1)
    show co ((O (g k)).getD 0) + zwC O co (zli g (n + 1) (k + 1)) = co ((O (g k)).getD 0) + zwC O co (zli g n (k + 1)) + co ((O (g (k + (n + 1)))).getD 0)
    rw [ih, show k + 1 + n = k + (n + 1) by omega]
    omega
theorem zct_li {O : Nat → Option Nat} {co : Nat → Nat} {nx : Nat → Option Nat} {ns : Nat → Nat} : ∀ n, (∀ j, j < n → nx j = O (ns j)) → zct co nx n = zwC O co (zli ns n 0)
  | 0, _ => rfl
  | n + 1, h => by
    rw [zwC_li, ← zct_li n (fun j hj => h j (by omega)), Nat.zero_add, ← h n (by omega)]
    rfl
theorem zmb_eq {O : Nat → Option Nat} {co : Nat → Nat} {q cn : Nat} {bx nx : Nat → Option Nat} {sx ns : Nat → Nat} (h1 : ∀ j, j < cn → nx j = O (ns j)) (h2 : ∀ j, j < q → bx j = O (sx j)) : zmb co (some q) bx sx cn nx ns = true ↔ zLt O co (zli ns cn 0) (zli sx q 0) := by
  unfold zLt
  rw [zli_len, zli_len, ← zct_li cn h1, ← zct_li q h2]
  by_cases c : zct co nx cn = zct co bx q
  · by_cases c2 : cn = q
    · rw [zmb_l c c2]
      subst c2
      rw [zlx_eq (O := O) cn 0 (fun j _ hj => ⟨h1 j (by omega), h2 j (by omega)⟩)]
      constructor
      · intro z; exact Or.inr ⟨c, Or.inr ⟨rfl, z⟩⟩
      · rintro (z | ⟨_, z | ⟨_, z⟩⟩)
        · omega
        · omega
        · exact z
    · rw [zmb_n c c2, decide_eq_true_eq]
      constructor
      · intro z; exact Or.inr ⟨c, Or.inl z⟩
      · rintro (z | ⟨_, z | ⟨z, _⟩⟩)
        · omega
        · exact z
        · exact absurd z c2
  · rw [zmb_c c, decide_eq_true_eq]
    constructor
    · intro z; exact Or.inl z
    · rintro (z | ⟨z, _⟩)
      · exact z
      · exact absurd z c
