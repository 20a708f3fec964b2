theorem zcan_mem {s f : Nat} : f ∈ zcan s ↔ f ≤ s ∧ zd f s = 0 ∧ ¬ f &&& zlow s = 0 := by
  unfold zcan
  rw [List.mem_filter, List.mem_range]
  simp only [Bool.and_eq_true, decide_eq_true_eq]
  constructor
  · rintro ⟨a, b, c⟩; exact ⟨by omega, b, c⟩
  · rintro ⟨a, b, c⟩; exact ⟨by omega, b, c⟩
theorem zWs_mem {k s : Nat} (hs : ¬ s = 0) {v : List Nat} : v ∈ zWs (k + 1) s ↔ ∃ f w, v = f :: w ∧ f ∈ zcan s ∧ w ∈ zWs k (zd s f) := by
  show v ∈ (if s = 0 then [[]] else (zcan s).flatMap (fun f => (zWs k (zd s f)).map (f :: ·))) ↔ _
  rw [if_neg hs, List.mem_flatMap]
  constructor
  · rintro ⟨f, hf, hv⟩
    obtain ⟨w, hw, rfl⟩ := List.mem_map.mp hv
    exact ⟨f, w, rfl, hf, hw⟩
  · rintro ⟨f, w, rfl, hf, hw⟩
    exact ⟨f, hf, List.mem_map.mpr ⟨w, hw, rfl⟩⟩
theorem zWs_0 (k : Nat) : zWs k 0 = [[]] := by cases k <;> rfl
/-- the class's comparison of two ways with other first sets -/
theorem zbet_eq {O : Nat → Option Nat} {co : Nat → Nat} {ob lc : Nat → Option Nat} {fb fs : Nat → Nat} {s f g c n : Nat} {w v : List Nat} (hL : lc s = some (zwC O co (g :: v))) (hn : fb s = (g :: v).length) (hg : fs s = g) (of : ob f = O f) (og : ob g = O g) (hc : c = zwC O co (f :: w)) (hk : n = (f :: w).length) (hne : f ≠ g) : zbet ob lc fb fs s f c n = true ↔ zLt O co (f :: w) (g :: v) := by
  unfold zbet zLt
  rw [hL, hg, of, og, hn, ← hc, ← hk]
  simp only [decide_eq_true_eq, zlP]
  constructor
  · rintro (a | ⟨a, b | ⟨b, d | ⟨d, e⟩⟩⟩)
    · exact Or.inl a
    · exact Or.inr ⟨a, Or.inl b⟩
    · exact Or.inr ⟨a, Or.inr ⟨b, Or.inl d⟩⟩
    · exact Or.inr ⟨a, Or.inr ⟨b, Or.inr ⟨d, Or.inl e⟩⟩⟩
  · rintro (a | ⟨a, b | ⟨b, d | ⟨d, e | ⟨e, _⟩⟩⟩⟩)
    · exact Or.inl a
    · exact Or.inr ⟨a, Or.inl b⟩
    · exact Or.inr ⟨a, Or.inr ⟨b, Or.inl d⟩⟩
    · exact Or.inr ⟨a, Or.inr ⟨b, Or.inr ⟨d, e⟩⟩⟩
    · exact absurd e hne
