theorem zcan_mem {s f : Nat} : f ∈ zcan s ↔ f ≤ s ∧ zd f s = 0 ∧ ¬ f &&& zlow s = 0 := by
  unfold zcan
  rw [List.mem_filter, List.mem_range]
  simp only [Bool.and_eq_true, decide_eq_true_eq]
  constructor
  · rintro ⟨a, b, c⟩; exact ⟨by omega, b, c⟩
  · rintro ⟨a, b, c⟩; exact ⟨by omega, b, c⟩
theorem zWs_mem {k s : Nat} (hs : ¬ s = 0) {v : List Nat} : v ∈ zWs (k + 1) s ↔ ∃ f w, v = f :: w ∧ f ∈ zcan s ∧ w ∈ zWs k (zd s f) := by
  show v ∈ (if s = 0 then [[]] else (zcan s).flatMap (fun f => (zWs k (zd s f)).map (f :: ·))) ↔ _
  rw [if_neg hs, List.mem_flatMap]
  constructor
  · rintro ⟨f, hf, hv⟩
    obtain ⟨w, hw, rfl⟩ := List.mem_map.mp hv
    exact ⟨f, w, rfl, hf, hw⟩
  · rintro ⟨f, w, rfl, hf, hw⟩
    exact ⟨f, hf, List.mem_map.mpr ⟨w, hw, rfl⟩⟩
theorem zWs_0 (k : Nat) : zWs k 0 = [[]] := by cases k <;> rfl
/-- the class's comparison of two ways with other first sets -/
theorem zbet_eq {O : Nat → Option Nat} {co : Nat → Nat} {ob lc : Nat → Option Nat} {fb fs : Nat → Nat} {s f g c n : Nat} {w v : List Nat} (hL : lc s = some (zwC O co (g :: v))) (hn : fb s = (g :: v).length) (hg : fs s = g) (of : ob f = O f) (og : ob g = O g) (hc : c = zwC O co (f :: w)) (hk : n = (f :: w).length) (hne : f ≠ g) : zbet ob lc fb fs s f c n = true ↔ zLt O co (f :: w) (g :: v) := by
  unfold zbet zLt
  rw [hL, hg, of, og, hn, ← hc, ← hk]
  simp only [decide_eq_true_eq, zlP]
  constructor
  · rintro (a | ⟨a, b | ⟨b, d | ⟨d, e⟩⟩⟩)
    · exact Or.inl a
    · exact Or.inr ⟨a, Or.inl b⟩
    · exact Or.inr ⟨a, Or.inr ⟨b, Or.inl d⟩⟩
    · exact Or.inr ⟨a, Or.inr ⟨b, Or.inr ⟨d, Or.inl e⟩⟩⟩
  · rintro (a | ⟨a, b | ⟨b, d | ⟨d, e | ⟨e, _⟩⟩⟩⟩)
    · exact Or.inl a
    · exact Or.inr ⟨a, Or.inl b⟩
    · exact Or.inr ⟨a, Or.inr ⟨b, Or.inl d⟩⟩
    · exact Or.inr ⟨a, Or.inr ⟨b, Or.inr ⟨d, e⟩⟩⟩
    · exact absurd e hne
theorem zfm_cg {f g : Nat → List (List Nat)} : ∀ (l : List Nat), (∀ x, x ∈ l → f x = g x) → l.flatMap f = l.flatMap g
  | [], _ => rfl
  | a :: l, h => by rw [List.flatMap_cons, List.flatMap_cons, h a List.mem_cons_self, zfm_cg l (fun x hx => h x (List.mem_cons_of_mem _ hx))]
/-- with fuel enough, more does not matter -/
theorem zWs_fuel : ∀ k s j, s ≤ k → k ≤ j → zWs j s = zWs k s
  | 0, s, j, hs, _ => by
    have e : s = 0 := by omega
    subst e
    rw [zWs_0, zWs_0]
  | k + 1, s, j, hs, hj => by
    by_cases c : s = 0
    · subst c; rw [zWs_0, zWs_0]
    · obtain ⟨j2, rfl⟩ : ∃ j2, j = j2 + 1 := ⟨j - 1, by omega⟩
      show (if s = 0 then [[]] else (zcan s).flatMap (fun f => (zWs j2 (zd s f)).map (f :: ·))) = (if s = 0 then [[]] else (zcan s).flatMap (fun f => (zWs k (zd s f)).map (f :: ·)))
      rw [if_neg c, if_neg c]
      refine zfm_cg _ (fun f hf => ?_)
      obtain ⟨h1, h2, h3⟩ := zcan_mem.mp hf
      have hlt : zd s f < s := by
        apply zd_lt
        intro q
        apply h3
        apply Nat.eq_of_testBit_eq
        intro i
        have := congrArg (fun x => x.testBit i) q
        rw [Nat.testBit_and, Nat.zero_testBit] at this ⊢
        unfold zlow
        rw [Nat.testBit_and]
        cases hb : f.testBit i with
        | false => rfl
        | true =>
          rw [hb] at this
          cases hs2 : s.testBit i with
          | false => rfl
          | true => rw [hs2] at this; cases this
      rw [zWs_fuel k (zd s f) j2 (by omega) (by omega)]
