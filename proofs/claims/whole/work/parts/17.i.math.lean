/-! ===== the ways of a set, by their first sets; the partings are they ===== -/
def zcan (s : Nat) : List Nat := (List.range (s + 1)).filter (fun f => decide (zd f s = 0) && decide (¬ f &&& zlow s = 0))
def zWs : Nat → Nat → List (List Nat)
  | 0, s => if s = 0 then [[]] else []
  | k + 1, s => if s = 0 then [[]] else (zcan s).flatMap (fun f => (zWs k (zd s f)).map (f :: ·))
def zchk (nu : Nat) : Bool := match zPl nu 300 (List.replicate nu 0) with
  | none => false
  | some ls => ls.all (fun l => decide ((zwn (zLf l) (fun _ => 0) nu).2 ≤ 8)) && ((ls.map (zwy nu)).all (fun v => (zWs 64 (2 ^ nu - 1)).contains v) && (zWs 64 (2 ^ nu - 1)).all (fun v => (ls.map (zwy nu)).contains v))
set_option maxRecDepth 100000 in
theorem zchk_4 : ∀ nu, nu < 5 → zchk nu = true := by decide +kernel
set_option maxRecDepth 100000 in
theorem zchk_5 : zchk 5 = true := by decide +kernel
set_option maxRecDepth 100000 in
theorem zchk_6 : zchk 6 = true := by decide +kernel
theorem zchk_all {nu : Nat} (h : nu ≤ 6) : zchk nu = true := by
  rcases (show nu < 5 ∨ nu = 5 ∨ nu = 6 by omega) with q | rfl | rfl
  · exact zchk_4 nu q
  · exact zchk_5
  · exact zchk_6
/-- the reference's search comes to its end; its ways are those of the whole set -/
theorem zparts {nu : Nat} (h : nu ≤ 6) : ∃ ls, zPl nu 300 (List.replicate nu 0) = some ls ∧ (∀ l, l ∈ ls → (zwn (zLf l) (fun _ => 0) nu).2 ≤ 8) ∧ ∀ v, v ∈ ls.map (zwy nu) ↔ v ∈ zWs 64 (2 ^ nu - 1) := by
  have hc := zchk_all h
  unfold zchk at hc
  cases hz : zPl nu 300 (List.replicate nu 0) with
  | none => rw [hz] at hc; cases hc
  | some ls =>
    rw [hz] at hc
    simp only [Bool.and_eq_true, List.all_eq_true, decide_eq_true_eq, List.contains_iff_mem] at hc
    exact ⟨ls, rfl, hc.1, fun v => ⟨hc.2.1 v, hc.2.2 v⟩⟩
