/-! ===== the ways of a set, by their first sets; the partings are they ===== -/
def zcan (s : Nat) : List Nat := (List.range (s + 1)).filter (fun f => decide (zd f s = 0) && decide (¬ f &&& zlow s = 0))
def zWs : Nat → Nat → List (List Nat)
  | 0, s => if s = 0 then [[]] else []
  | k + 1, s => if s = 0 then [[]] else (zcan s).flatMap (fun f => (zWs k (zd s f)).map (f :: ·))
def zchk (nu : Nat) : Bool := match zPl nu 300 (List.replicate nu 0) with
  | none => false
  | some ls => ls.all (fun l => decide ((zwn (zLf l) (fun _ => 0) nu).2 ≤ 8)) && ((ls.map (zwy nu)).all (fun v => (zWs nu (2 ^ nu - 1)).contains v) && (zWs nu (2 ^ nu - 1)).all (fun v => (ls.map (zwy nu)).contains v))
set_option maxRecDepth 100000 in
theorem zchk_4 : ∀ nu, nu < 5 → zchk nu = true := by decide +kernel
