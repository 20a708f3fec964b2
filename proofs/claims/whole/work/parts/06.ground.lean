/-! ===== calls by the words of gtbl; truth as a number ===== -/
def zB (b : Bool) : Int32 := bif b then 1 else 0
theorem zB_0 {b : Bool} : zB b = 0 ↔ b = false := by cases b <;> decide
theorem zB_1 {b : Bool} : ¬ zB b = 0 ↔ b = true := by cases b <;> decide
theorem zB_nar (b : Bool) : narrow .boolean (.int (zB b)) = .int (zB b) := by cases b <;> rfl
theorem zB_fit (b : Bool) : fits .boolean (.int (zB b)) = true := by cases b <;> rfl
theorem zgood {y : MethodName} {bytes : ByteArray} {maxL : Nat} {ret : Option FieldType} (hc : Cond.code y bytes maxL ret ∈ gtbl) : GoodIn gtbl (zws y bytes maxL ret) := by
  intro w h
  rcases List.mem_cons.mp h with rfl | h
  · exact ⟨hc, gtbl_good _ hc⟩
  · exact ⟨h, gtbl_good w h⟩
section ZCW
variable {R : Room} {s : State} {args : Array Value} {own C host : String} {index maxL mc ms n : Nat} {y : MethodName} {bytes : ByteArray} {ret : Option FieldType} {rm : Room}
theorem zcwV (ht : ∀ w ∈ gtbl, w.before args s = true) (hc : Cond.code y bytes maxL ret ∈ gtbl) (hl : Cond.methodLink own index y ∈ gtbl) (hi : Cond.instanceMethod y ∈ gtbl) (hs : Cond.selects C y y ∈ gtbl) (hn : Cond.initialized y.cls ∈ gtbl)
    (hd : y.cls ≠ "java/lang/invoke/MethodHandle" ∧ y.cls ≠ "java/lang/invoke/VarHandle" ∧ (parseMethodDescriptor y.desc).map (fun d => d.parameters.length) = some n) (hrc : rm.cells = mc) (hrs : rm.slots = ms) (hR : rm.frames + 1 ≤ R.frames ∧ 8 + (maxL + 11) + rm.locals ≤ R.locals) :
    CallW R s args own C index y bytes maxL ret (zws y bytes maxL ret) rm mc ms n :=
  ⟨callB_of n ht (zgood hc) rfl hrc hrs (ht _ hn) (ht _ hl) hd hR, ht _ hi, ht _ hs⟩
theorem zcwS (ht : ∀ w ∈ gtbl, w.before args s = true) (hc : Cond.code y bytes maxL ret ∈ gtbl) (hl : Cond.methodLink own index y ∈ gtbl) (hi : Cond.static y ∈ gtbl) (hn : Cond.initialized y.cls ∈ gtbl)
    (hd : y.cls ≠ "java/lang/invoke/MethodHandle" ∧ y.cls ≠ "java/lang/invoke/VarHandle" ∧ (parseMethodDescriptor y.desc).map (fun d => d.parameters.length) = some n) (hrc : rm.cells = mc) (hrs : rm.slots = ms) (hR : rm.frames + 1 ≤ R.frames ∧ 8 + (maxL + 11) + rm.locals ≤ R.locals) :
    CallB R s args own index y bytes maxL ret (zws y bytes maxL ret) rm mc ms n ∧ (Cond.static y).before args s = true :=
  ⟨callB_of n ht (zgood hc) rfl hrc hrs (ht _ hn) (ht _ hl) hd hR, ht _ hi⟩
theorem zcwI (ht : ∀ w ∈ gtbl, w.before args s = true) (hc : Cond.code y bytes maxL none ∈ gtbl) (hl : Cond.methodLink own index y ∈ gtbl) (hi : Cond.instanceMethod y ∈ gtbl) (hn : Cond.initialized y.cls ∈ gtbl) (hy : y.name = "<init>")
    (hd : y.cls ≠ "java/lang/invoke/MethodHandle" ∧ y.cls ≠ "java/lang/invoke/VarHandle" ∧ (parseMethodDescriptor y.desc).map (fun d => d.parameters.length) = some n) (hrc : rm.cells = mc) (hrs : rm.slots = ms) (hR : rm.frames + 1 ≤ R.frames ∧ 8 + (maxL + 11) + rm.locals ≤ R.locals) :
    CallB R s args own index y bytes maxL none (zws y bytes maxL none) rm mc ms n ∧ y.name = "<init>" ∧ (Cond.instanceMethod y).before args s = true :=
  ⟨callB_of n ht (zgood hc) rfl hrc hrs (ht _ hn) (ht _ hl) hd hR, hy, ht _ hi⟩
theorem zcnB (ht : ∀ w ∈ gtbl, w.before args s = true) (hc : Cond.code y bytes maxL ret ∈ gtbl) (hl : va_Nw (.methodLinkNest own index y host) s) (hn : Cond.initialized y.cls ∈ gtbl)
    (hd : y.cls ≠ "java/lang/invoke/MethodHandle" ∧ y.cls ≠ "java/lang/invoke/VarHandle" ∧ (parseMethodDescriptor y.desc).map (fun d => d.parameters.length) = some n) (hrc : rm.cells = mc) (hrs : rm.slots = ms) (hR : rm.frames + 1 ≤ R.frames ∧ 8 + (maxL + 11) + rm.locals ≤ R.locals) :
    va_CN R s args own index y host bytes maxL ret (zws y bytes maxL ret) rm mc ms n := va_cnB n ht (zgood hc) rfl hrc hrs hl (ht _ hn) hd hR
theorem zcnS (ht : ∀ w ∈ gtbl, w.before args s = true) (hc : Cond.code y bytes maxL ret ∈ gtbl) (hl : va_Nw (.methodLinkNest own index y host) s) (hi : Cond.static y ∈ gtbl) (hn : Cond.initialized y.cls ∈ gtbl)
    (hd : y.cls ≠ "java/lang/invoke/MethodHandle" ∧ y.cls ≠ "java/lang/invoke/VarHandle" ∧ (parseMethodDescriptor y.desc).map (fun d => d.parameters.length) = some n) (hrc : rm.cells = mc) (hrs : rm.slots = ms) (hR : rm.frames + 1 ≤ R.frames ∧ 8 + (maxL + 11) + rm.locals ≤ R.locals) :
    va_CN R s args own index y host bytes maxL ret (zws y bytes maxL ret) rm mc ms n ∧ (Cond.static y).before args s = true ∧ True := ⟨zcnB ht hc hl hn hd hrc hrs hR, ht _ hi, trivial⟩
theorem zcnI (ht : ∀ w ∈ gtbl, w.before args s = true) (hc : Cond.code y bytes maxL none ∈ gtbl) (hl : va_Nw (.methodLinkNest own index y host) s) (hi : Cond.instanceMethod y ∈ gtbl) (hn : Cond.initialized y.cls ∈ gtbl) (hy : y.name = "<init>")
    (hd : y.cls ≠ "java/lang/invoke/MethodHandle" ∧ y.cls ≠ "java/lang/invoke/VarHandle" ∧ (parseMethodDescriptor y.desc).map (fun d => d.parameters.length) = some n) (hrc : rm.cells = mc) (hrs : rm.slots = ms) (hR : rm.frames + 1 ≤ R.frames ∧ 8 + (maxL + 11) + rm.locals ≤ R.locals) :
    va_CN R s args own index y host bytes maxL none (zws y bytes maxL none) rm mc ms n ∧ y.name = "<init>" ∧ (Cond.instanceMethod y).before args s = true := ⟨zcnB ht hc hl hn hd hrc hrs hR, hy, ht _ hi⟩
end ZCW
/-! ===== the pictures of the class's objects ===== -/
/-- the catalogue: its object, rooms, loads, costs, kinds -/
def wC (hc c1 c2 c3 c4 : Nat) (cA : ClassId) (ro lo co ks : Nat → Nat) (nb sl : Nat) : va_W :=
  [(hc, .inr (0, [.ref c1, .ref c2, .ref c3, .ref c4, .int (nI nb), .int (nI sl)])), (c1, .inl (cA, 6, .inl (fun x => nI (ro x)))), (c2, .inl (cA, 6, .inl (fun x => nI (lo x)))), (c3, .inl (cA, 6, .inl (fun x => nI (co x)))), (c4, .inl (cA, 6, .inl (fun x => nI (ks x))))]
/-- the units: their object, sizes, weights, kinds, apart, together -/
def wU (hu u1 u2 u3 u4 u5 : Nat) (cA : ClassId) (si we ki ap tg : Nat → Nat) (nu : Nat) : va_W :=
  [(hu, .inr (3, [.ref u1, .ref u2, .ref u3, .ref u4, .ref u5, .int (nI nu)])), (u1, .inl (cA, 8, .inl (fun x => nI (si x)))), (u2, .inl (cA, 8, .inl (fun x => nI (we x)))), (u3, .inl (cA, 8, .inl (fun x => nI (ki x)))), (u4, .inl (cA, 8, .inl (fun x => nI (ap x)))), (u5, .inl (cA, 8, .inl (fun x => nI (tg x))))]
/-- the choice: its object, boxes, sets -/
def wH (hd d1 d2 : Nat) (cA : ClassId) (bn us : Nat → Nat) (nh ct : Nat) (mk ex : Bool) : va_W :=
  [(hd, .inr (1, [.ref d1, .ref d2, .int (nI nh), .int (nI ct), .int (zB mk), .int (zB ex)])), (d1, .inl (cA, 8, .inl (fun x => nI (bn x)))), (d2, .inl (cA, 8, .inl (fun x => nI (us x))))]
/-- a number or -1 -/
def zo : Option Nat → Int32
  | none => -1
  | some v => nI v
/-- the search: its object, boxes offered, costs offered, least costs, numbers, first sets -/
def wE (he e1 e2 e3 e4 e5 : Nat) (cA : ClassId) (ob : Nat → Option Nat) (oc : Nat → Nat) (lc : Nat → Option Nat) (fb fs : Nat → Nat) : va_W :=
  [(he, .inr (2, [.ref e1, .ref e2, .ref e3, .ref e4, .ref e5])), (e1, .inl (cA, 64, .inl (fun x => zo (ob x)))), (e2, .inl (cA, 64, .inl (fun x => nI (oc x)))), (e3, .inl (cA, 64, .inl (fun x => zo (lc x)))), (e4, .inl (cA, 64, .inl (fun x => nI (fb x)))), (e5, .inl (cA, 64, .inl (fun x => nI (fs x))))]
section ZT
variable {p : Program} {l : Launch} {e : Env} {R : Room} {s : State} {m : MethodId} {args : Array Value} {below : List Frame} {meth : Method} {c : Code} {Q : State → Prop}
variable {nL cells slots pc : Nat} {D : va_G} {cl : List vw_C} {A : Nat → Prop} {ws : va_W} {lv : List (Nat × Value)} {st : List Value}
/-- the number on top, told otherwise -/
theorem z_topi {x y : Int32} (h : x = y) (k : zW p l e R s m args below meth c nL D cl A cells slots Q ws lv pc (.int y :: st)) : zW p l e R s m args below meth c nL D cl A cells slots Q ws lv pc (.int x :: st) := h ▸ k
end ZT
theorem zhas {b : Int32} {n : Nat} (hn : n < 2 ^ 31) : (0 ≤ b ∧ b < nI n) ↔ ∃ j, j < n ∧ b = nI j := by
  constructor
  · rintro ⟨h1, h2⟩
    have h3 : ¬ b < 0 := by rw [Int32.lt_iff_toInt_lt]; rw [Int32.le_iff_toInt_le] at h1; omega
    obtain ⟨j, hj, rfl⟩ := nI_of h3
    exact ⟨j, (nI_ltI hj hn).mp h2, rfl⟩
  · rintro ⟨j, hj, rfl⟩
    exact ⟨nI_pos' (by omega), nI_lt hj hn⟩
theorem zset_t {P : Nat → Bool} {n : Nat} (h : P n = true) : zset P (n + 1) = zset P n ||| 2 ^ n := by unfold zset; rw [h]; cases n <;> rfl
theorem zset_f {P : Nat → Bool} {n : Nat} (h : P n = false) : zset P (n + 1) = zset P n := by unfold zset; rw [h]; cases n <;> rfl
theorem zsum_t {f : Nat → Nat} {a n : Nat} (h : a.testBit n = true) : zsum f a (n + 1) = zsum f a n + f n := by unfold zsum; rw [h]; cases n <;> rfl
theorem zsum_f {f : Nat → Nat} {a n : Nat} (h : a.testBit n = false) : zsum f a (n + 1) = zsum f a n := by unfold zsum; rw [h]; cases n <;> rfl
theorem zuni_t {f : Nat → Nat} {a n : Nat} (h : a.testBit n = true) : zuni f a (n + 1) = zuni f a n ||| f n := by unfold zuni; rw [h]; cases n <;> rfl
theorem zuni_f {f : Nat → Nat} {a n : Nat} (h : a.testBit n = false) : zuni f a (n + 1) = zuni f a n := by unfold zuni; rw [h]; cases n <;> rfl
theorem zge_end {j n : Nat} (h : j ≤ n) (hn : n < 2 ^ 31) (c : nI n ≤ nI j) : j = n := by
  rw [nI_leI hn (by omega)] at c; omega
theorem zge_on {j n : Nat} (hn : n < 2 ^ 31) (h : j ≤ n) (c : ¬ nI n ≤ nI j) : j < n := by
  rw [nI_leI hn (by omega)] at c; omega
theorem zo_ne {v : Nat} (h : v < 2 ^ 31) : ¬ zo (some v) = -1 := by
  intro q
  have h1 : (nI v).toInt = ((-1 : Int32)).toInt := congrArg Int32.toInt q
  rw [nI_toInt h] at h1
  have h2 : ((-1 : Int32)).toInt = -1 := by decide
  omega
/-- of the numbers below n that P holds of the one with the least cost, of equal ones the first -/
def zche (P : Nat → Bool) (co : Nat → Nat) : Nat → Option Nat
  | 0 => none
  | n + 1 => bif P n then (match zche P co n with | none => some n | some b => if co n < co b then some n else some b) else zche P co n
theorem zche_f {P : Nat → Bool} {co : Nat → Nat} {n : Nat} (h : P n = false) : zche P co (n + 1) = zche P co n := by
  show (bif P n then _ else _) = _
  rw [h]; rfl
theorem zche_n {P : Nat → Bool} {co : Nat → Nat} {n : Nat} (h : P n = true) (h2 : zche P co n = none) : zche P co (n + 1) = some n := by
  show (bif P n then _ else _) = _
  rw [h, h2]; rfl
theorem zche_l {P : Nat → Bool} {co : Nat → Nat} {n b : Nat} (h : P n = true) (h2 : zche P co n = some b) (h3 : co n < co b) : zche P co (n + 1) = some n := by
  show (bif P n then _ else _) = _
  rw [h, h2]; show (if _ then _ else _) = _; rw [if_pos h3]
theorem zche_k {P : Nat → Bool} {co : Nat → Nat} {n b : Nat} (h : P n = true) (h2 : zche P co n = some b) (h3 : ¬ co n < co b) : zche P co (n + 1) = some b := by
  show (bif P n then _ else _) = _
  rw [h, h2]; show (if _ then _ else _) = _; rw [if_neg h3]
theorem zche_lt {P : Nat → Bool} {co : Nat → Nat} : ∀ {n b : Nat}, zche P co n = some b → b < n ∧ P b = true
  | 0, b, h => by cases h
  | n + 1, b, h => by
    cases hp : P n with
    | false =>
      rw [zche_f hp] at h
      have := zche_lt h
      exact ⟨by omega, this.2⟩
    | true =>
      cases hz : zche P co n with
      | none =>
        rw [zche_n hp hz] at h
        cases h
        exact ⟨by omega, hp⟩
      | some d =>
        have hd := zche_lt hz
        by_cases h3 : co n < co d
        · rw [zche_l hp hz h3] at h
          cases h
          exact ⟨by omega, hp⟩
        · rw [zche_k hp hz h3] at h
          cases h
          exact ⟨by omega, hd.2⟩
