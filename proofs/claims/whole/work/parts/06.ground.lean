/-! ===== calls by the words of gtbl; truth as a number ===== -/
def zB (b : Bool) : Int32 := bif b then 1 else 0
theorem zB_0 {b : Bool} : zB b = 0 ↔ b = false := by cases b <;> decide
theorem zB_1 {b : Bool} : ¬ zB b = 0 ↔ b = true := by cases b <;> decide
theorem zB_nar (b : Bool) : narrow .boolean (.int (zB b)) = .int (zB b) := by cases b <;> rfl
theorem zB_fit (b : Bool) : fits .boolean (.int (zB b)) = true := by cases b <;> rfl
theorem zgood {y : MethodName} {bytes : ByteArray} {maxL : Nat} {ret : Option FieldType} (hc : Cond.code y bytes maxL ret ∈ gtbl) : GoodIn gtbl (zws y bytes maxL ret) := by
  intro w h
  rcases List.mem_cons.mp h with rfl | h
  · exact ⟨hc, gtbl_good _ hc⟩
  · exact ⟨h, gtbl_good w h⟩
section ZCW
variable {R : Room} {s : State} {args : Array Value} {own C host : String} {index maxL mc ms n : Nat} {y : MethodName} {bytes : ByteArray} {ret : Option FieldType} {rm : Room}
theorem zcwV (ht : ∀ w ∈ gtbl, w.before args s = true) (hc : Cond.code y bytes maxL ret ∈ gtbl) (hl : Cond.methodLink own index y ∈ gtbl) (hi : Cond.instanceMethod y ∈ gtbl) (hs : Cond.selects C y y ∈ gtbl) (hn : Cond.initialized y.cls ∈ gtbl)
    (hd : y.cls ≠ "java/lang/invoke/MethodHandle" ∧ y.cls ≠ "java/lang/invoke/VarHandle" ∧ (parseMethodDescriptor y.desc).map (fun d => d.parameters.length) = some n) (hrc : rm.cells = mc) (hrs : rm.slots = ms) (hR : rm.frames + 1 ≤ R.frames ∧ 8 + (maxL + 11) + rm.locals ≤ R.locals) :
    CallW R s args own C index y bytes maxL ret (zws y bytes maxL ret) rm mc ms n :=
  ⟨callB_of n ht (zgood hc) rfl hrc hrs (ht _ hn) (ht _ hl) hd hR, ht _ hi, ht _ hs⟩
theorem zcwS (ht : ∀ w ∈ gtbl, w.before args s = true) (hc : Cond.code y bytes maxL ret ∈ gtbl) (hl : Cond.methodLink own index y ∈ gtbl) (hi : Cond.static y ∈ gtbl) (hn : Cond.initialized y.cls ∈ gtbl)
    (hd : y.cls ≠ "java/lang/invoke/MethodHandle" ∧ y.cls ≠ "java/lang/invoke/VarHandle" ∧ (parseMethodDescriptor y.desc).map (fun d => d.parameters.length) = some n) (hrc : rm.cells = mc) (hrs : rm.slots = ms) (hR : rm.frames + 1 ≤ R.frames ∧ 8 + (maxL + 11) + rm.locals ≤ R.locals) :
    CallB R s args own index y bytes maxL ret (zws y bytes maxL ret) rm mc ms n ∧ (Cond.static y).before args s = true :=
  ⟨callB_of n ht (zgood hc) rfl hrc hrs (ht _ hn) (ht _ hl) hd hR, ht _ hi⟩
theorem zcwI (ht : ∀ w ∈ gtbl, w.before args s = true) (hc : Cond.code y bytes maxL none ∈ gtbl) (hl : Cond.methodLink own index y ∈ gtbl) (hi : Cond.instanceMethod y ∈ gtbl) (hn : Cond.initialized y.cls ∈ gtbl) (hy : y.name = "<init>")
    (hd : y.cls ≠ "java/lang/invoke/MethodHandle" ∧ y.cls ≠ "java/lang/invoke/VarHandle" ∧ (parseMethodDescriptor y.desc).map (fun d => d.parameters.length) = some n) (hrc : rm.cells = mc) (hrs : rm.slots = ms) (hR : rm.frames + 1 ≤ R.frames ∧ 8 + (maxL + 11) + rm.locals ≤ R.locals) :
    CallB R s args own index y bytes maxL none (zws y bytes maxL none) rm mc ms n ∧ y.name = "<init>" ∧ (Cond.instanceMethod y).before args s = true :=
  ⟨callB_of n ht (zgood hc) rfl hrc hrs (ht _ hn) (ht _ hl) hd hR, hy, ht _ hi⟩
theorem zcnB (ht : ∀ w ∈ gtbl, w.before args s = true) (hc : Cond.code y bytes maxL ret ∈ gtbl) (hl : va_Nw (.methodLinkNest own index y host) s) (hn : Cond.initialized y.cls ∈ gtbl)
    (hd : y.cls ≠ "java/lang/invoke/MethodHandle" ∧ y.cls ≠ "java/lang/invoke/VarHandle" ∧ (parseMethodDescriptor y.desc).map (fun d => d.parameters.length) = some n) (hrc : rm.cells = mc) (hrs : rm.slots = ms) (hR : rm.frames + 1 ≤ R.frames ∧ 8 + (maxL + 11) + rm.locals ≤ R.locals) :
    va_CN R s args own index y host bytes maxL ret (zws y bytes maxL ret) rm mc ms n := va_cnB n ht (zgood hc) rfl hrc hrs hl (ht _ hn) hd hR
theorem zcnS (ht : ∀ w ∈ gtbl, w.before args s = true) (hc : Cond.code y bytes maxL ret ∈ gtbl) (hl : va_Nw (.methodLinkNest own index y host) s) (hi : Cond.static y ∈ gtbl) (hn : Cond.initialized y.cls ∈ gtbl)
    (hd : y.cls ≠ "java/lang/invoke/MethodHandle" ∧ y.cls ≠ "java/lang/invoke/VarHandle" ∧ (parseMethodDescriptor y.desc).map (fun d => d.parameters.length) = some n) (hrc : rm.cells = mc) (hrs : rm.slots = ms) (hR : rm.frames + 1 ≤ R.frames ∧ 8 + (maxL + 11) + rm.locals ≤ R.locals) :
    va_CN R s args own index y host bytes maxL ret (zws y bytes maxL ret) rm mc ms n ∧ (Cond.static y).before args s = true ∧ True := ⟨zcnB ht hc hl hn hd hrc hrs hR, ht _ hi, trivial⟩
theorem zcnI (ht : ∀ w ∈ gtbl, w.before args s = true) (hc : Cond.code y bytes maxL none ∈ gtbl) (hl : va_Nw (.methodLinkNest own index y host) s) (hi : Cond.instanceMethod y ∈ gtbl) (hn : Cond.initialized y.cls ∈ gtbl) (hy : y.name = "<init>")
    (hd : y.cls ≠ "java/lang/invoke/MethodHandle" ∧ y.cls ≠ "java/lang/invoke/VarHandle" ∧ (parseMethodDescriptor y.desc).map (fun d => d.parameters.length) = some n) (hrc : rm.cells = mc) (hrs : rm.slots = ms) (hR : rm.frames + 1 ≤ R.frames ∧ 8 + (maxL + 11) + rm.locals ≤ R.locals) :
    va_CN R s args own index y host bytes maxL none (zws y bytes maxL none) rm mc ms n ∧ y.name = "<init>" ∧ (Cond.instanceMethod y).before args s = true := ⟨zcnB ht hc hl hn hd hrc hrs hR, hy, ht _ hi⟩
end ZCW
/-! ===== the pictures of the class's objects ===== -/
/-- the catalogue: its object, rooms, loads, costs, kinds -/
def wC (hc c1 c2 c3 c4 : Nat) (cA : ClassId) (ro lo co ks : Nat → Nat) (nb sl : Nat) : va_W :=
  [(hc, .inr (0, [.ref c1, .ref c2, .ref c3, .ref c4, .int (nI nb), .int (nI sl)])), (c1, .inl (cA, 6, .inl (fun x => nI (ro x)))), (c2, .inl (cA, 6, .inl (fun x => nI (lo x)))), (c3, .inl (cA, 6, .inl (fun x => nI (co x)))), (c4, .inl (cA, 6, .inl (fun x => nI (ks x))))]
/-- the units: their object, sizes, weights, kinds, apart, together -/
def wU (hu u1 u2 u3 u4 u5 : Nat) (cA : ClassId) (si we ki ap tg : Nat → Nat) (nu : Nat) : va_W :=
  [(hu, .inr (3, [.ref u1, .ref u2, .ref u3, .ref u4, .ref u5, .int (nI nu)])), (u1, .inl (cA, 8, .inl (fun x => nI (si x)))), (u2, .inl (cA, 8, .inl (fun x => nI (we x)))), (u3, .inl (cA, 8, .inl (fun x => nI (ki x)))), (u4, .inl (cA, 8, .inl (fun x => nI (ap x)))), (u5, .inl (cA, 8, .inl (fun x => nI (tg x))))]
/-- the choice: its object, boxes, sets -/
def wH (hd d1 d2 : Nat) (cA : ClassId) (bn us : Nat → Nat) (nh ct : Nat) (mk ex : Bool) : va_W :=
  [(hd, .inr (1, [.ref d1, .ref d2, .int (nI nh), .int (nI ct), .int (zB mk), .int (zB ex)])), (d1, .inl (cA, 8, .inl (fun x => nI (bn x)))), (d2, .inl (cA, 8, .inl (fun x => nI (us x))))]
/-- a number or -1 -/
def zo : Option Nat → Int32
  | none => -1
  | some v => nI v
/-- the search: its object, boxes offered, costs offered, least costs, numbers, first sets -/
def wE (he e1 e2 e3 e4 e5 : Nat) (cA : ClassId) (ob : Nat → Option Nat) (oc : Nat → Nat) (lc : Nat → Option Nat) (fb fs : Nat → Nat) : va_W :=
  [(he, .inr (2, [.ref e1, .ref e2, .ref e3, .ref e4, .ref e5])), (e1, .inl (cA, 64, .inl (fun x => zo (ob x)))), (e2, .inl (cA, 64, .inl (fun x => nI (oc x)))), (e3, .inl (cA, 64, .inl (fun x => zo (lc x)))), (e4, .inl (cA, 64, .inl (fun x => nI (fb x)))), (e5, .inl (cA, 64, .inl (fun x => nI (fs x))))]
