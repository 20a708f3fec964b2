/-! ===== the z layer: one judgement for a walk, over pictures ===== -/
/-- looking a local up -/
def zl : List (Nat × Value) → Nat → Option Value
  | [], _ => none
  | q :: t, i => bif Nat.beq q.1 i then some q.2 else zl t i
theorem zl_mem : ∀ (lv : List (Nat × Value)) (i : Nat) (v : Value), zl lv i = some v → (i, v) ∈ lv
  | [], _, _, h => by cases h
  | q :: t, i, v, h => by
    unfold zl at h
    cases hb : Nat.beq q.1 i with
    | true =>
      rw [hb] at h
      have e1 : q.1 = i := Nat.eq_of_beq_eq_true hb
      have e2 : q.2 = v := Option.some.inj h
      rw [← e1, ← e2]
      exact List.mem_cons_self
    | false =>
      rw [hb] at h
      exact List.mem_cons_of_mem _ (zl_mem t i v h)
/-- storing a local -/
def zs (i : Nat) (v : Value) (lv : List (Nat × Value)) : List (Nat × Value) := (i, v) :: lv.filter (fun q => !(q.1 == i) && !(q.1 + 1 == i && q.2.category == 2))
/-- what a state says beside the picture (nest words, constants): it stays while nothing outside A is written -/
def zGok (G : State → (Nat → Prop) → Prop) : Prop := ∀ (u U : State) (A B : Nat → Prop), u.WarmedH U.vm → (∀ q : Nat, q < u.heap.size → ¬ A q → U.heap[q]? = u.heap[q]?) → (∀ q, B q → A q) → G u A → G U B
/-- what stays through a method's walk -/
def zF (p : Program) (s : State) (m : MethodId) (args : Array Value) (c : Code) (cc : ByteArray) (nL : Nat) (Ts : List Cond) (own : String) (D : va_G) (cl : List vw_C) (tys : List (ClassId × FieldType)) (A : Nat → Prop) (G : State → (Nat → Prop) → Prop) : Prop :=
  p.tables.exec = Jvm.exec ∧ c.code = cc ∧ c.maxLocals = nL ∧ s.vm.findClass own = some m.cls ∧ (∀ w ∈ Ts, w.before args s = true) ∧ va_K D cl tys s ∧ (∀ q, s.heap.size ≤ q → A q) ∧ G s A ∧ zGok G
/-- the machine at pc, whatever heap holds the picture ws -/
def zW (p : Program) (l : Launch) (e : Env) (R : Room) (s : State) (m : MethodId) (args : Array Value) (below : List Frame) (meth : Method) (c : Code) (nL : Nat) (D : va_G) (cl : List vw_C) (A : Nat → Prop) (cells slots : Nat) (Q : State → Prop) (ws : va_W) (lv : List (Nat × Value)) (pc : Nat) (st : List Value) : Prop :=
  ∀ (H : Heap) (locs : List Loc) (ls : Array Slot), va_P D cl ws H → va_D A ws → va_S A s.heap H locs → lv_has ls nL lv → W p l e R s m args below meth c H locs cells slots Q (F0 m pc ls st)
def zPre (D : va_G) (cl : List vw_C) (tys : List (ClassId × FieldType)) (G : State → (Nat → Prop) → Prop) (w : va_W) (sz : Nat) (U : State) : Prop := U.heap.size = sz ∧ va_P D cl w U.heap ∧ va_K D cl tys U ∧ va_D (fun _ => True) w ∧ G U (va_A w sz) ∧ zGok G
def zEnd (D : va_G) (cl : List vw_C) (A : Nat → Prop) (w : va_W) (t : State) : Prop := va_P D cl w t.heap ∧ va_D A w
/-- contracts: from the picture w with arguments av; the answer and the new picture are as post says -/
def zMi (l : Launch) (y : MethodName) (wsy : List Cond) (rm : Room) (D : va_G) (cl : List vw_C) (tys : List (ClassId × FieldType)) (G : State → (Nat → Prop) → Prop) (av : List Value) (w : va_W) (post : Int32 → va_W → Prop) (mc ms : Nat) : Prop :=
  ∀ sz : Nat, Met l y wsy rm (va_Pc av (zPre D cl tys G w sz)) (va_Qi post (zEnd D cl (va_A w sz)) (va_A w sz)) mc ms (va_A w sz)
def zMv (l : Launch) (y : MethodName) (wsy : List Cond) (rm : Room) (D : va_G) (cl : List vw_C) (tys : List (ClassId × FieldType)) (G : State → (Nat → Prop) → Prop) (av : List Value) (w : va_W) (post : va_W → Prop) (mc ms : Nat) : Prop :=
  ∀ sz : Nat, Met l y wsy rm (va_Pc av (zPre D cl tys G w sz)) (va_Qv post (zEnd D cl (va_A w sz)) (va_A w sz)) mc ms (va_A w sz)
/-- a picture by its members -/
theorem zP_mem {D : va_G} {cl : List vw_C} {w : va_W} {H : Heap} : va_P D cl w H ↔ ∀ q ∈ w, va_at D cl q H := by
  constructor
  · intro h q hq
    obtain ⟨k, hk⟩ := List.getElem?_of_mem hq
    exact h k q hk
  · intro h k q hk
    exact h q (List.mem_of_getElem? hk)
theorem zD_A {A : Nat → Prop} {w : va_W} (h : va_D A w) : ∀ q ∈ w, A q.1 := fun q hq => by
  obtain ⟨k, hk⟩ := List.getElem?_of_mem hq
  exact h.2 k q hk
theorem zA_mem {w : va_W} {sz q : Nat} : va_A w sz q ↔ (∃ x ∈ w, x.1 = q) ∨ sz ≤ q := by
  constructor
  · rintro (⟨k, e, h⟩ | h)
    · exact Or.inl ⟨(q, e), List.mem_of_getElem? h, rfl⟩
    · exact Or.inr h
  · rintro (⟨⟨a, e⟩, h, rfl⟩ | h)
    · obtain ⟨k, hk⟩ := List.getElem?_of_mem h
      exact Or.inl ⟨k, e, hk⟩
    · exact Or.inr h
theorem zD_mid {A : Nat → Prop} {w1 w2 w3 : va_W} (h : va_D A (w1 ++ (w2 ++ w3))) : va_D A w2 := by
  have key : ∀ (k : Nat) (q : Nat × va_E), w2[k]? = some q → (w1 ++ (w2 ++ w3))[w1.length + k]? = some q := by
    intro k q hk
    have hl : k < w2.length := (List.getElem?_eq_some_iff.mp hk).1
    rw [List.getElem?_append_right (by omega), show w1.length + k - w1.length = k by omega, List.getElem?_append_left hl]
    exact hk
  refine ⟨fun i j x y hi hj hxy => ?_, fun k q hk => h.2 _ q (key k q hk)⟩
  have := h.1 _ _ x y (key i x hi) (key j y hj) hxy
  omega
theorem zP_mid {D : va_G} {cl : List vw_C} {w1 w2 w3 : va_W} {H : Heap} (h : va_P D cl (w1 ++ (w2 ++ w3)) H) : va_P D cl w2 H := by
  rw [zP_mem] at h ⊢
  exact fun q hq => h q (List.mem_append_right _ (List.mem_append_left _ hq))
theorem zD_fst {A : Nat → Prop} {w1 w2 w3 : va_W} (h : va_D A (w1 ++ (w2 ++ w3))) : va_D A w1 := by
  have key : ∀ (k : Nat) (q : Nat × va_E), w1[k]? = some q → (w1 ++ (w2 ++ w3))[k]? = some q := by
    intro k q hk
    have hl : k < w1.length := (List.getElem?_eq_some_iff.mp hk).1
    rw [List.getElem?_append_left hl]
    exact hk
  exact ⟨fun i j x y hi hj hxy => h.1 _ _ x y (key i x hi) (key j y hj) hxy, fun k q hk => h.2 _ q (key k q hk)⟩
theorem zD_trd {A : Nat → Prop} {w1 w2 w3 : va_W} (h : va_D A (w1 ++ (w2 ++ w3))) : va_D A w3 := by
  have key : ∀ (k : Nat) (q : Nat × va_E), w3[k]? = some q → (w1 ++ (w2 ++ w3))[w1.length + (w2.length + k)]? = some q := by
    intro k q hk
    rw [List.getElem?_append_right (by omega), List.getElem?_append_right (by omega), show w1.length + (w2.length + k) - w1.length - w2.length = k by omega]
    exact hk
  refine ⟨fun i j x y hi hj hxy => ?_, fun k q hk => h.2 _ q (key k q hk)⟩
  have := h.1 _ _ x y (key i x hi) (key j y hj) hxy
  omega
theorem zD_ne {A : Nat → Prop} {w1 w2 : va_W} (h : va_D A (w1 ++ w2)) : ∀ x ∈ w1, ∀ y ∈ w2, x.1 ≠ y.1 := by
  intro x hx y hy hxy
  obtain ⟨i, hi⟩ := List.getElem?_of_mem hx
  obtain ⟨j, hj⟩ := List.getElem?_of_mem hy
  have hl : i < w1.length := (List.getElem?_eq_some_iff.mp hi).1
  have h1 : (w1 ++ w2)[i]? = some x := by rw [List.getElem?_append_left hl]; exact hi
  have h2 : (w1 ++ w2)[w1.length + j]? = some y := by rw [List.getElem?_append_right (by omega), show w1.length + j - w1.length = j by omega]; exact hj
  have := h.1 _ _ x y h1 h2 hxy
  omega
theorem zD_snd {A : Nat → Prop} {w1 w2 : va_W} (h : va_D A (w1 ++ w2)) : va_D A w2 := by
  have key : ∀ (k : Nat) (q : Nat × va_E), w2[k]? = some q → (w1 ++ w2)[w1.length + k]? = some q := by
    intro k q hk
    rw [List.getElem?_append_right (by omega), show w1.length + k - w1.length = k by omega]
    exact hk
  refine ⟨fun i j x y hi hj hxy => ?_, fun k q hk => h.2 _ q (key k q hk)⟩
  have := h.1 _ _ x y (key i x hi) (key j y hj) hxy
  omega
/-- behind a call: the middle is new, the rest as it was -/
theorem z_join {A : Nat → Prop} {D : va_G} {cl : List vw_C} {w1 w2 w2' w3 : va_W} {H H1 : Heap} (hP : va_P D cl (w1 ++ (w2 ++ w3)) H) (hD : va_D A (w1 ++ (w2 ++ w3)))
    (hk : ∀ q : Nat, q < H.size → ¬ va_A w2 H.size q → H1[q]? = H[q]?) (hF : ∀ q, va_A w2 H.size q → A q) (hP1 : va_P D cl w2' H1) (hD1 : va_D (va_A w2 H.size) w2') :
    va_P D cl (w1 ++ (w2' ++ w3)) H1 ∧ va_D A (w1 ++ (w2' ++ w3)) := by
  have hPm := zP_mem.mp hP
  have lt : ∀ q ∈ w1 ++ (w2 ++ w3), q.1 < H.size := fun q hq => (hPm q hq).lt
  have n1 : ∀ q ∈ w1, ¬ va_A w2 H.size q.1 := by
    intro q hq h
    rcases zA_mem.mp h with ⟨x, hx, e⟩ | h
    · exact zD_ne hD q hq x (List.mem_append_left _ hx) e.symm
    · have := lt q (List.mem_append_left _ hq)
      omega
  have n3 : ∀ q ∈ w3, ¬ va_A w2 H.size q.1 := by
    intro q hq h
    rcases zA_mem.mp h with ⟨x, hx, e⟩ | h
    · exact zD_ne (zD_snd hD) x hx q hq e
    · have := lt q (List.mem_append_right _ (List.mem_append_right _ hq))
      omega
  have hP1m := zP_mem.mp hP1
  refine ⟨zP_mem.mpr fun q hq => ?_, ?_⟩
  · rcases List.mem_append.mp hq with h | h
    · exact (hPm q (List.mem_append_left _ h)).kept (hk _ (lt q (List.mem_append_left _ h)) (n1 q h))
    · rcases List.mem_append.mp h with h | h
      · exact hP1m q h
      · exact (hPm q (List.mem_append_right _ (List.mem_append_right _ h))).kept (hk _ (lt q (List.mem_append_right _ (List.mem_append_right _ h))) (n3 q h))
  · have hD1' : va_D A w2' := hD1.weaken (fun _ q _ h => hF q.1 h)
    refine va_D.app (zD_fst hD) (va_D.app hD1' (zD_trd hD) ?_) ?_
    · intro i j x y hx hy hxy
      have h1 : va_A w2 H.size x.1 := hD1.2 i x hx
      exact n3 y (List.mem_of_getElem? hy) (hxy ▸ h1)
    · intro i j x y hx hy hxy
      rcases List.mem_append.mp (List.mem_of_getElem? hy) with h | h
      · obtain ⟨k, hk2⟩ := List.getElem?_of_mem h
        have h1 : va_A w2 H.size y.1 := hD1.2 k y hk2
        exact n1 x (List.mem_of_getElem? hx) (hxy ▸ h1)
      · exact zD_ne hD x (List.mem_of_getElem? hx) y (List.mem_append_right _ h) hxy
theorem z_free {A : Nat → Prop} {w1 w2 w3 : va_W} {H0 H : Heap} {locs : List Loc} (hD : va_D A (w1 ++ (w2 ++ w3))) (hS : va_S A H0 H locs) (hA : ∀ q, H0.size ≤ q → A q) : ∀ q, va_A w2 H.size q → A q := by
  intro q h
  rcases zA_mem.mp h with ⟨x, hx, e⟩ | h
  · rw [← e]
    exact zD_A hD x (List.mem_append_right _ (List.mem_append_left _ hx))
  · exact hA q (Nat.le_trans hS.1 h)
section ZR
variable {p : Program} {l : Launch} {e : Env} {R : Room} {s : State} {m : MethodId} {args : Array Value} {below : List Frame} {meth : Method} {c : Code} {Q : State → Prop}
variable {cc : ByteArray} {nL cells slots pc : Nat} {D : va_G} {cl : List vw_C} {A : Nat → Prop} {tys : List (ClassId × FieldType)} {Ts : List Cond} {own : String} {G : State → (Nat → Prop) → Prop}
variable {ws : va_W} {lv : List (Nat × Value)} {st : List Value}
theorem z_eq {ws2 : va_W} {lv2 : List (Nat × Value)} {pc2 : Nat} {st2 : List Value} (h1 : ws = ws2) (h2 : lv = lv2) (h3 : pc = pc2) (h4 : st = st2) (k : zW p l e R s m args below meth c nL D cl A cells slots Q ws2 (lv2) (pc2) (st2)) : zW p l e R s m args below meth c nL D cl A cells slots Q ws (lv) (pc) (st) := by
  subst h1; subst h2; subst h3; subst h4; exact k
theorem z_lv {lv2 : List (Nat × Value)} (h : lv2.map (fun q => zl lv q.1) = lv2.map (fun q => some q.2)) (k : zW p l e R s m args below meth c nL D cl A cells slots Q ws (lv2) (pc) (st)) : zW p l e R s m args below meth c nL D cl A cells slots Q ws (lv) (pc) (st) := by
  intro H locs ls hP hD hS hh
  refine k H locs ls hP hD hS ⟨hh.1, hh.2.1, fun q hq => ?_⟩
  have h2 : zl lv q.1 = some q.2 := List.map_inj_left.mp h q hq
  exact hh.2.2 (q.1, q.2) (zl_mem _ _ _ h2)
theorem z_widen {k n : Nat} (h1 : cells ≤ k) (h2 : slots ≤ n) (kk : zW p l e R s m args below meth c nL D cl A k n Q ws (lv) (pc) (st)) : zW p l e R s m args below meth c nL D cl A cells slots Q ws (lv) (pc) (st) := fun H locs ls hP hD hS hh => W.widen h1 h2 (kk H locs ls hP hD hS hh)
theorem z_iconst (F : zF p s m args c cc nL Ts own D cl tys A G) {n : Int} {v : Int32} (hd : decode cc pc = .ok (.iconst n, 1)) (hv : Int32.ofInt n = v) (k : zW p l e R s m args below meth c nL D cl A cells slots Q ws (lv) (pc + 1) (.int v :: st)) : zW p l e R s m args below meth c nL D cl A cells slots Q ws (lv) (pc) (st) := fun H locs ls hP hD hS hh => lv_iconst F.1 F.2.1 hd hv (k H locs ls hP hD hS hh)
theorem z_bipush (F : zF p s m args c cc nL Ts own D cl tys A G) {n : Int} {v : Int32} (hd : decode cc pc = .ok (.bipush n, 2)) (hv : (Int8.ofInt n).toInt32 = v) (k : zW p l e R s m args below meth c nL D cl A cells slots Q ws (lv) (pc + 2) (.int v :: st)) : zW p l e R s m args below meth c nL D cl A cells slots Q ws (lv) (pc) (st) := fun H locs ls hP hD hS hh => lv_bipush F.1 F.2.1 hd hv (k H locs ls hP hD hS hh)
theorem z_sipush (F : zF p s m args c cc nL Ts own D cl tys A G) {n : Int} {v : Int32} (hd : decode cc pc = .ok (.sipush n, 3)) (hv : (Int16.ofInt n).toInt32 = v) (k : zW p l e R s m args below meth c nL D cl A cells slots Q ws (lv) (pc + 3) (.int v :: st)) : zW p l e R s m args below meth c nL D cl A cells slots Q ws (lv) (pc) (st) := fun H locs ls hP hD hS hh => lv_sipush F.1 F.2.1 hd hv (k H locs ls hP hD hS hh)
theorem z_lconst (F : zF p s m args c cc nL Ts own D cl tys A G) {n : Fin 2} {v : Int64} (hd : decode cc pc = .ok (.lconst n, 1)) (hv : Int64.ofNat (n : Nat) = v) (k : zW p l e R s m args below meth c nL D cl A cells slots Q ws (lv) (pc + 1) (.long v :: st)) : zW p l e R s m args below meth c nL D cl A cells slots Q ws (lv) (pc) (st) := fun H locs ls hP hD hS hh => lv_lconst F.1 F.2.1 hd hv (k H locs ls hP hD hS hh)
theorem z_iload (F : zF p s m args c cc nL Ts own D cl tys A G) {i : Nat} {x : Int32} (hd : decode cc pc = .ok (.iload i, 2)) (hl : zl lv i = some (.int x)) (k : zW p l e R s m args below meth c nL D cl A cells slots Q ws (lv) (pc + 2) (.int x :: st)) : zW p l e R s m args below meth c nL D cl A cells slots Q ws (lv) (pc) (st) := fun H locs ls hP hD hS hh => lv_iload F.1 F.2.1 hd (hh.2.2 _ (zl_mem _ _ _ hl)) (k H locs ls hP hD hS hh)
theorem z_iload_n (F : zF p s m args c cc nL Ts own D cl tys A G) {i : Fin 4} {x : Int32} (hd : decode cc pc = .ok (.iload_n i, 1)) (hl : zl lv i.val = some (.int x)) (k : zW p l e R s m args below meth c nL D cl A cells slots Q ws (lv) (pc + 1) (.int x :: st)) : zW p l e R s m args below meth c nL D cl A cells slots Q ws (lv) (pc) (st) := fun H locs ls hP hD hS hh => lv_iload_n F.1 F.2.1 hd rfl (hh.2.2 _ (zl_mem _ _ _ hl)) (k H locs ls hP hD hS hh)
theorem z_aload (F : zF p s m args c cc nL Ts own D cl tys A G) {i x : Nat} (hd : decode cc pc = .ok (.aload i, 2)) (hl : zl lv i = some (.ref x)) (k : zW p l e R s m args below meth c nL D cl A cells slots Q ws (lv) (pc + 2) (.ref x :: st)) : zW p l e R s m args below meth c nL D cl A cells slots Q ws (lv) (pc) (st) := fun H locs ls hP hD hS hh => lv_aload F.1 F.2.1 hd (hh.2.2 _ (zl_mem _ _ _ hl)) (k H locs ls hP hD hS hh)
theorem z_aload_n (F : zF p s m args c cc nL Ts own D cl tys A G) {i : Fin 4} {x : Nat} (hd : decode cc pc = .ok (.aload_n i, 1)) (hl : zl lv i.val = some (.ref x)) (k : zW p l e R s m args below meth c nL D cl A cells slots Q ws (lv) (pc + 1) (.ref x :: st)) : zW p l e R s m args below meth c nL D cl A cells slots Q ws (lv) (pc) (st) := fun H locs ls hP hD hS hh => lv_aload_n F.1 F.2.1 hd rfl (hh.2.2 _ (zl_mem _ _ _ hl)) (k H locs ls hP hD hS hh)
theorem z_istore (F : zF p s m args c cc nL Ts own D cl tys A G) {i : Nat} {x : Int32} (hd : decode cc pc = .ok (.istore i, 2)) (hn : i < nL) (k : zW p l e R s m args below meth c nL D cl A cells slots Q ws (zs i (.int x) lv) (pc + 2) (st)) : zW p l e R s m args below meth c nL D cl A cells slots Q ws (lv) (pc) (.int x :: st) := fun H locs ls hP hD hS hh => lv_istore F.1 F.2.1 hd hh hn rfl (fun ls2 hh2 => k H locs ls2 hP hD hS hh2)
theorem z_istore_n (F : zF p s m args c cc nL Ts own D cl tys A G) {i : Fin 4} {x : Int32} (hd : decode cc pc = .ok (.istore_n i, 1)) (hn : i.val < nL) (k : zW p l e R s m args below meth c nL D cl A cells slots Q ws (zs i.val (.int x) lv) (pc + 1) (st)) : zW p l e R s m args below meth c nL D cl A cells slots Q ws (lv) (pc) (.int x :: st) := fun H locs ls hP hD hS hh => lv_istore_n F.1 F.2.1 hd rfl hh hn rfl (fun ls2 hh2 => k H locs ls2 hP hD hS hh2)
theorem z_astore (F : zF p s m args c cc nL Ts own D cl tys A G) {i : Nat} {x : Nat} (hd : decode cc pc = .ok (.astore i, 2)) (hn : i < nL) (k : zW p l e R s m args below meth c nL D cl A cells slots Q ws (zs i (.ref x) lv) (pc + 2) (st)) : zW p l e R s m args below meth c nL D cl A cells slots Q ws (lv) (pc) (.ref x :: st) := fun H locs ls hP hD hS hh => lv_astore F.1 F.2.1 hd hh hn rfl (fun ls2 hh2 => k H locs ls2 hP hD hS hh2)
theorem z_astore_n (F : zF p s m args c cc nL Ts own D cl tys A G) {i : Fin 4} {x : Nat} (hd : decode cc pc = .ok (.astore_n i, 1)) (hn : i.val < nL) (k : zW p l e R s m args below meth c nL D cl A cells slots Q ws (zs i.val (.ref x) lv) (pc + 1) (st)) : zW p l e R s m args below meth c nL D cl A cells slots Q ws (lv) (pc) (.ref x :: st) := fun H locs ls hP hD hS hh => lv_astore_n F.1 F.2.1 hd rfl hh hn rfl (fun ls2 hh2 => k H locs ls2 hP hD hS hh2)
theorem z_iinc (F : zF p s m args c cc nL Ts own D cl tys A G) {i : Nat} {n : Int} {x v : Int32} (hd : decode cc pc = .ok (.iinc i n, 3)) (hl : zl lv i = some (.int x)) (hv : x + Int32.ofInt n = v) (hn : i < nL) (k : zW p l e R s m args below meth c nL D cl A cells slots Q ws (zs i (.int v) lv) (pc + 3) (st)) : zW p l e R s m args below meth c nL D cl A cells slots Q ws (lv) (pc) (st) := by
  intro H locs ls hP hD hS hh
  obtain ⟨j, hj⟩ := List.getElem?_of_mem (zl_mem _ _ _ hl)
  exact lv_iinc F.1 F.2.1 hd hh hj hv hn rfl (fun ls2 hh2 => k H locs ls2 hP hD hS hh2)
theorem z_iadd (F : zF p s m args c cc nL Ts own D cl tys A G) {x y : Int32} (hd : decode cc pc = .ok (.iadd, 1)) (k : zW p l e R s m args below meth c nL D cl A cells slots Q ws (lv) (pc + 1) (.int (x + y) :: st)) : zW p l e R s m args below meth c nL D cl A cells slots Q ws (lv) (pc) (.int y :: .int x :: st) := fun H locs ls hP hD hS hh => lv_iadd F.1 F.2.1 hd (k H locs ls hP hD hS hh)
theorem z_isub (F : zF p s m args c cc nL Ts own D cl tys A G) {x y : Int32} (hd : decode cc pc = .ok (.isub, 1)) (k : zW p l e R s m args below meth c nL D cl A cells slots Q ws (lv) (pc + 1) (.int (x - y) :: st)) : zW p l e R s m args below meth c nL D cl A cells slots Q ws (lv) (pc) (.int y :: .int x :: st) := fun H locs ls hP hD hS hh => lv_isub F.1 F.2.1 hd (k H locs ls hP hD hS hh)
theorem z_imul (F : zF p s m args c cc nL Ts own D cl tys A G) {x y : Int32} (hd : decode cc pc = .ok (.imul, 1)) (k : zW p l e R s m args below meth c nL D cl A cells slots Q ws (lv) (pc + 1) (.int (x * y) :: st)) : zW p l e R s m args below meth c nL D cl A cells slots Q ws (lv) (pc) (.int y :: .int x :: st) := fun H locs ls hP hD hS hh => lv_imul F.1 F.2.1 hd (k H locs ls hP hD hS hh)
theorem z_iand (F : zF p s m args c cc nL Ts own D cl tys A G) {x y : Int32} (hd : decode cc pc = .ok (.iand, 1)) (k : zW p l e R s m args below meth c nL D cl A cells slots Q ws (lv) (pc + 1) (.int (x &&& y) :: st)) : zW p l e R s m args below meth c nL D cl A cells slots Q ws (lv) (pc) (.int y :: .int x :: st) := fun H locs ls hP hD hS hh => lv_iand F.1 F.2.1 hd (k H locs ls hP hD hS hh)
theorem z_ior (F : zF p s m args c cc nL Ts own D cl tys A G) {x y : Int32} (hd : decode cc pc = .ok (.ior, 1)) (k : zW p l e R s m args below meth c nL D cl A cells slots Q ws (lv) (pc + 1) (.int (x ||| y) :: st)) : zW p l e R s m args below meth c nL D cl A cells slots Q ws (lv) (pc) (.int y :: .int x :: st) := fun H locs ls hP hD hS hh => lv_ior F.1 F.2.1 hd (k H locs ls hP hD hS hh)
theorem z_ixor (F : zF p s m args c cc nL Ts own D cl tys A G) {x y : Int32} (hd : decode cc pc = .ok (.ixor, 1)) (k : zW p l e R s m args below meth c nL D cl A cells slots Q ws (lv) (pc + 1) (.int (x ^^^ y) :: st)) : zW p l e R s m args below meth c nL D cl A cells slots Q ws (lv) (pc) (.int y :: .int x :: st) := fun H locs ls hP hD hS hh => lv_ixor F.1 F.2.1 hd (k H locs ls hP hD hS hh)
theorem z_ishl (F : zF p s m args c cc nL Ts own D cl tys A G) {x y : Int32} (hd : decode cc pc = .ok (.ishl, 1)) (k : zW p l e R s m args below meth c nL D cl A cells slots Q ws (lv) (pc + 1) (.int (x <<< (y &&& 31)) :: st)) : zW p l e R s m args below meth c nL D cl A cells slots Q ws (lv) (pc) (.int y :: .int x :: st) := fun H locs ls hP hD hS hh => lv_ishl F.1 F.2.1 hd (k H locs ls hP hD hS hh)
theorem z_ishr (F : zF p s m args c cc nL Ts own D cl tys A G) {x y : Int32} (hd : decode cc pc = .ok (.ishr, 1)) (k : zW p l e R s m args below meth c nL D cl A cells slots Q ws (lv) (pc + 1) (.int (x >>> (y &&& 31)) :: st)) : zW p l e R s m args below meth c nL D cl A cells slots Q ws (lv) (pc) (.int y :: .int x :: st) := fun H locs ls hP hD hS hh => lv_ishr F.1 F.2.1 hd (k H locs ls hP hD hS hh)
theorem z_idiv (F : zF p s m args c cc nL Ts own D cl tys A G) {x y : Int32} (hd : decode cc pc = .ok (.idiv, 1)) (hne : ¬ y = 0) (k : zW p l e R s m args below meth c nL D cl A cells slots Q ws (lv) (pc + 1) (.int (x / y) :: st)) : zW p l e R s m args below meth c nL D cl A cells slots Q ws (lv) (pc) (.int y :: .int x :: st) := fun H locs ls hP hD hS hh => lv_idiv F.1 F.2.1 hd hne (k H locs ls hP hD hS hh)
theorem z_irem (F : zF p s m args c cc nL Ts own D cl tys A G) {x y : Int32} (hd : decode cc pc = .ok (.irem, 1)) (hne : ¬ y = 0) (k : zW p l e R s m args below meth c nL D cl A cells slots Q ws (lv) (pc + 1) (.int (x - x / y * y) :: st)) : zW p l e R s m args below meth c nL D cl A cells slots Q ws (lv) (pc) (.int y :: .int x :: st) := fun H locs ls hP hD hS hh => lv_irem F.1 F.2.1 hd hne (k H locs ls hP hD hS hh)
theorem z_ineg (F : zF p s m args c cc nL Ts own D cl tys A G) {x : Int32} (hd : decode cc pc = .ok (.ineg, 1)) (k : zW p l e R s m args below meth c nL D cl A cells slots Q ws (lv) (pc + 1) (.int (-x) :: st)) : zW p l e R s m args below meth c nL D cl A cells slots Q ws (lv) (pc) (.int x :: st) := fun H locs ls hP hD hS hh => lv_ineg F.1 F.2.1 hd (k H locs ls hP hD hS hh)
theorem z_i2l (F : zF p s m args c cc nL Ts own D cl tys A G) {x : Int32} (hd : decode cc pc = .ok (.i2l, 1)) (k : zW p l e R s m args below meth c nL D cl A cells slots Q ws (lv) (pc + 1) (.long x.toInt64 :: st)) : zW p l e R s m args below meth c nL D cl A cells slots Q ws (lv) (pc) (.int x :: st) := fun H locs ls hP hD hS hh => lv_i2l F.1 F.2.1 hd rfl (k H locs ls hP hD hS hh)
theorem z_lcmp (F : zF p s m args c cc nL Ts own D cl tys A G) {x y : Int64} (hd : decode cc pc = .ok (.lcmp, 1)) (k : zW p l e R s m args below meth c nL D cl A cells slots Q ws (lv) (pc + 1) (.int (lg_cmp x y) :: st)) : zW p l e R s m args below meth c nL D cl A cells slots Q ws (lv) (pc) (.long y :: .long x :: st) := fun H locs ls hP hD hS hh => W.lcmp F.1 F.2.1 hd (k H locs ls hP hD hS hh)
theorem z_dup (F : zF p s m args c cc nL Ts own D cl tys A G) {va : Value} (hd : decode cc pc = .ok (.dup, 1)) (hva : va.category = 1) (k : zW p l e R s m args below meth c nL D cl A cells slots Q ws (lv) (pc + 1) (va :: va :: st)) : zW p l e R s m args below meth c nL D cl A cells slots Q ws (lv) (pc) (va :: st) := fun H locs ls hP hD hS hh => lv_dup F.1 F.2.1 hd hva (k H locs ls hP hD hS hh)
theorem z_pop (F : zF p s m args c cc nL Ts own D cl tys A G) {va : Value} (hd : decode cc pc = .ok (.pop, 1)) (hva : va.category = 1) (k : zW p l e R s m args below meth c nL D cl A cells slots Q ws (lv) (pc + 1) (st)) : zW p l e R s m args below meth c nL D cl A cells slots Q ws (lv) (pc) (va :: st) := fun H locs ls hP hD hS hh => lv_pop F.1 F.2.1 hd hva (k H locs ls hP hD hS hh)
theorem z_dup2 (F : zF p s m args c cc nL Ts own D cl tys A G) {va vb : Value} (hd : decode cc pc = .ok (.dup2, 1)) (hva : va.category = 1) (hvb : vb.category = 1) (k : zW p l e R s m args below meth c nL D cl A cells slots Q ws (lv) (pc + 1) (va :: vb :: va :: vb :: st)) : zW p l e R s m args below meth c nL D cl A cells slots Q ws (lv) (pc) (va :: vb :: st) := fun H locs ls hP hD hS hh => lv_dup2_11 F.1 F.2.1 hd hva hvb (k H locs ls hP hD hS hh)
theorem z_goto (F : zF p s m args c cc nL Ts own D cl tys A G) {off : Int} {tgt : Nat} (hd : decode cc pc = .ok (.goto off, 3)) (ht : (pc : Int) + off = (tgt : Int)) (k : zW p l e R s m args below meth c nL D cl A cells slots Q ws (lv) (tgt) (st)) : zW p l e R s m args below meth c nL D cl A cells slots Q ws (lv) (pc) (st) := fun H locs ls hP hD hS hh => lv_goto F.1 F.2.1 hd ht (k H locs ls hP hD hS hh)
theorem z_ifnonnull (F : zF p s m args c cc nL Ts own D cl tys A G) {off : Int} {tgt x : Nat} (hd : decode cc pc = .ok (.ifnonnull off, 3)) (ht : (pc : Int) + off = (tgt : Int)) (k : zW p l e R s m args below meth c nL D cl A cells slots Q ws (lv) (tgt) (st)) : zW p l e R s m args below meth c nL D cl A cells slots Q ws (lv) (pc) (.ref x :: st) := fun H locs ls hP hD hS hh => lv_ifnonnull F.1 F.2.1 hd ht (k H locs ls hP hD hS hh)
theorem z_if_eq (F : zF p s m args c cc nL Ts own D cl tys A G) {x : Int32} {off : Int} {tgt : Nat} (hd : decode cc pc = .ok (.ifCond .eq off, 3)) (ht : (pc : Int) + off = (tgt : Int)) (kt : x = 0 → zW p l e R s m args below meth c nL D cl A cells slots Q ws (lv) (tgt) (st)) (kf : ¬ x = 0 → zW p l e R s m args below meth c nL D cl A cells slots Q ws (lv) (pc + 3) (st)) : zW p l e R s m args below meth c nL D cl A cells slots Q ws (lv) (pc) (.int x :: st) := fun H locs ls hP hD hS hh => lv_if_eq F.1 F.2.1 hd ht (fun q => kt q H locs ls hP hD hS hh) (fun q => kf q H locs ls hP hD hS hh)
theorem z_icmp_eq (F : zF p s m args c cc nL Ts own D cl tys A G) {x y : Int32} {off : Int} {tgt : Nat} (hd : decode cc pc = .ok (.if_icmp .eq off, 3)) (ht : (pc : Int) + off = (tgt : Int)) (kt : x = y → zW p l e R s m args below meth c nL D cl A cells slots Q ws (lv) (tgt) (st)) (kf : ¬ x = y → zW p l e R s m args below meth c nL D cl A cells slots Q ws (lv) (pc + 3) (st)) : zW p l e R s m args below meth c nL D cl A cells slots Q ws (lv) (pc) (.int y :: .int x :: st) := fun H locs ls hP hD hS hh => lv_icmp_eq F.1 F.2.1 hd ht (fun q => kt q H locs ls hP hD hS hh) (fun q => kf q H locs ls hP hD hS hh)
theorem z_if_ne (F : zF p s m args c cc nL Ts own D cl tys A G) {x : Int32} {off : Int} {tgt : Nat} (hd : decode cc pc = .ok (.ifCond .ne off, 3)) (ht : (pc : Int) + off = (tgt : Int)) (kt : ¬ x = 0 → zW p l e R s m args below meth c nL D cl A cells slots Q ws (lv) (tgt) (st)) (kf : x = 0 → zW p l e R s m args below meth c nL D cl A cells slots Q ws (lv) (pc + 3) (st)) : zW p l e R s m args below meth c nL D cl A cells slots Q ws (lv) (pc) (.int x :: st) := fun H locs ls hP hD hS hh => lv_if_ne F.1 F.2.1 hd ht (fun q => kt q H locs ls hP hD hS hh) (fun q => kf q H locs ls hP hD hS hh)
theorem z_icmp_ne (F : zF p s m args c cc nL Ts own D cl tys A G) {x y : Int32} {off : Int} {tgt : Nat} (hd : decode cc pc = .ok (.if_icmp .ne off, 3)) (ht : (pc : Int) + off = (tgt : Int)) (kt : ¬ x = y → zW p l e R s m args below meth c nL D cl A cells slots Q ws (lv) (tgt) (st)) (kf : x = y → zW p l e R s m args below meth c nL D cl A cells slots Q ws (lv) (pc + 3) (st)) : zW p l e R s m args below meth c nL D cl A cells slots Q ws (lv) (pc) (.int y :: .int x :: st) := fun H locs ls hP hD hS hh => lv_icmp_ne F.1 F.2.1 hd ht (fun q => kt q H locs ls hP hD hS hh) (fun q => kf q H locs ls hP hD hS hh)
theorem z_if_lt (F : zF p s m args c cc nL Ts own D cl tys A G) {x : Int32} {off : Int} {tgt : Nat} (hd : decode cc pc = .ok (.ifCond .lt off, 3)) (ht : (pc : Int) + off = (tgt : Int)) (kt : x < 0 → zW p l e R s m args below meth c nL D cl A cells slots Q ws (lv) (tgt) (st)) (kf : ¬ x < 0 → zW p l e R s m args below meth c nL D cl A cells slots Q ws (lv) (pc + 3) (st)) : zW p l e R s m args below meth c nL D cl A cells slots Q ws (lv) (pc) (.int x :: st) := fun H locs ls hP hD hS hh => lv_if_lt F.1 F.2.1 hd ht (fun q => kt q H locs ls hP hD hS hh) (fun q => kf q H locs ls hP hD hS hh)
theorem z_icmp_lt (F : zF p s m args c cc nL Ts own D cl tys A G) {x y : Int32} {off : Int} {tgt : Nat} (hd : decode cc pc = .ok (.if_icmp .lt off, 3)) (ht : (pc : Int) + off = (tgt : Int)) (kt : x < y → zW p l e R s m args below meth c nL D cl A cells slots Q ws (lv) (tgt) (st)) (kf : ¬ x < y → zW p l e R s m args below meth c nL D cl A cells slots Q ws (lv) (pc + 3) (st)) : zW p l e R s m args below meth c nL D cl A cells slots Q ws (lv) (pc) (.int y :: .int x :: st) := fun H locs ls hP hD hS hh => lv_icmp_lt F.1 F.2.1 hd ht (fun q => kt q H locs ls hP hD hS hh) (fun q => kf q H locs ls hP hD hS hh)
theorem z_if_ge (F : zF p s m args c cc nL Ts own D cl tys A G) {x : Int32} {off : Int} {tgt : Nat} (hd : decode cc pc = .ok (.ifCond .ge off, 3)) (ht : (pc : Int) + off = (tgt : Int)) (kt : 0 ≤ x → zW p l e R s m args below meth c nL D cl A cells slots Q ws (lv) (tgt) (st)) (kf : ¬ 0 ≤ x → zW p l e R s m args below meth c nL D cl A cells slots Q ws (lv) (pc + 3) (st)) : zW p l e R s m args below meth c nL D cl A cells slots Q ws (lv) (pc) (.int x :: st) := fun H locs ls hP hD hS hh => lv_if_ge F.1 F.2.1 hd ht (fun q => kt q H locs ls hP hD hS hh) (fun q => kf q H locs ls hP hD hS hh)
theorem z_icmp_ge (F : zF p s m args c cc nL Ts own D cl tys A G) {x y : Int32} {off : Int} {tgt : Nat} (hd : decode cc pc = .ok (.if_icmp .ge off, 3)) (ht : (pc : Int) + off = (tgt : Int)) (kt : y ≤ x → zW p l e R s m args below meth c nL D cl A cells slots Q ws (lv) (tgt) (st)) (kf : ¬ y ≤ x → zW p l e R s m args below meth c nL D cl A cells slots Q ws (lv) (pc + 3) (st)) : zW p l e R s m args below meth c nL D cl A cells slots Q ws (lv) (pc) (.int y :: .int x :: st) := fun H locs ls hP hD hS hh => lv_icmp_ge F.1 F.2.1 hd ht (fun q => kt q H locs ls hP hD hS hh) (fun q => kf q H locs ls hP hD hS hh)
theorem z_if_gt (F : zF p s m args c cc nL Ts own D cl tys A G) {x : Int32} {off : Int} {tgt : Nat} (hd : decode cc pc = .ok (.ifCond .gt off, 3)) (ht : (pc : Int) + off = (tgt : Int)) (kt : 0 < x → zW p l e R s m args below meth c nL D cl A cells slots Q ws (lv) (tgt) (st)) (kf : ¬ 0 < x → zW p l e R s m args below meth c nL D cl A cells slots Q ws (lv) (pc + 3) (st)) : zW p l e R s m args below meth c nL D cl A cells slots Q ws (lv) (pc) (.int x :: st) := fun H locs ls hP hD hS hh => lv_if_gt F.1 F.2.1 hd ht (fun q => kt q H locs ls hP hD hS hh) (fun q => kf q H locs ls hP hD hS hh)
theorem z_icmp_gt (F : zF p s m args c cc nL Ts own D cl tys A G) {x y : Int32} {off : Int} {tgt : Nat} (hd : decode cc pc = .ok (.if_icmp .gt off, 3)) (ht : (pc : Int) + off = (tgt : Int)) (kt : y < x → zW p l e R s m args below meth c nL D cl A cells slots Q ws (lv) (tgt) (st)) (kf : ¬ y < x → zW p l e R s m args below meth c nL D cl A cells slots Q ws (lv) (pc + 3) (st)) : zW p l e R s m args below meth c nL D cl A cells slots Q ws (lv) (pc) (.int y :: .int x :: st) := fun H locs ls hP hD hS hh => lv_icmp_gt F.1 F.2.1 hd ht (fun q => kt q H locs ls hP hD hS hh) (fun q => kf q H locs ls hP hD hS hh)
theorem z_if_le (F : zF p s m args c cc nL Ts own D cl tys A G) {x : Int32} {off : Int} {tgt : Nat} (hd : decode cc pc = .ok (.ifCond .le off, 3)) (ht : (pc : Int) + off = (tgt : Int)) (kt : x ≤ 0 → zW p l e R s m args below meth c nL D cl A cells slots Q ws (lv) (tgt) (st)) (kf : ¬ x ≤ 0 → zW p l e R s m args below meth c nL D cl A cells slots Q ws (lv) (pc + 3) (st)) : zW p l e R s m args below meth c nL D cl A cells slots Q ws (lv) (pc) (.int x :: st) := fun H locs ls hP hD hS hh => lv_if_le F.1 F.2.1 hd ht (fun q => kt q H locs ls hP hD hS hh) (fun q => kf q H locs ls hP hD hS hh)
theorem z_icmp_le (F : zF p s m args c cc nL Ts own D cl tys A G) {x y : Int32} {off : Int} {tgt : Nat} (hd : decode cc pc = .ok (.if_icmp .le off, 3)) (ht : (pc : Int) + off = (tgt : Int)) (kt : x ≤ y → zW p l e R s m args below meth c nL D cl A cells slots Q ws (lv) (tgt) (st)) (kf : ¬ x ≤ y → zW p l e R s m args below meth c nL D cl A cells slots Q ws (lv) (pc + 3) (st)) : zW p l e R s m args below meth c nL D cl A cells slots Q ws (lv) (pc) (.int y :: .int x :: st) := fun H locs ls hP hD hS hh => lv_icmp_le F.1 F.2.1 hd ht (fun q => kt q H locs ls hP hD hS hh) (fun q => kf q H locs ls hP hD hS hh)
theorem z_tableIn (F : zF p s m args c cc nL Ts own D cl tys A G) {dflt lo hi off : Int} {offs : Array Int} {len tgt : Nat} {x : Int32} (hd : decode cc pc = .ok (.tableswitch dflt lo hi offs, len)) (h1 : ¬ x.toInt < lo) (h2 : ¬ hi < x.toInt) (ho : offs[(x.toInt - lo).toNat]? = some off) (ht : (pc : Int) + off = (tgt : Int)) (k : zW p l e R s m args below meth c nL D cl A cells slots Q ws (lv) (tgt) (st)) : zW p l e R s m args below meth c nL D cl A cells slots Q ws (lv) (pc) (.int x :: st) := fun H locs ls hP hD hS hh => lv_tableIn F.1 F.2.1 hd h1 h2 ho ht (k H locs ls hP hD hS hh)
theorem z_tableOut (F : zF p s m args c cc nL Ts own D cl tys A G) {dflt lo hi : Int} {offs : Array Int} {len tgt : Nat} {x : Int32} (hd : decode cc pc = .ok (.tableswitch dflt lo hi offs, len)) (h : x.toInt < lo ∨ hi < x.toInt) (ht : (pc : Int) + dflt = (tgt : Int)) (k : zW p l e R s m args below meth c nL D cl A cells slots Q ws (lv) (tgt) (st)) : zW p l e R s m args below meth c nL D cl A cells slots Q ws (lv) (pc) (.int x :: st) := fun H locs ls hP hD hS hh => lv_tableOut F.1 F.2.1 hd h ht (k H locs ls hP hD hS hh)
theorem z_get (F : zF p s m args c cc nL Ts own D cl tys A G) (q0 : Nat) (k : Nat) {a ci N : Nat} {fs : List Value} {T : u_T} {C ref : String} {index : Nat} {v : Value} (hd : decode cc pc = .ok (.getfield index, 3)) (hin : ∀ w ∈ u_ws C T N, w ∈ Ts) (hlink : Cond.fieldLink own index ref (T k).2.1 (T k).2.2.1 ∈ Ts) (hrf : (T k).1 = ref) (he : ws[q0]? = some (a, .inr (ci, fs))) (hc : cl[ci]? = some (C, T, N)) (hk : k < N) (hv : fs[k]? = some v) (kk : zW p l e R s m args below meth c nL D cl A cells slots Q ws (lv) (pc + 3) (v :: st)) : zW p l e R s m args below meth c nL D cl A cells slots Q ws (lv) (pc) (.ref a :: st) := fun H locs ls hP hD hS hh => va_get F.1 F.2.1 F.2.2.2.2.1 hin F.2.2.2.1 F.2.2.2.2.2.1 hP q0 he hc k hk (F.2.2.2.2.1 _ hlink) (fun _ h => by rw [← hrf]; exact h) hv hd (kk H locs ls hP hD hS hh)
theorem z_getN (F : zF p s m args c cc nL Ts own D cl tys A G) (q0 : Nat) (k : Nat) {a ci N : Nat} {fs : List Value} {T : u_T} {C ref : String} {index : Nat} {v : Value} {host : String} (hd : decode cc pc = .ok (.getfield index, 3)) (hin : ∀ w ∈ u_ws C T N, w ∈ Ts) (hlink : va_Nw (.fieldLinkNest own index ref (T k).2.1 (T k).2.2.1 host) s) (hrf : (T k).1 = ref) (he : ws[q0]? = some (a, .inr (ci, fs))) (hc : cl[ci]? = some (C, T, N)) (hk : k < N) (hv : fs[k]? = some v) (kk : zW p l e R s m args below meth c nL D cl A cells slots Q ws (lv) (pc + 3) (v :: st)) : zW p l e R s m args below meth c nL D cl A cells slots Q ws (lv) (pc) (.ref a :: st) := fun H locs ls hP hD hS hh => va_getN F.1 F.2.1 F.2.2.2.2.1 hin F.2.2.2.1 F.2.2.2.2.2.1 hP q0 he hc k hk (va_Nw.use rfl hlink) (fun _ h => by rw [← hrf]; exact h) hv hd (kk H locs ls hP hD hS hh)
theorem z_put (F : zF p s m args c cc nL Ts own D cl tys A G) (q0 : Nat) (k : Nat) {a ci N : Nat} {fs : List Value} {T : u_T} {C ref : String} {index : Nat} {v : Value} (hd : decode cc pc = .ok (.putfield index, 3)) (hin : ∀ w ∈ u_ws C T N, w ∈ Ts) (ty0 : Nat → FieldType) (hty : ∀ k, k < N → parseFieldDescriptor (T k).2.2.1 = some (ty0 k)) (hnm : ∀ a, a < N → ∀ b, b < N → a ≠ b → (T a).2.1 ≠ (T b).2.1) (hlink : Cond.fieldLink own index ref (T k).2.1 (T k).2.2.1 ∈ Ts) (hrf : (T k).1 = ref) (he : ws[q0]? = some (a, .inr (ci, fs))) (hc : cl[ci]? = some (C, T, N)) (hk : k < N) (hfin : (T k).2.2.2 = false) {ty : FieldType} (hdt : parseFieldDescriptor (T k).2.2.1 = some ty) (hn : narrow ty v = v) (hfit : fits ty v = true) (hl : k < fs.length) (kk : zW p l e R s m args below meth c nL D cl A cells slots Q (ws.set q0 (a, .inr (ci, fs.set k v))) (lv) (pc + 3) (st)) : zW p l e R s m args below meth c nL D cl A cells slots Q ws (lv) (pc) (v :: .ref a :: st) := fun H locs ls hP hD hS hh => va_put F.1 F.2.1 F.2.2.2.2.1 hin ty0 hty hnm F.2.2.2.1 F.2.2.2.2.2.1 hP hD hS q0 he hc k hk (F.2.2.2.2.1 _ hlink) (fun _ h => by rw [← hrf]; exact h) hfin hdt hn hfit hl hd (fun H1 locs1 hP1 hD1 hS1 => kk H1 locs1 ls hP1 hD1 hS1 hh)
theorem z_putN (F : zF p s m args c cc nL Ts own D cl tys A G) (q0 : Nat) (k : Nat) {a ci N : Nat} {fs : List Value} {T : u_T} {C ref : String} {index : Nat} {v : Value} {host : String} (hd : decode cc pc = .ok (.putfield index, 3)) (hin : ∀ w ∈ u_ws C T N, w ∈ Ts) (ty0 : Nat → FieldType) (hty : ∀ k, k < N → parseFieldDescriptor (T k).2.2.1 = some (ty0 k)) (hnm : ∀ a, a < N → ∀ b, b < N → a ≠ b → (T a).2.1 ≠ (T b).2.1) (hlink : va_Nw (.fieldLinkNest own index ref (T k).2.1 (T k).2.2.1 host) s) (hrf : (T k).1 = ref) (he : ws[q0]? = some (a, .inr (ci, fs))) (hc : cl[ci]? = some (C, T, N)) (hk : k < N) (hfin : (T k).2.2.2 = false) {ty : FieldType} (hdt : parseFieldDescriptor (T k).2.2.1 = some ty) (hn : narrow ty v = v) (hfit : fits ty v = true) (hl : k < fs.length) (kk : zW p l e R s m args below meth c nL D cl A cells slots Q (ws.set q0 (a, .inr (ci, fs.set k v))) (lv) (pc + 3) (st)) : zW p l e R s m args below meth c nL D cl A cells slots Q ws (lv) (pc) (v :: .ref a :: st) := fun H locs ls hP hD hS hh => va_putN F.1 F.2.1 F.2.2.2.2.1 hin ty0 hty hnm F.2.2.2.1 F.2.2.2.2.2.1 hP hD hS q0 he hc k hk (va_Nw.use rfl hlink) (fun _ h => by rw [← hrf]; exact h) hfin hdt hn hfit hl hd (fun H1 locs1 hP1 hD1 hS1 => kk H1 locs1 ls hP1 hD1 hS1 hh)
theorem z_putF (F : zF p s m args c cc nL Ts own D cl tys A G) (q0 : Nat) (k : Nat) {a ci N : Nat} {fs : List Value} {T : u_T} {C ref : String} {index : Nat} {v : Value} (hd : decode cc pc = .ok (.putfield index, 3)) (hin : ∀ w ∈ u_ws C T N, w ∈ Ts) (ty0 : Nat → FieldType) (hty : ∀ k, k < N → parseFieldDescriptor (T k).2.2.1 = some (ty0 k)) (hnm : ∀ a, a < N → ∀ b, b < N → a ≠ b → (T a).2.1 ≠ (T b).2.1) (hlink : Cond.fieldLink own index ref (T k).2.1 (T k).2.2.1 ∈ Ts) (hrf : (T k).1 = ref) (he : ws[q0]? = some (a, .inr (ci, fs))) (hc : cl[ci]? = some (C, T, N)) (hk : k < N) (hfin : (T k).2.2.2 = true) (hin2 : meth.name = "<init>") (hdecl : (T k).1 = own) {ty : FieldType} (hdt : parseFieldDescriptor (T k).2.2.1 = some ty) (hn : narrow ty v = v) (hfit : fits ty v = true) (hl : k < fs.length) (kk : zW p l e R s m args below meth c nL D cl A cells slots Q (ws.set q0 (a, .inr (ci, fs.set k v))) (lv) (pc + 3) (st)) : zW p l e R s m args below meth c nL D cl A cells slots Q ws (lv) (pc) (v :: .ref a :: st) := fun H locs ls hP hD hS hh => va_putF F.1 F.2.1 F.2.2.2.2.1 hin ty0 hty hnm F.2.2.2.1 F.2.2.2.2.2.1 hP hD hS q0 he hc k hk (F.2.2.2.2.1 _ hlink) (fun _ h => by rw [← hrf]; exact h) hfin hin2 hdecl hdt hn hfit hl hd (fun H1 locs1 hP1 hD1 hS1 => kk H1 locs1 ls hP1 hD1 hS1 hh)
theorem z_iald (F : zF p s m args c cc nL Ts own D cl tys A G) (q0 t0 : Nat) {a n j : Nat} {cA : ClassId} {f : Nat → Int32} {i : Int32} (hd : decode cc pc = .ok (.iaload, 1)) (he : ws[q0]? = some (a, .inl (cA, n, .inl f))) (ht : tys[t0]? = some (cA, .int)) (hi : i = nI j) (hj : j < n) (hn : n < 2 ^ 31) (kk : zW p l e R s m args below meth c nL D cl A cells slots Q ws (lv) (pc + 1) (.int (f j) :: st)) : zW p l e R s m args below meth c nL D cl A cells slots Q ws (lv) (pc) (.int i :: .ref a :: st) := by
  subst hi
  intro H locs ls hP hD hS hh
  refine va_iald F.1 F.2.1 F.2.2.2.2.2.1 hP q0 t0 he ht (vp_in_nI hj hn) hd ?_
  rw [nI_clamp (Nat.lt_trans hj hn)]
  exact kk H locs ls hP hD hS hh
theorem z_iast (F : zF p s m args c cc nL Ts own D cl tys A G) (q0 t0 : Nat) {a n j : Nat} {cA : ClassId} {f : Nat → Int32} {i : Int32} {x : Int32} (hd : decode cc pc = .ok (.iastore, 1)) (he : ws[q0]? = some (a, .inl (cA, n, .inl f))) (ht : tys[t0]? = some (cA, .int)) (hi : i = nI j) (hj : j < n) (hn : n < 2 ^ 31) (kk : zW p l e R s m args below meth c nL D cl A cells slots Q (ws.set q0 (a, .inl (cA, n, .inl (upd f j x)))) (lv) (pc + 1) (st)) : zW p l e R s m args below meth c nL D cl A cells slots Q ws (lv) (pc) (.int x :: .int i :: .ref a :: st) := by
  subst hi
  intro H locs ls hP hD hS hh
  refine va_iast F.1 F.2.1 F.2.2.2.2.2.1 hP hD hS q0 t0 he ht (vp_in_nI hj hn) hd ?_
  rw [nI_clamp (Nat.lt_trans hj hn)]
  exact fun H1 locs1 hP1 hD1 hS1 => kk H1 locs1 ls hP1 hD1 hS1 hh
theorem z_ialdN (F : zF p s m args c cc nL Ts own D cl tys A G) (q0 t0 : Nat) {a n j : Nat} {cA : ClassId} {f : Nat → Nat} {i : Int32} (hd : decode cc pc = .ok (.iaload, 1)) (he : ws[q0]? = some (a, .inl (cA, n, .inl (fun x => nI (f x))))) (ht : tys[t0]? = some (cA, .int)) (hi : i = nI j) (hj : j < n) (hn : n < 2 ^ 31) (kk : zW p l e R s m args below meth c nL D cl A cells slots Q ws (lv) (pc + 1) (.int (nI (f j)) :: st)) : zW p l e R s m args below meth c nL D cl A cells slots Q ws (lv) (pc) (.int i :: .ref a :: st) := z_iald F q0 t0 hd he ht hi hj hn kk
theorem z_iastN (F : zF p s m args c cc nL Ts own D cl tys A G) (q0 t0 : Nat) {a n j : Nat} {cA : ClassId} {f : Nat → Nat} {i : Int32} {x : Int32} (v : Nat) (hd : decode cc pc = .ok (.iastore, 1)) (he : ws[q0]? = some (a, .inl (cA, n, .inl (fun x => nI (f x))))) (ht : tys[t0]? = some (cA, .int)) (hi : i = nI j) (hj : j < n) (hn : n < 2 ^ 31) (hx : x = nI v) (kk : zW p l e R s m args below meth c nL D cl A cells slots Q (ws.set q0 (a, .inl (cA, n, .inl (fun x => nI (zu f j v x))))) (lv) (pc + 1) (st)) : zW p l e R s m args below meth c nL D cl A cells slots Q ws (lv) (pc) (.int x :: .int i :: .ref a :: st) := by
  subst hx
  refine z_iast F q0 t0 hd he ht hi hj hn ?_
  rw [zu_upd]
  exact kk
theorem z_lald (F : zF p s m args c cc nL Ts own D cl tys A G) (q0 t0 : Nat) {a n j : Nat} {cA : ClassId} {f : Nat → Int64} {i : Int32} (hd : decode cc pc = .ok (.laload, 1)) (he : ws[q0]? = some (a, .inl (cA, n, .inr (.inl f)))) (ht : tys[t0]? = some (cA, .long)) (hi : i = nI j) (hj : j < n) (hn : n < 2 ^ 31) (kk : zW p l e R s m args below meth c nL D cl A cells slots Q ws (lv) (pc + 1) (.long (f j) :: st)) : zW p l e R s m args below meth c nL D cl A cells slots Q ws (lv) (pc) (.int i :: .ref a :: st) := by
  subst hi
  intro H locs ls hP hD hS hh
  refine va_lald F.1 F.2.1 F.2.2.2.2.2.1 hP q0 t0 he ht (vp_in_nI hj hn) hd ?_
  rw [nI_clamp (Nat.lt_trans hj hn)]
  exact kk H locs ls hP hD hS hh
theorem z_last (F : zF p s m args c cc nL Ts own D cl tys A G) (q0 t0 : Nat) {a n j : Nat} {cA : ClassId} {f : Nat → Int64} {i : Int32} {x : Int64} (hd : decode cc pc = .ok (.lastore, 1)) (he : ws[q0]? = some (a, .inl (cA, n, .inr (.inl f)))) (ht : tys[t0]? = some (cA, .long)) (hi : i = nI j) (hj : j < n) (hn : n < 2 ^ 31) (kk : zW p l e R s m args below meth c nL D cl A cells slots Q (ws.set q0 (a, .inl (cA, n, .inr (.inl (vp_updL f j x))))) (lv) (pc + 1) (st)) : zW p l e R s m args below meth c nL D cl A cells slots Q ws (lv) (pc) (.long x :: .int i :: .ref a :: st) := by
  subst hi
  intro H locs ls hP hD hS hh
  refine va_last F.1 F.2.1 F.2.2.2.2.2.1 hP hD hS q0 t0 he ht (vp_in_nI hj hn) hd ?_
  rw [nI_clamp (Nat.lt_trans hj hn)]
  exact fun H1 locs1 hP1 hD1 hS1 => kk H1 locs1 ls hP1 hD1 hS1 hh
theorem z_alen (F : zF p s m args c cc nL Ts own D cl tys A G) (q0 t0 : Nat) {a : Nat} {cA : ClassId} {x : vp_A} {ty : FieldType} {v : Int32} (hd : decode cc pc = .ok (.arraylength, 1)) (he : ws[q0]? = some (a, .inl (cA, x))) (ht : tys[t0]? = some (cA, ty)) (hv : Int32.ofNat x.1 = v) (kk : zW p l e R s m args below meth c nL D cl A cells slots Q ws (lv) (pc + 1) (.int v :: st)) : zW p l e R s m args below meth c nL D cl A cells slots Q ws (lv) (pc) (.ref a :: st) := fun H locs ls hP hD hS hh => va_alen F.1 F.2.1 F.2.2.2.2.2.1 hP q0 t0 he ht hv hd (kk H locs ls hP hD hS hh)
theorem z_new (F : zF p s m args c cc nL Ts own D cl tys A G) {C : String} {T : u_T} {N ci index : Nat} {fs : List Value} (ty : Nat → FieldType) (hd : decode cc pc = .ok (.new index, 3)) (hin : ∀ w ∈ u_ws C T N, w ∈ Ts) (hty : ∀ k, k < N → parseFieldDescriptor (T k).2.2.1 = some (ty k)) (hcl : Cond.classLink own index C ∈ Ts) (hinst : Cond.instantiable C N ∈ Ts) (hini : Cond.initialized C ∈ Ts) (hc : cl[ci]? = some (C, T, N)) (hfs : ∀ j, j < N → defaultValue (ty j) = vp_V fs j) (hcells : cells + 1 ≤ R.cells) (hslots : slots + N ≤ R.slots) (kk : ∀ q : Nat, zW p l e R s m args below meth c nL D cl A (cells + 1) (slots + N) Q (ws ++ [(q, .inr (ci, fs))]) (lv) (pc + 3) (.ref q :: st)) : zW p l e R s m args below meth c nL D cl A cells slots Q ws (lv) (pc) (st) := fun H locs ls hP hD hS hh => va_new F.1 F.2.1 F.2.2.2.2.1 hin ty hty F.2.2.2.1 (F.2.2.2.2.1 _ hcl) (F.2.2.2.2.1 _ hinst) (F.2.2.2.2.1 _ hini) F.2.2.2.2.2.1 hP hD hS F.2.2.2.2.2.2.1 hc hfs hcells hslots hd (fun q H1 hP1 hD1 hS1 => kk q H1 locs ls hP1 hD1 hS1 hh)
theorem z_newi (F : zF p s m args c cc nL Ts own D cl tys A G) (t0 : Nat) {cA : ClassId} {n : Int32} {N : Nat} (hd : decode cc pc = .ok (.newarray .int, 2)) (harr : Cond.arrayClass .int ∈ Ts) (ht : tys[t0]? = some (cA, .int)) (hn : n = nI N) (hb : N ≤ 65536) (hcells : cells + 1 ≤ R.cells) (hslots : slots + N ≤ R.slots) (kk : ∀ q : Nat, zW p l e R s m args below meth c nL D cl A (cells + 1) (slots + N) Q (ws ++ [(q, .inl (cA, N, .inl (fun _ => 0)))]) (lv) (pc + 2) (.ref q :: st)) : zW p l e R s m args below meth c nL D cl A cells slots Q ws (lv) (pc) (.int n :: st) := by
  subst hn
  intro H locs ls hP hD hS hh
  refine va_newa (atype := .int) (ty := .int) (a0 := (N, .inl (fun _ => 0))) (N' := N) F.1 F.2.1 (F.2.2.2.2.1 _ harr) rfl F.2.2.2.2.2.1 hP hD hS F.2.2.2.2.2.2.1 (fun _ => rfl) (nI_pos (by omega)) (nI_clamp (by omega)) (by show N * 4 ≤ 536870912; omega) hcells hslots hd ?_
  intro q cB H1 hK1 hP1 hD1 hS1
  have e1 : s.vm.findClass ("[" ++ (FieldType.int).toString) = some cA := (F.2.2.2.2.2.1.2 t0 _ ht).2
  have e2 : s.vm.findClass ("[" ++ (FieldType.int).toString) = some cB := (hK1.2 tys.length (cB, .int) (by rw [List.getElem?_append_right (Nat.le_refl _), Nat.sub_self]; rfl)).2
  have e3 : cA = cB := Option.some.inj (e1.symm.trans e2)
  subst e3
  exact kk q H1 locs ls hP1 hD1 hS1 hh
theorem z_newl (F : zF p s m args c cc nL Ts own D cl tys A G) (t0 : Nat) {cA : ClassId} {n : Int32} {N : Nat} (hd : decode cc pc = .ok (.newarray .long, 2)) (harr : Cond.arrayClass .long ∈ Ts) (ht : tys[t0]? = some (cA, .long)) (hn : n = nI N) (hb : N ≤ 65536) (hcells : cells + 1 ≤ R.cells) (hslots : slots + N ≤ R.slots) (kk : ∀ q : Nat, zW p l e R s m args below meth c nL D cl A (cells + 1) (slots + N) Q (ws ++ [(q, .inl (cA, N, .inr (.inl (fun _ => 0))))]) (lv) (pc + 2) (.ref q :: st)) : zW p l e R s m args below meth c nL D cl A cells slots Q ws (lv) (pc) (.int n :: st) := by
  subst hn
  intro H locs ls hP hD hS hh
  refine va_newa (atype := .long) (ty := .long) (a0 := (N, .inr (.inl (fun _ => 0)))) (N' := N) F.1 F.2.1 (F.2.2.2.2.1 _ harr) rfl F.2.2.2.2.2.1 hP hD hS F.2.2.2.2.2.2.1 (fun _ => rfl) (nI_pos (by omega)) (nI_clamp (by omega)) (by show N * 8 ≤ 536870912; omega) hcells hslots hd ?_
  intro q cB H1 hK1 hP1 hD1 hS1
  have e1 : s.vm.findClass ("[" ++ (FieldType.long).toString) = some cA := (F.2.2.2.2.2.1.2 t0 _ ht).2
  have e2 : s.vm.findClass ("[" ++ (FieldType.long).toString) = some cB := (hK1.2 tys.length (cB, .long) (by rw [List.getElem?_append_right (Nat.le_refl _), Nat.sub_self]; rfl)).2
  have e3 : cA = cB := Option.some.inj (e1.symm.trans e2)
  subst e3
  exact kk q H1 locs ls hP1 hD1 hS1 hh
theorem z_objInit (F : zF p s m args c cc nL Ts own D cl tys A G) {idx : Nat} {a : Nat} (hd : decode cc pc = .ok (.invokespecial idx, 3)) (hlink : Cond.methodLink own idx objectInit ∈ Ts) (hinst : Cond.instanceMethod objectInit ∈ Ts) (hcode : Cond.code objectInit ⟨#[0xb1]⟩ 1 none ∈ Ts) (hfr : 1 ≤ R.frames) (hlo : (st.map fun v => v.category).sum + 12 ≤ R.locals) (k : zW p l e R s m args below meth c nL D cl A cells slots Q ws (lv) (pc + 3) (st)) : zW p l e R s m args below meth c nL D cl A cells slots Q ws (lv) (pc) (.ref a :: st) := by
  intro H locs ls hP hD hS hh
  exact W.objInit F.1 F.2.1 F.2.2.2.1 (F.2.2.2.2.1 _ hlink) (F.2.2.2.2.1 _ hinst) (F.2.2.2.2.1 _ hcode) rfl (by rw [F.2.2.1]; exact hh.1) rfl hd hfr (by simpa [JFrame.monitorRoom] using hlo) (k H locs ls hP hD hS hh)
theorem z_iret (F : zF p s m args c cc nL Ts own D cl tys A G) {post : Int32 → va_W → Prop} {v : Int32} {mc ms : Nat} {ty : FieldType} (hr : meth.sig.returnType = some ty) (hn : narrow ty (.int v) = .int v) (hlk : meth.locks = false) (hd : decode cc pc = .ok (.ireturn, 1)) (hp : post v ws) (h1 : cells ≤ mc) (h2 : slots ≤ ms) : zW p l e R s m args below meth c nL D cl A cells slots (MQ below (va_Qi post (zEnd D cl A) A) args s mc ms A) ws (lv) (pc) ([.int v]) := by
  intro H locs ls hP hD hS hh
  refine W.widen h1 h2 ?_
  exact W.zret F.1 F.2.1 hr hn (fun t ht _ => ⟨⟨v, ws, rfl, hp, by rw [ht]; exact hP, hD⟩, hS.F ht⟩) hS.2.2 hd hlk
theorem z_vret (F : zF p s m args c cc nL Ts own D cl tys A G) {post : va_W → Prop} {mc ms : Nat} (hr : meth.sig.returnType = none) (hlk : meth.locks = false) (hd : decode cc pc = .ok (.return_, 1)) (hp : post ws) (h1 : cells ≤ mc) (h2 : slots ≤ ms) : zW p l e R s m args below meth c nL D cl A cells slots (MQ below (va_Qv post (zEnd D cl A) A) args s mc ms A) ws (lv) (pc) ([]) := by
  intro H locs ls hP hD hS hh
  refine W.widen h1 h2 ?_
  exact W.vret F.1 F.2.1 hr (fun t ht _ => ⟨⟨ws, rfl, hp, by rw [ht]; exact hP, hD⟩, hS.F ht⟩) hS.2.2 hd hlk
theorem z_callVi (F : zF p s m args c cc nL Ts own D cl tys A G) {y : MethodName} {bytes : ByteArray} {maxL mc ms n index : Nat} {ret : Option FieldType} {wsy : List Cond} {rm : Room} {As rest : List Value} {w1 w2 w3 : va_W} {b : Nat} {C : String} {T : u_T} {N ci : Nat} {fs : List Value} {post : Int32 → va_W → Prop} (hM : zMi l y wsy rm D cl tys G (.ref b :: As) w2 post mc ms) (q0 : Nat) (he : w2[q0]? = some (b, .inr (ci, fs))) (hc : cl[ci]? = some (C, T, N)) (cw : CallW R s args own C index y bytes maxL ret wsy rm mc ms n) (hd : decode cc pc = .ok (.invokevirtual index, 3)) (hws : ws = w1 ++ (w2 ++ w3)) (hst : st = As.reverse ++ .ref b :: rest) (hn : As.length = n) (hro : (rest.map fun v => v.category).sum ≤ 8) (hf : cells + mc ≤ R.cells ∧ slots + ms ≤ R.slots)
    (kk : ∀ (r : Int32) (w2b : va_W), post r w2b → zW p l e R s m args below meth c nL D cl A (cells + mc) (slots + ms) Q (w1 ++ (w2b ++ w3)) (lv) (pc + 3) (.int r :: rest)) : zW p l e R s m args below meth c nL D cl A cells slots Q ws (lv) (pc) (st) := by
  subst hws
  subst hst
  intro H locs ls hP hD hS hh
  have hPc := zP_mid hP
  have hDc := zD_mid hD
  have hFc := z_free hD hS F.2.2.2.2.2.2.1
  refine va_calli (va_runV (As := As) (rest := rest) ⟨F.1, F.2.1, F.2.2.1, F.2.2.2.1, F.2.2.2.2.1⟩ (hM H.size) cw ⟨fun a U g mk q => by
      obtain ⟨q0, q1, qP, qK, qD, qG, qo⟩ := q
      exact ⟨q0, q1, qP, va_K.moved (u := U) (U := U.calling g mk a) (Vm.Alike.refl U.vm) qK, qD, qo U (U.calling g mk a) _ _ (State.WarmedH.refl U) (fun _ _ _ => rfl) (fun _ h => h) qG, qo⟩, va_recv F.2.2.2.2.2.1 hPc hc he, fun U hU hW => ⟨rfl, by rw [hU], by rw [hU]; exact hPc, va_K.moved hW.alike F.2.2.2.2.2.1, hDc.weaken (fun _ _ _ _ => trivial), F.2.2.2.2.2.2.2.2 s U A _ hW (fun q h1 h2 => by rw [hU]; exact hS.2.1 q h1 h2) hFc F.2.2.2.2.2.2.2.1, F.2.2.2.2.2.2.2.2⟩⟩ rfl hn hh.1 rfl (lv_room hro) hd hf) hS (fun q _ h => hFc q h) hFc ?_
  intro r w2b t H1 locs1 ht hvm hpost hB hz hk hS1
  obtain ⟨hP1, hD1⟩ := hB
  rw [ht] at hP1
  obtain ⟨hP2, hD2⟩ := z_join hP hD hk hFc hP1 hD1
  exact kk r w2b hpost H1 locs1 ls hP2 hD2 hS1 hh
theorem z_callVi0 (F : zF p s m args c cc nL Ts own D cl tys A G) {y : MethodName} {bytes : ByteArray} {maxL mc ms n index : Nat} {ret : Option FieldType} {wsy : List Cond} {rm : Room} {As rest : List Value} {b : Nat} {C : String} {T : u_T} {N ci : Nat} {fs : List Value} {post : Int32 → va_W → Prop} (hM : zMi l y wsy rm D cl tys G (.ref b :: As) ws post mc ms) (q0 : Nat) (he : ws[q0]? = some (b, .inr (ci, fs))) (hc : cl[ci]? = some (C, T, N)) (cw : CallW R s args own C index y bytes maxL ret wsy rm mc ms n) (hd : decode cc pc = .ok (.invokevirtual index, 3)) (hst : st = As.reverse ++ .ref b :: rest) (hn : As.length = n) (hro : (rest.map fun v => v.category).sum ≤ 8) (hf : cells + mc ≤ R.cells ∧ slots + ms ≤ R.slots)
    (kk : ∀ (r : Int32) (wb : va_W), post r wb → zW p l e R s m args below meth c nL D cl A (cells + mc) (slots + ms) Q wb (lv) (pc + 3) (.int r :: rest)) : zW p l e R s m args below meth c nL D cl A cells slots Q ws (lv) (pc) (st) := by
  refine z_callVi (w1 := []) (w3 := []) F hM q0 he hc cw hd (by simp) hst hn hro hf ?_
  intro r wb hp
  have := kk r wb hp
  simpa using this
theorem z_callVv (F : zF p s m args c cc nL Ts own D cl tys A G) {y : MethodName} {bytes : ByteArray} {maxL mc ms n index : Nat} {ret : Option FieldType} {wsy : List Cond} {rm : Room} {As rest : List Value} {w1 w2 w3 : va_W} {b : Nat} {C : String} {T : u_T} {N ci : Nat} {fs : List Value} {post : va_W → Prop} (hM : zMv l y wsy rm D cl tys G (.ref b :: As) w2 post mc ms) (q0 : Nat) (he : w2[q0]? = some (b, .inr (ci, fs))) (hc : cl[ci]? = some (C, T, N)) (cw : CallW R s args own C index y bytes maxL ret wsy rm mc ms n) (hd : decode cc pc = .ok (.invokevirtual index, 3)) (hws : ws = w1 ++ (w2 ++ w3)) (hst : st = As.reverse ++ .ref b :: rest) (hn : As.length = n) (hro : (rest.map fun v => v.category).sum ≤ 8) (hf : cells + mc ≤ R.cells ∧ slots + ms ≤ R.slots)
    (kk : ∀ w2b : va_W, post w2b → zW p l e R s m args below meth c nL D cl A (cells + mc) (slots + ms) Q (w1 ++ (w2b ++ w3)) (lv) (pc + 3) (rest)) : zW p l e R s m args below meth c nL D cl A cells slots Q ws (lv) (pc) (st) := by
  subst hws
  subst hst
  intro H locs ls hP hD hS hh
  have hPc := zP_mid hP
  have hDc := zD_mid hD
  have hFc := z_free hD hS F.2.2.2.2.2.2.1
  refine va_callv (va_runV (As := As) (rest := rest) ⟨F.1, F.2.1, F.2.2.1, F.2.2.2.1, F.2.2.2.2.1⟩ (hM H.size) cw ⟨fun a U g mk q => by
      obtain ⟨q0, q1, qP, qK, qD, qG, qo⟩ := q
      exact ⟨q0, q1, qP, va_K.moved (u := U) (U := U.calling g mk a) (Vm.Alike.refl U.vm) qK, qD, qo U (U.calling g mk a) _ _ (State.WarmedH.refl U) (fun _ _ _ => rfl) (fun _ h => h) qG, qo⟩, va_recv F.2.2.2.2.2.1 hPc hc he, fun U hU hW => ⟨rfl, by rw [hU], by rw [hU]; exact hPc, va_K.moved hW.alike F.2.2.2.2.2.1, hDc.weaken (fun _ _ _ _ => trivial), F.2.2.2.2.2.2.2.2 s U A _ hW (fun q h1 h2 => by rw [hU]; exact hS.2.1 q h1 h2) hFc F.2.2.2.2.2.2.2.1, F.2.2.2.2.2.2.2.2⟩⟩ rfl hn hh.1 rfl (lv_room hro) hd hf) hS (fun q _ h => hFc q h) hFc ?_
  intro w2b t H1 locs1 ht hvm hpost hB hz hk hS1
  obtain ⟨hP1, hD1⟩ := hB
  rw [ht] at hP1
  obtain ⟨hP2, hD2⟩ := z_join hP hD hk hFc hP1 hD1
  exact kk w2b hpost H1 locs1 ls hP2 hD2 hS1 hh
theorem z_callVv0 (F : zF p s m args c cc nL Ts own D cl tys A G) {y : MethodName} {bytes : ByteArray} {maxL mc ms n index : Nat} {ret : Option FieldType} {wsy : List Cond} {rm : Room} {As rest : List Value} {b : Nat} {C : String} {T : u_T} {N ci : Nat} {fs : List Value} {post : va_W → Prop} (hM : zMv l y wsy rm D cl tys G (.ref b :: As) ws post mc ms) (q0 : Nat) (he : ws[q0]? = some (b, .inr (ci, fs))) (hc : cl[ci]? = some (C, T, N)) (cw : CallW R s args own C index y bytes maxL ret wsy rm mc ms n) (hd : decode cc pc = .ok (.invokevirtual index, 3)) (hst : st = As.reverse ++ .ref b :: rest) (hn : As.length = n) (hro : (rest.map fun v => v.category).sum ≤ 8) (hf : cells + mc ≤ R.cells ∧ slots + ms ≤ R.slots)
    (kk : ∀ wb : va_W, post wb → zW p l e R s m args below meth c nL D cl A (cells + mc) (slots + ms) Q wb (lv) (pc + 3) (rest)) : zW p l e R s m args below meth c nL D cl A cells slots Q ws (lv) (pc) (st) := by
  refine z_callVv (w1 := []) (w3 := []) F hM q0 he hc cw hd (by simp) hst hn hro hf ?_
  intro wb hp
  have := kk wb hp
  simpa using this
theorem z_callSi (F : zF p s m args c cc nL Ts own D cl tys A G) {y : MethodName} {bytes : ByteArray} {maxL mc ms n index : Nat} {ret : Option FieldType} {wsy : List Cond} {rm : Room} {As rest : List Value} {w1 w2 w3 : va_W} {post : Int32 → va_W → Prop} (hM : zMi l y wsy rm D cl tys G As w2 post mc ms)  (cw : CallB R s args own index y bytes maxL ret wsy rm mc ms n ∧ (Cond.static y).before args s = true) (hd : decode cc pc = .ok (.invokestatic index, 3)) (hws : ws = w1 ++ (w2 ++ w3)) (hst : st = As.reverse ++ rest) (hn : As.length = n) (hro : (rest.map fun v => v.category).sum ≤ 8) (hf : cells + mc ≤ R.cells ∧ slots + ms ≤ R.slots)
    (kk : ∀ (r : Int32) (w2b : va_W), post r w2b → zW p l e R s m args below meth c nL D cl A (cells + mc) (slots + ms) Q (w1 ++ (w2b ++ w3)) (lv) (pc + 3) (.int r :: rest)) : zW p l e R s m args below meth c nL D cl A cells slots Q ws (lv) (pc) (st) := by
  subst hws
  subst hst
  intro H locs ls hP hD hS hh
  have hPc := zP_mid hP
  have hDc := zD_mid hD
  have hFc := z_free hD hS F.2.2.2.2.2.2.1
  refine va_calli (va_runS (As := As) (rest := rest) ⟨F.1, F.2.1, F.2.2.1, F.2.2.2.1, F.2.2.2.2.1⟩ (hM H.size) cw ⟨fun a U g mk q => by
      obtain ⟨q0, q1, qP, qK, qD, qG, qo⟩ := q
      exact ⟨q0, q1, qP, va_K.moved (u := U) (U := U.calling g mk a) (Vm.Alike.refl U.vm) qK, qD, qo U (U.calling g mk a) _ _ (State.WarmedH.refl U) (fun _ _ _ => rfl) (fun _ h => h) qG, qo⟩, fun U hU hW => ⟨rfl, by rw [hU], by rw [hU]; exact hPc, va_K.moved hW.alike F.2.2.2.2.2.1, hDc.weaken (fun _ _ _ _ => trivial), F.2.2.2.2.2.2.2.2 s U A _ hW (fun q h1 h2 => by rw [hU]; exact hS.2.1 q h1 h2) hFc F.2.2.2.2.2.2.2.1, F.2.2.2.2.2.2.2.2⟩⟩ rfl hn hh.1 rfl (lv_room hro) hd hf) hS (fun q _ h => hFc q h) hFc ?_
  intro r w2b t H1 locs1 ht hvm hpost hB hz hk hS1
  obtain ⟨hP1, hD1⟩ := hB
  rw [ht] at hP1
  obtain ⟨hP2, hD2⟩ := z_join hP hD hk hFc hP1 hD1
  exact kk r w2b hpost H1 locs1 ls hP2 hD2 hS1 hh
theorem z_callSi0 (F : zF p s m args c cc nL Ts own D cl tys A G) {y : MethodName} {bytes : ByteArray} {maxL mc ms n index : Nat} {ret : Option FieldType} {wsy : List Cond} {rm : Room} {As rest : List Value} {post : Int32 → va_W → Prop} (hM : zMi l y wsy rm D cl tys G As ws post mc ms)  (cw : CallB R s args own index y bytes maxL ret wsy rm mc ms n ∧ (Cond.static y).before args s = true) (hd : decode cc pc = .ok (.invokestatic index, 3)) (hst : st = As.reverse ++ rest) (hn : As.length = n) (hro : (rest.map fun v => v.category).sum ≤ 8) (hf : cells + mc ≤ R.cells ∧ slots + ms ≤ R.slots)
    (kk : ∀ (r : Int32) (wb : va_W), post r wb → zW p l e R s m args below meth c nL D cl A (cells + mc) (slots + ms) Q wb (lv) (pc + 3) (.int r :: rest)) : zW p l e R s m args below meth c nL D cl A cells slots Q ws (lv) (pc) (st) := by
  refine z_callSi (w1 := []) (w3 := []) F hM  cw hd (by simp) hst hn hro hf ?_
  intro r wb hp
  have := kk r wb hp
  simpa using this
theorem z_callSv (F : zF p s m args c cc nL Ts own D cl tys A G) {y : MethodName} {bytes : ByteArray} {maxL mc ms n index : Nat} {ret : Option FieldType} {wsy : List Cond} {rm : Room} {As rest : List Value} {w1 w2 w3 : va_W} {post : va_W → Prop} (hM : zMv l y wsy rm D cl tys G As w2 post mc ms)  (cw : CallB R s args own index y bytes maxL ret wsy rm mc ms n ∧ (Cond.static y).before args s = true) (hd : decode cc pc = .ok (.invokestatic index, 3)) (hws : ws = w1 ++ (w2 ++ w3)) (hst : st = As.reverse ++ rest) (hn : As.length = n) (hro : (rest.map fun v => v.category).sum ≤ 8) (hf : cells + mc ≤ R.cells ∧ slots + ms ≤ R.slots)
    (kk : ∀ w2b : va_W, post w2b → zW p l e R s m args below meth c nL D cl A (cells + mc) (slots + ms) Q (w1 ++ (w2b ++ w3)) (lv) (pc + 3) (rest)) : zW p l e R s m args below meth c nL D cl A cells slots Q ws (lv) (pc) (st) := by
  subst hws
  subst hst
  intro H locs ls hP hD hS hh
  have hPc := zP_mid hP
  have hDc := zD_mid hD
  have hFc := z_free hD hS F.2.2.2.2.2.2.1
  refine va_callv (va_runS (As := As) (rest := rest) ⟨F.1, F.2.1, F.2.2.1, F.2.2.2.1, F.2.2.2.2.1⟩ (hM H.size) cw ⟨fun a U g mk q => by
      obtain ⟨q0, q1, qP, qK, qD, qG, qo⟩ := q
      exact ⟨q0, q1, qP, va_K.moved (u := U) (U := U.calling g mk a) (Vm.Alike.refl U.vm) qK, qD, qo U (U.calling g mk a) _ _ (State.WarmedH.refl U) (fun _ _ _ => rfl) (fun _ h => h) qG, qo⟩, fun U hU hW => ⟨rfl, by rw [hU], by rw [hU]; exact hPc, va_K.moved hW.alike F.2.2.2.2.2.1, hDc.weaken (fun _ _ _ _ => trivial), F.2.2.2.2.2.2.2.2 s U A _ hW (fun q h1 h2 => by rw [hU]; exact hS.2.1 q h1 h2) hFc F.2.2.2.2.2.2.2.1, F.2.2.2.2.2.2.2.2⟩⟩ rfl hn hh.1 rfl (lv_room hro) hd hf) hS (fun q _ h => hFc q h) hFc ?_
  intro w2b t H1 locs1 ht hvm hpost hB hz hk hS1
  obtain ⟨hP1, hD1⟩ := hB
  rw [ht] at hP1
  obtain ⟨hP2, hD2⟩ := z_join hP hD hk hFc hP1 hD1
  exact kk w2b hpost H1 locs1 ls hP2 hD2 hS1 hh
theorem z_callSv0 (F : zF p s m args c cc nL Ts own D cl tys A G) {y : MethodName} {bytes : ByteArray} {maxL mc ms n index : Nat} {ret : Option FieldType} {wsy : List Cond} {rm : Room} {As rest : List Value} {post : va_W → Prop} (hM : zMv l y wsy rm D cl tys G As ws post mc ms)  (cw : CallB R s args own index y bytes maxL ret wsy rm mc ms n ∧ (Cond.static y).before args s = true) (hd : decode cc pc = .ok (.invokestatic index, 3)) (hst : st = As.reverse ++ rest) (hn : As.length = n) (hro : (rest.map fun v => v.category).sum ≤ 8) (hf : cells + mc ≤ R.cells ∧ slots + ms ≤ R.slots)
    (kk : ∀ wb : va_W, post wb → zW p l e R s m args below meth c nL D cl A (cells + mc) (slots + ms) Q wb (lv) (pc + 3) (rest)) : zW p l e R s m args below meth c nL D cl A cells slots Q ws (lv) (pc) (st) := by
  refine z_callSv (w1 := []) (w3 := []) F hM  cw hd (by simp) hst hn hro hf ?_
  intro wb hp
  have := kk wb hp
  simpa using this
theorem z_callIv (F : zF p s m args c cc nL Ts own D cl tys A G) {y : MethodName} {bytes : ByteArray} {maxL mc ms n index : Nat} {ret : Option FieldType} {wsy : List Cond} {rm : Room} {As rest : List Value} {w1 w2 w3 : va_W} {b : Nat} {post : va_W → Prop} (hM : zMv l y wsy rm D cl tys G (.ref b :: As) w2 post mc ms)  (cw : CallB R s args own index y bytes maxL none wsy rm mc ms n ∧ y.name = "<init>" ∧ (Cond.instanceMethod y).before args s = true) (hd : decode cc pc = .ok (.invokespecial index, 3)) (hws : ws = w1 ++ (w2 ++ w3)) (hst : st = As.reverse ++ .ref b :: rest) (hn : As.length = n) (hro : (rest.map fun v => v.category).sum ≤ 8) (hf : cells + mc ≤ R.cells ∧ slots + ms ≤ R.slots)
    (kk : ∀ w2b : va_W, post w2b → zW p l e R s m args below meth c nL D cl A (cells + mc) (slots + ms) Q (w1 ++ (w2b ++ w3)) (lv) (pc + 3) (rest)) : zW p l e R s m args below meth c nL D cl A cells slots Q ws (lv) (pc) (st) := by
  subst hws
  subst hst
  intro H locs ls hP hD hS hh
  have hPc := zP_mid hP
  have hDc := zD_mid hD
  have hFc := z_free hD hS F.2.2.2.2.2.2.1
  refine va_callv (va_runI (As := As) (rest := rest) ⟨F.1, F.2.1, F.2.2.1, F.2.2.2.1, F.2.2.2.2.1⟩ (hM H.size) cw ⟨fun a U g mk q => by
      obtain ⟨q0, q1, qP, qK, qD, qG, qo⟩ := q
      exact ⟨q0, q1, qP, va_K.moved (u := U) (U := U.calling g mk a) (Vm.Alike.refl U.vm) qK, qD, qo U (U.calling g mk a) _ _ (State.WarmedH.refl U) (fun _ _ _ => rfl) (fun _ h => h) qG, qo⟩, fun U hU hW => ⟨rfl, by rw [hU], by rw [hU]; exact hPc, va_K.moved hW.alike F.2.2.2.2.2.1, hDc.weaken (fun _ _ _ _ => trivial), F.2.2.2.2.2.2.2.2 s U A _ hW (fun q h1 h2 => by rw [hU]; exact hS.2.1 q h1 h2) hFc F.2.2.2.2.2.2.2.1, F.2.2.2.2.2.2.2.2⟩⟩ rfl hn hh.1 rfl (lv_room hro) hd hf) hS (fun q _ h => hFc q h) hFc ?_
  intro w2b t H1 locs1 ht hvm hpost hB hz hk hS1
  obtain ⟨hP1, hD1⟩ := hB
  rw [ht] at hP1
  obtain ⟨hP2, hD2⟩ := z_join hP hD hk hFc hP1 hD1
  exact kk w2b hpost H1 locs1 ls hP2 hD2 hS1 hh
theorem z_callVNi (F : zF p s m args c cc nL Ts own D cl tys A G) {y : MethodName} {bytes : ByteArray} {maxL mc ms n index : Nat} {ret : Option FieldType} {wsy : List Cond} {rm : Room} {As rest : List Value} {w1 w2 w3 : va_W} {b : Nat} {host : String} {C : String} {T : u_T} {N ci : Nat} {fs : List Value} {post : Int32 → va_W → Prop} (hM : zMi l y wsy rm D cl tys G (.ref b :: As) w2 post mc ms) (q0 : Nat) (he : w2[q0]? = some (b, .inr (ci, fs))) (hc : cl[ci]? = some (C, T, N)) (cw : va_CN R s args own index y host bytes maxL ret wsy rm mc ms n ∧ (Cond.instanceMethod y).before args s = true ∧ (Cond.selects C y y).before args s = true) (hd : decode cc pc = .ok (.invokevirtual index, 3)) (hws : ws = w1 ++ (w2 ++ w3)) (hst : st = As.reverse ++ .ref b :: rest) (hn : As.length = n) (hro : (rest.map fun v => v.category).sum ≤ 8) (hf : cells + mc ≤ R.cells ∧ slots + ms ≤ R.slots)
    (kk : ∀ (r : Int32) (w2b : va_W), post r w2b → zW p l e R s m args below meth c nL D cl A (cells + mc) (slots + ms) Q (w1 ++ (w2b ++ w3)) (lv) (pc + 3) (.int r :: rest)) : zW p l e R s m args below meth c nL D cl A cells slots Q ws (lv) (pc) (st) := by
  subst hws
  subst hst
  intro H locs ls hP hD hS hh
  have hPc := zP_mid hP
  have hDc := zD_mid hD
  have hFc := z_free hD hS F.2.2.2.2.2.2.1
  refine va_calli (va_runVN (As := As) (rest := rest) ⟨F.1, F.2.1, F.2.2.1, F.2.2.2.1, F.2.2.2.2.1⟩ (hM H.size) cw ⟨fun a U g mk q => by
      obtain ⟨q0, q1, qP, qK, qD, qG, qo⟩ := q
      exact ⟨q0, q1, qP, va_K.moved (u := U) (U := U.calling g mk a) (Vm.Alike.refl U.vm) qK, qD, qo U (U.calling g mk a) _ _ (State.WarmedH.refl U) (fun _ _ _ => rfl) (fun _ h => h) qG, qo⟩, va_recv F.2.2.2.2.2.1 hPc hc he, fun U hU hW => ⟨rfl, by rw [hU], by rw [hU]; exact hPc, va_K.moved hW.alike F.2.2.2.2.2.1, hDc.weaken (fun _ _ _ _ => trivial), F.2.2.2.2.2.2.2.2 s U A _ hW (fun q h1 h2 => by rw [hU]; exact hS.2.1 q h1 h2) hFc F.2.2.2.2.2.2.2.1, F.2.2.2.2.2.2.2.2⟩⟩ rfl hn hh.1 rfl (lv_room hro) hd hf) hS (fun q _ h => hFc q h) hFc ?_
  intro r w2b t H1 locs1 ht hvm hpost hB hz hk hS1
  obtain ⟨hP1, hD1⟩ := hB
  rw [ht] at hP1
  obtain ⟨hP2, hD2⟩ := z_join hP hD hk hFc hP1 hD1
  exact kk r w2b hpost H1 locs1 ls hP2 hD2 hS1 hh
theorem z_callVNi0 (F : zF p s m args c cc nL Ts own D cl tys A G) {y : MethodName} {bytes : ByteArray} {maxL mc ms n index : Nat} {ret : Option FieldType} {wsy : List Cond} {rm : Room} {As rest : List Value} {b : Nat} {host : String} {C : String} {T : u_T} {N ci : Nat} {fs : List Value} {post : Int32 → va_W → Prop} (hM : zMi l y wsy rm D cl tys G (.ref b :: As) ws post mc ms) (q0 : Nat) (he : ws[q0]? = some (b, .inr (ci, fs))) (hc : cl[ci]? = some (C, T, N)) (cw : va_CN R s args own index y host bytes maxL ret wsy rm mc ms n ∧ (Cond.instanceMethod y).before args s = true ∧ (Cond.selects C y y).before args s = true) (hd : decode cc pc = .ok (.invokevirtual index, 3)) (hst : st = As.reverse ++ .ref b :: rest) (hn : As.length = n) (hro : (rest.map fun v => v.category).sum ≤ 8) (hf : cells + mc ≤ R.cells ∧ slots + ms ≤ R.slots)
    (kk : ∀ (r : Int32) (wb : va_W), post r wb → zW p l e R s m args below meth c nL D cl A (cells + mc) (slots + ms) Q wb (lv) (pc + 3) (.int r :: rest)) : zW p l e R s m args below meth c nL D cl A cells slots Q ws (lv) (pc) (st) := by
  refine z_callVNi (w1 := []) (w3 := []) F hM q0 he hc cw hd (by simp) hst hn hro hf ?_
  intro r wb hp
  have := kk r wb hp
  simpa using this
theorem z_callVNv (F : zF p s m args c cc nL Ts own D cl tys A G) {y : MethodName} {bytes : ByteArray} {maxL mc ms n index : Nat} {ret : Option FieldType} {wsy : List Cond} {rm : Room} {As rest : List Value} {w1 w2 w3 : va_W} {b : Nat} {host : String} {C : String} {T : u_T} {N ci : Nat} {fs : List Value} {post : va_W → Prop} (hM : zMv l y wsy rm D cl tys G (.ref b :: As) w2 post mc ms) (q0 : Nat) (he : w2[q0]? = some (b, .inr (ci, fs))) (hc : cl[ci]? = some (C, T, N)) (cw : va_CN R s args own index y host bytes maxL ret wsy rm mc ms n ∧ (Cond.instanceMethod y).before args s = true ∧ (Cond.selects C y y).before args s = true) (hd : decode cc pc = .ok (.invokevirtual index, 3)) (hws : ws = w1 ++ (w2 ++ w3)) (hst : st = As.reverse ++ .ref b :: rest) (hn : As.length = n) (hro : (rest.map fun v => v.category).sum ≤ 8) (hf : cells + mc ≤ R.cells ∧ slots + ms ≤ R.slots)
    (kk : ∀ w2b : va_W, post w2b → zW p l e R s m args below meth c nL D cl A (cells + mc) (slots + ms) Q (w1 ++ (w2b ++ w3)) (lv) (pc + 3) (rest)) : zW p l e R s m args below meth c nL D cl A cells slots Q ws (lv) (pc) (st) := by
  subst hws
  subst hst
  intro H locs ls hP hD hS hh
  have hPc := zP_mid hP
  have hDc := zD_mid hD
  have hFc := z_free hD hS F.2.2.2.2.2.2.1
  refine va_callv (va_runVN (As := As) (rest := rest) ⟨F.1, F.2.1, F.2.2.1, F.2.2.2.1, F.2.2.2.2.1⟩ (hM H.size) cw ⟨fun a U g mk q => by
      obtain ⟨q0, q1, qP, qK, qD, qG, qo⟩ := q
      exact ⟨q0, q1, qP, va_K.moved (u := U) (U := U.calling g mk a) (Vm.Alike.refl U.vm) qK, qD, qo U (U.calling g mk a) _ _ (State.WarmedH.refl U) (fun _ _ _ => rfl) (fun _ h => h) qG, qo⟩, va_recv F.2.2.2.2.2.1 hPc hc he, fun U hU hW => ⟨rfl, by rw [hU], by rw [hU]; exact hPc, va_K.moved hW.alike F.2.2.2.2.2.1, hDc.weaken (fun _ _ _ _ => trivial), F.2.2.2.2.2.2.2.2 s U A _ hW (fun q h1 h2 => by rw [hU]; exact hS.2.1 q h1 h2) hFc F.2.2.2.2.2.2.2.1, F.2.2.2.2.2.2.2.2⟩⟩ rfl hn hh.1 rfl (lv_room hro) hd hf) hS (fun q _ h => hFc q h) hFc ?_
  intro w2b t H1 locs1 ht hvm hpost hB hz hk hS1
  obtain ⟨hP1, hD1⟩ := hB
  rw [ht] at hP1
  obtain ⟨hP2, hD2⟩ := z_join hP hD hk hFc hP1 hD1
  exact kk w2b hpost H1 locs1 ls hP2 hD2 hS1 hh
theorem z_callVNv0 (F : zF p s m args c cc nL Ts own D cl tys A G) {y : MethodName} {bytes : ByteArray} {maxL mc ms n index : Nat} {ret : Option FieldType} {wsy : List Cond} {rm : Room} {As rest : List Value} {b : Nat} {host : String} {C : String} {T : u_T} {N ci : Nat} {fs : List Value} {post : va_W → Prop} (hM : zMv l y wsy rm D cl tys G (.ref b :: As) ws post mc ms) (q0 : Nat) (he : ws[q0]? = some (b, .inr (ci, fs))) (hc : cl[ci]? = some (C, T, N)) (cw : va_CN R s args own index y host bytes maxL ret wsy rm mc ms n ∧ (Cond.instanceMethod y).before args s = true ∧ (Cond.selects C y y).before args s = true) (hd : decode cc pc = .ok (.invokevirtual index, 3)) (hst : st = As.reverse ++ .ref b :: rest) (hn : As.length = n) (hro : (rest.map fun v => v.category).sum ≤ 8) (hf : cells + mc ≤ R.cells ∧ slots + ms ≤ R.slots)
    (kk : ∀ wb : va_W, post wb → zW p l e R s m args below meth c nL D cl A (cells + mc) (slots + ms) Q wb (lv) (pc + 3) (rest)) : zW p l e R s m args below meth c nL D cl A cells slots Q ws (lv) (pc) (st) := by
  refine z_callVNv (w1 := []) (w3 := []) F hM q0 he hc cw hd (by simp) hst hn hro hf ?_
  intro wb hp
  have := kk wb hp
  simpa using this
theorem z_callSNi (F : zF p s m args c cc nL Ts own D cl tys A G) {y : MethodName} {bytes : ByteArray} {maxL mc ms n index : Nat} {ret : Option FieldType} {wsy : List Cond} {rm : Room} {As rest : List Value} {w1 w2 w3 : va_W} {host : String} {post : Int32 → va_W → Prop} (hM : zMi l y wsy rm D cl tys G As w2 post mc ms)  (cw : va_CN R s args own index y host bytes maxL ret wsy rm mc ms n ∧ (Cond.static y).before args s = true ∧ True) (hd : decode cc pc = .ok (.invokestatic index, 3)) (hws : ws = w1 ++ (w2 ++ w3)) (hst : st = As.reverse ++ rest) (hn : As.length = n) (hro : (rest.map fun v => v.category).sum ≤ 8) (hf : cells + mc ≤ R.cells ∧ slots + ms ≤ R.slots)
    (kk : ∀ (r : Int32) (w2b : va_W), post r w2b → zW p l e R s m args below meth c nL D cl A (cells + mc) (slots + ms) Q (w1 ++ (w2b ++ w3)) (lv) (pc + 3) (.int r :: rest)) : zW p l e R s m args below meth c nL D cl A cells slots Q ws (lv) (pc) (st) := by
  subst hws
  subst hst
  intro H locs ls hP hD hS hh
  have hPc := zP_mid hP
  have hDc := zD_mid hD
  have hFc := z_free hD hS F.2.2.2.2.2.2.1
  refine va_calli (va_runSN (As := As) (rest := rest) ⟨F.1, F.2.1, F.2.2.1, F.2.2.2.1, F.2.2.2.2.1⟩ (hM H.size) cw ⟨fun a U g mk q => by
      obtain ⟨q0, q1, qP, qK, qD, qG, qo⟩ := q
      exact ⟨q0, q1, qP, va_K.moved (u := U) (U := U.calling g mk a) (Vm.Alike.refl U.vm) qK, qD, qo U (U.calling g mk a) _ _ (State.WarmedH.refl U) (fun _ _ _ => rfl) (fun _ h => h) qG, qo⟩, fun U hU hW => ⟨rfl, by rw [hU], by rw [hU]; exact hPc, va_K.moved hW.alike F.2.2.2.2.2.1, hDc.weaken (fun _ _ _ _ => trivial), F.2.2.2.2.2.2.2.2 s U A _ hW (fun q h1 h2 => by rw [hU]; exact hS.2.1 q h1 h2) hFc F.2.2.2.2.2.2.2.1, F.2.2.2.2.2.2.2.2⟩⟩ rfl hn hh.1 rfl (lv_room hro) hd hf) hS (fun q _ h => hFc q h) hFc ?_
  intro r w2b t H1 locs1 ht hvm hpost hB hz hk hS1
  obtain ⟨hP1, hD1⟩ := hB
  rw [ht] at hP1
  obtain ⟨hP2, hD2⟩ := z_join hP hD hk hFc hP1 hD1
  exact kk r w2b hpost H1 locs1 ls hP2 hD2 hS1 hh
theorem z_callSNi0 (F : zF p s m args c cc nL Ts own D cl tys A G) {y : MethodName} {bytes : ByteArray} {maxL mc ms n index : Nat} {ret : Option FieldType} {wsy : List Cond} {rm : Room} {As rest : List Value} {host : String} {post : Int32 → va_W → Prop} (hM : zMi l y wsy rm D cl tys G As ws post mc ms)  (cw : va_CN R s args own index y host bytes maxL ret wsy rm mc ms n ∧ (Cond.static y).before args s = true ∧ True) (hd : decode cc pc = .ok (.invokestatic index, 3)) (hst : st = As.reverse ++ rest) (hn : As.length = n) (hro : (rest.map fun v => v.category).sum ≤ 8) (hf : cells + mc ≤ R.cells ∧ slots + ms ≤ R.slots)
    (kk : ∀ (r : Int32) (wb : va_W), post r wb → zW p l e R s m args below meth c nL D cl A (cells + mc) (slots + ms) Q wb (lv) (pc + 3) (.int r :: rest)) : zW p l e R s m args below meth c nL D cl A cells slots Q ws (lv) (pc) (st) := by
  refine z_callSNi (w1 := []) (w3 := []) F hM  cw hd (by simp) hst hn hro hf ?_
  intro r wb hp
  have := kk r wb hp
  simpa using this
theorem z_callSNv (F : zF p s m args c cc nL Ts own D cl tys A G) {y : MethodName} {bytes : ByteArray} {maxL mc ms n index : Nat} {ret : Option FieldType} {wsy : List Cond} {rm : Room} {As rest : List Value} {w1 w2 w3 : va_W} {host : String} {post : va_W → Prop} (hM : zMv l y wsy rm D cl tys G As w2 post mc ms)  (cw : va_CN R s args own index y host bytes maxL ret wsy rm mc ms n ∧ (Cond.static y).before args s = true ∧ True) (hd : decode cc pc = .ok (.invokestatic index, 3)) (hws : ws = w1 ++ (w2 ++ w3)) (hst : st = As.reverse ++ rest) (hn : As.length = n) (hro : (rest.map fun v => v.category).sum ≤ 8) (hf : cells + mc ≤ R.cells ∧ slots + ms ≤ R.slots)
    (kk : ∀ w2b : va_W, post w2b → zW p l e R s m args below meth c nL D cl A (cells + mc) (slots + ms) Q (w1 ++ (w2b ++ w3)) (lv) (pc + 3) (rest)) : zW p l e R s m args below meth c nL D cl A cells slots Q ws (lv) (pc) (st) := by
  subst hws
  subst hst
  intro H locs ls hP hD hS hh
  have hPc := zP_mid hP
  have hDc := zD_mid hD
  have hFc := z_free hD hS F.2.2.2.2.2.2.1
  refine va_callv (va_runSN (As := As) (rest := rest) ⟨F.1, F.2.1, F.2.2.1, F.2.2.2.1, F.2.2.2.2.1⟩ (hM H.size) cw ⟨fun a U g mk q => by
      obtain ⟨q0, q1, qP, qK, qD, qG, qo⟩ := q
      exact ⟨q0, q1, qP, va_K.moved (u := U) (U := U.calling g mk a) (Vm.Alike.refl U.vm) qK, qD, qo U (U.calling g mk a) _ _ (State.WarmedH.refl U) (fun _ _ _ => rfl) (fun _ h => h) qG, qo⟩, fun U hU hW => ⟨rfl, by rw [hU], by rw [hU]; exact hPc, va_K.moved hW.alike F.2.2.2.2.2.1, hDc.weaken (fun _ _ _ _ => trivial), F.2.2.2.2.2.2.2.2 s U A _ hW (fun q h1 h2 => by rw [hU]; exact hS.2.1 q h1 h2) hFc F.2.2.2.2.2.2.2.1, F.2.2.2.2.2.2.2.2⟩⟩ rfl hn hh.1 rfl (lv_room hro) hd hf) hS (fun q _ h => hFc q h) hFc ?_
  intro w2b t H1 locs1 ht hvm hpost hB hz hk hS1
  obtain ⟨hP1, hD1⟩ := hB
  rw [ht] at hP1
  obtain ⟨hP2, hD2⟩ := z_join hP hD hk hFc hP1 hD1
  exact kk w2b hpost H1 locs1 ls hP2 hD2 hS1 hh
theorem z_callSNv0 (F : zF p s m args c cc nL Ts own D cl tys A G) {y : MethodName} {bytes : ByteArray} {maxL mc ms n index : Nat} {ret : Option FieldType} {wsy : List Cond} {rm : Room} {As rest : List Value} {host : String} {post : va_W → Prop} (hM : zMv l y wsy rm D cl tys G As ws post mc ms)  (cw : va_CN R s args own index y host bytes maxL ret wsy rm mc ms n ∧ (Cond.static y).before args s = true ∧ True) (hd : decode cc pc = .ok (.invokestatic index, 3)) (hst : st = As.reverse ++ rest) (hn : As.length = n) (hro : (rest.map fun v => v.category).sum ≤ 8) (hf : cells + mc ≤ R.cells ∧ slots + ms ≤ R.slots)
    (kk : ∀ wb : va_W, post wb → zW p l e R s m args below meth c nL D cl A (cells + mc) (slots + ms) Q wb (lv) (pc + 3) (rest)) : zW p l e R s m args below meth c nL D cl A cells slots Q ws (lv) (pc) (st) := by
  refine z_callSNv (w1 := []) (w3 := []) F hM  cw hd (by simp) hst hn hro hf ?_
  intro wb hp
  have := kk wb hp
  simpa using this
theorem z_callINv (F : zF p s m args c cc nL Ts own D cl tys A G) {y : MethodName} {bytes : ByteArray} {maxL mc ms n index : Nat} {ret : Option FieldType} {wsy : List Cond} {rm : Room} {As rest : List Value} {w1 w2 w3 : va_W} {b : Nat} {host : String} {post : va_W → Prop} (hM : zMv l y wsy rm D cl tys G (.ref b :: As) w2 post mc ms)  (cw : va_CN R s args own index y host bytes maxL none wsy rm mc ms n ∧ y.name = "<init>" ∧ (Cond.instanceMethod y).before args s = true) (hd : decode cc pc = .ok (.invokespecial index, 3)) (hws : ws = w1 ++ (w2 ++ w3)) (hst : st = As.reverse ++ .ref b :: rest) (hn : As.length = n) (hro : (rest.map fun v => v.category).sum ≤ 8) (hf : cells + mc ≤ R.cells ∧ slots + ms ≤ R.slots)
    (kk : ∀ w2b : va_W, post w2b → zW p l e R s m args below meth c nL D cl A (cells + mc) (slots + ms) Q (w1 ++ (w2b ++ w3)) (lv) (pc + 3) (rest)) : zW p l e R s m args below meth c nL D cl A cells slots Q ws (lv) (pc) (st) := by
  subst hws
  subst hst
  intro H locs ls hP hD hS hh
  have hPc := zP_mid hP
  have hDc := zD_mid hD
  have hFc := z_free hD hS F.2.2.2.2.2.2.1
  refine va_callv (va_runIN (As := As) (rest := rest) ⟨F.1, F.2.1, F.2.2.1, F.2.2.2.1, F.2.2.2.2.1⟩ (hM H.size) cw ⟨fun a U g mk q => by
      obtain ⟨q0, q1, qP, qK, qD, qG, qo⟩ := q
      exact ⟨q0, q1, qP, va_K.moved (u := U) (U := U.calling g mk a) (Vm.Alike.refl U.vm) qK, qD, qo U (U.calling g mk a) _ _ (State.WarmedH.refl U) (fun _ _ _ => rfl) (fun _ h => h) qG, qo⟩, fun U hU hW => ⟨rfl, by rw [hU], by rw [hU]; exact hPc, va_K.moved hW.alike F.2.2.2.2.2.1, hDc.weaken (fun _ _ _ _ => trivial), F.2.2.2.2.2.2.2.2 s U A _ hW (fun q h1 h2 => by rw [hU]; exact hS.2.1 q h1 h2) hFc F.2.2.2.2.2.2.2.1, F.2.2.2.2.2.2.2.2⟩⟩ rfl hn hh.1 rfl (lv_room hro) hd hf) hS (fun q _ h => hFc q h) hFc ?_
  intro w2b t H1 locs1 ht hvm hpost hB hz hk hS1
  obtain ⟨hP1, hD1⟩ := hB
  rw [ht] at hP1
  obtain ⟨hP2, hD2⟩ := z_join hP hD hk hFc hP1 hD1
  exact kk w2b hpost H1 locs1 ls hP2 hD2 hS1 hh
theorem z_ofi {y : MethodName} {wsy ws' : List Cond} {rm : Room} {av : List Value} {w : va_W} {post : Int32 → va_W → Prop} {mc ms maxL : Nat} {ret : Option FieldType} (hy : plainName y.cls = true) (hw : wsy = Cond.code y cc maxL ret :: ws') (hlen : (lg_sl av).length ≤ maxL)
    (body : ∀ (p : Program) (e : Env) (s : State) (m : MethodId) (below : List Frame) (meth : Method) (c : Code) (A : Nat → Prop), zF p s m av.toArray c cc maxL ws' y.cls D cl tys A G → meth.sig.returnType = ret → meth.locks = false → meth.name = y.name →
      zW p l e (headSpec wsy rm).room s m av.toArray below meth c maxL D cl A 0 0 (MQ below (va_Qi post (zEnd D cl A) A) av.toArray s mc ms A) w (lv_args 0 av) 0 []) : zMi l y wsy rm D cl tys G av w post mc ms := by
  intro sz
  refine Met.ofW (cc := cc) (maxL := maxL) (ret := ret) hy hw ?_
  intro p e s m args below meth c s₁ B hml hv
  obtain ⟨rfl, hsz, hP, hK, hD0, hG, hok⟩ := hv
  subst hsz
  have hts : ∀ w ∈ ws', w.before av.toArray s = true := fun w h => atoms_spec (ws := wsy) B.pre w (by rw [hw]; exact List.mem_cons_of_mem _ h)
  have hl := lv_entry av (n := maxL) hlen
  rw [lg_entry_eq]
  exact body p e s m below meth c (va_A w s.heap.size) ⟨B.exec, B.bytes, hml, findClass_of_methodNamed B.named, hts, hK, fun q h => Or.inr h, hG, hok⟩ B.returns B.notSynchronized (name_of_methodNamed B.named B.method).1 s.heap [] _ hP hD0.self va_S.rf hl
theorem z_ofv {y : MethodName} {wsy ws' : List Cond} {rm : Room} {av : List Value} {w : va_W} {post : va_W → Prop} {mc ms maxL : Nat} {ret : Option FieldType} (hy : plainName y.cls = true) (hw : wsy = Cond.code y cc maxL ret :: ws') (hlen : (lg_sl av).length ≤ maxL)
    (body : ∀ (p : Program) (e : Env) (s : State) (m : MethodId) (below : List Frame) (meth : Method) (c : Code) (A : Nat → Prop), zF p s m av.toArray c cc maxL ws' y.cls D cl tys A G → meth.sig.returnType = ret → meth.locks = false → meth.name = y.name →
      zW p l e (headSpec wsy rm).room s m av.toArray below meth c maxL D cl A 0 0 (MQ below (va_Qv post (zEnd D cl A) A) av.toArray s mc ms A) w (lv_args 0 av) 0 []) : zMv l y wsy rm D cl tys G av w post mc ms := by
  intro sz
  refine Met.ofW (cc := cc) (maxL := maxL) (ret := ret) hy hw ?_
  intro p e s m args below meth c s₁ B hml hv
  obtain ⟨rfl, hsz, hP, hK, hD0, hG, hok⟩ := hv
  subst hsz
  have hts : ∀ w ∈ ws', w.before av.toArray s = true := fun w h => atoms_spec (ws := wsy) B.pre w (by rw [hw]; exact List.mem_cons_of_mem _ h)
  have hl := lv_entry av (n := maxL) hlen
  rw [lg_entry_eq]
  exact body p e s m below meth c (va_A w s.heap.size) ⟨B.exec, B.bytes, hml, findClass_of_methodNamed B.named, hts, hK, fun q h => Or.inr h, hG, hok⟩ B.returns B.notSynchronized (name_of_methodNamed B.named B.method).1 s.heap [] _ hP hD0.self va_S.rf hl
end ZR
