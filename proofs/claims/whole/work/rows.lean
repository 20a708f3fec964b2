section
/-! ===== BEGIN words of one list among another's, by their places ===== -/
theorem goodIn_r {big : List Cond} (ws : List Cond) (ps : List Nat) (hp : ws = ps.filterMap (fun i => big[i]?)) (h : ws.all goodWord = true) : GoodIn big ws := by
  intro w hw
  have h1 := List.all_eq_true.mp h w hw
  rw [hp] at hw
  obtain ⟨i, -, hi⟩ := List.mem_filterMap.mp hw
  have hm : w ∈ big := by first | exact List.mem_of_getElem? hi | exact List.getElem?_mem hi
  exact ⟨hm, good_of_word h1⟩
theorem goodIn_app {big a b : List Cond} (ha : GoodIn big a) (hb : GoodIn big b) : GoodIn big (a ++ b) := fun w h => (List.mem_append.mp h).elim (ha w) (hb w)
theorem goodIn_ca {big a b : List Cond} {c : Cond} (ha : GoodIn big (c :: a)) (hb : GoodIn big b) : GoodIn big (c :: (a ++ b)) := fun w h => (List.mem_cons.mp h).elim (fun e => ha w (List.mem_cons.mpr (Or.inl e))) (fun h => (List.mem_append.mp h).elim (fun h => ha w (List.mem_cons.mpr (Or.inr h))) (hb w))
theorem goodIn_sub {big ws : List Cond} (hm : ∀ w ∈ ws, w ∈ big) (h : ws.all goodWord = true) : GoodIn big ws := fun w hw => ⟨hm w hw, good_of_word (List.all_eq_true.mp h w hw)⟩
/-! ===== END ===== -/

/-! ===== BEGIN exceptions that leave a method, and their catching by the caller (launches without stack traces) ===== -/
section VXA
/-! The laws vx_back, vx_callV, vx_callS, vx_callSW, vx_throw0, vx_throwS follow proofs of the library, with one case more: JvmDerived/Free/Laws.lean (Back.of_free), Shelf42/LK1.lean (callV, callS), Shelf/KitTraced.lean (throwNew0V, throwNewS). -/
/-- where a method has thrown q: the class by its name, the cell, what was written, the world -/
def vx_T (XC : String → State → State → Prop) (st : State) (q : Addr) (t : State) (mc ms : Nat) (free : Addr → Prop) : Prop :=
  ∃ (E : String) (ce : Cell) (L : List Loc), XC E st t ∧ t.heap[q]? = some ce ∧ ce.vm = .none ∧ st.vm.findClass E = some ce.cls ∧ st.WarmedH t.vm ∧ st.sameButNew ({ t with vm := st.vm } : State) L mc ms ∧ ∀ z ∈ L, free z.base
def vx_Q (Qc : Array Value → State → Outcome → State → Prop) (XC : String → State → State → Prop) (mc ms : Nat) (free : Addr → Prop) : Array Value → State → Outcome → State → Prop := fun a st o t =>
  (Qc a st o t ∧ ∃ L, FrameEnd st o t L mc ms ∧ ∀ q ∈ L, free q.base) ∨ ∃ q, o = .threw q ∧ vx_T XC st q t mc ms free
/-- a callee that returns or throws -/
def vx_Met (l : Launch) (y : MethodName) (ws : List Cond) (rm : Room) (Pc : Array Value → State → Prop) (Qc : Array Value → State → Outcome → State → Prop) (XC : String → State → State → Prop) (mc ms : Nat) (free : Addr → Prop) : Prop :=
  MetFree l y (headSpec ws rm) Pc (fun _ _ _ _ _ => True) (vx_Q Qc XC mc ms free)
def vx_Post (XC : String → State → State → Prop) (mc ms : Nat) (free : Addr → Prop) : Pt → Array Value → Addr → Pt → Prop := fun A a q B =>
  ∃ (g : JFrame) (mk : MethodId) (t : State) (L : List Loc) (E : String) (ce : Cell), B.U.heap = t.heap ∧ B.U.vm = t.vm ∧ XC E (A.U.calling g mk a) t ∧ t.heap[q]? = some ce ∧ ce.vm = .none ∧ A.U.vm.findClass E = some ce.cls ∧ B.locs = A.locs ++ L ∧ (∀ z ∈ L, free z.base) ∧ B.cells = A.cells + mc ∧ B.slots = A.slots + ms
def vx_Back (l : Launch) (R : Room) (p : Program) (e : Env) (below : List Frame) (s : State) (sargs : Array Value) (y : MethodName) (len W9 : Nat)
    (Pre : Pt → Array Value → Prop) (Post : Pt → Array Value → Option Value → Pt → Prop) (PostX : Pt → Array Value → Addr → Pt → Prop) : Prop :=
  ∀ (m : MethodId) (meth : Method) (c : Code) (A : Pt) (g : JFrame) (ig : Instr) (mk : MethodId) (a : Array Value),
    Stand p l e R s m sargs below meth c A.U A.locs A.cells A.slots → g.method = m → g.locals.size = c.maxLocals → decode c.code g.pc = .ok (ig, len) →
    2 * g.monitorRoom + (g.stack.map fun v => v.category).sum ≤ W9 → A.U.methodNamed? y = some mk → Pre A a →
    (∃ (v : Option Value) (B : Pt), Stand p l e R s m sargs below meth c B.U B.locs B.cells B.slots ∧ Post A a v B ∧
      Steps p.tables e below (doInvoke e (A.U.setTop g) [] mk a).1 (B.U.setTop { g with pc := g.pc + len, stack := v.toList ++ g.stack })) ∨
    (∃ (q : Addr) (B : Pt), Stand p l e R s m sargs below meth c B.U B.locs B.cells B.slots ∧ PostX A a q B ∧
      Steps p.tables e below (doInvoke e (A.U.setTop g) [] mk a).1 ((B.U.setTop g).pushFrame (.throwing q)))
section Payer
variable {l : Launch} {R : Room} {p : Program} {e : Env} {below : List Frame} {s : State} {sargs : Array Value} {y : MethodName} {len W9 : Nat}
theorem vx_back {ws : List Cond} {rm : Room} {Pc : Array Value → State → Prop} {Qc : Array Value → State → Outcome → State → Prop} {XC : String → State → State → Prop} {mc ms : Nat} {free : Addr → Prop} {bytes : ByteArray} {maxL : Nat} {ret : Option FieldType}
    (hM : vx_Met l y ws rm Pc Qc XC mc ms free) (hblind : FrameBlind Pc) (hrc : rm.cells = mc) (hrs : rm.slots = ms)
    (hframes : rm.frames + 1 ≤ R.frames) (hlocals : W9 + (maxL + 11) + rm.locals ≤ R.locals)
    (hws : ∀ w ∈ ws, ∀ a' U, s.WarmedH U.vm → w.before a' U = true) (hcode : Cond.code y bytes maxL ret ∈ ws) (hinit : ∀ a' U, s.WarmedH U.vm → (Cond.initialized y.cls).before a' U = true) :
    vx_Back l R p e below s sargs y len W9 (PreOf R mc ms Pc) (PostOf Qc mc ms free) (vx_Post XC mc ms free) := by
  intro m meth c A g ig mk a X hg hsize hdg hW hn hp
  have h1 : (headSpec ws rm).pre.before a A.U = true := atoms_intro fun w hw => hws w hw _ _ X.warmed
  have h2 : (Cond.code y bytes maxL ret).before a A.U = true := hws _ hcode _ _ X.warmed
  have h3 : (Cond.initialized y.cls).before a A.U = true := hinit _ _ X.warmed
  have h4 : A.cells + (headSpec ws rm).room.cells ≤ R.cells := by rw [show (headSpec ws rm).room.cells = mc from hrc]; exact hp.1
  have h5 : A.slots + (headSpec ws rm).room.slots ≤ R.slots := by rw [show (headSpec ws rm).room.slots = ms from hrs]; exact hp.2.1
  have hPc : Pc a (A.U.calling g mk a) := hblind _ _ _ _ hp.2.2
  obtain ⟨U, Ls, c0, s0⟩ := A
  dsimp only [Pt.U, Pt.locs, Pt.cells, Pt.slots] at h1 h2 h3 h4 h5 X hn hPc ⊢
  obtain ⟨methY, cY, hmY, hcY, -, hlY, -, -, -, -⟩ := Cond.code_spec hn h2
  obtain ⟨kY, hkY, -⟩ := className_of_methodNamed hn
  have hinitY : kY.init = .initialized := Cond.initialized_spec (findClass_of_methodNamed hn) hkY h3
  have h : At U g.method c below := by rw [hg]; exact X.here
  have hlocals9 : W9 + (maxL + 11) + (headSpec ws rm).room.locals ≤ R.locals := hlocals
  have happ : (headSpec ws rm).appliesLoose y e.platform (U.calling g mk a) = true :=
    Spec.appliesLoose_calling (g := g) h hdg hn hkY hinitY
      (X.room_calling (g := g) (R' := (headSpec ws rm).room) hsize hmY hcY hframes (by rw [hlY]; omega) h4 h5) h1
  obtain ⟨mid, hmid⟩ := h.above
  have hfr : (U.setTop g).frames = (.java g :: mid) ++ below := by rw [State.frames_setTop' g h.top, hmid]; rfl
  obtain ⟨o, s₂, hsteps, -, hend, hq⟩ := Steps.callFree hM p X.admits X.cas X.clock (acts := []) hfr happ hPc trivial
  have hq' : vx_Q Qc XC mc ms free a (U.calling g mk a) o s₂ := hq
  rw [State.frames_setTop' g h.top] at hend
  obtain ⟨g₀, hg0⟩ := Option.isSome_iff_exists.mp h.top
  obtain ⟨r, hr⟩ := State.topJava?_eq_some.mp hg0
  have hr' : (({ U with heap := s₂.heap, slotsUsed := s₂.slotsUsed } : State).setVm s₂.vm).frames = .java g₀ :: r := hr
  rcases hq' with ⟨hqc, L, hfe, hL⟩ | ⟨q, rfl, E, ce, L, hx, hce, hcv, hcl, hW₂, hsm, hL⟩
  · obtain ⟨⟨v, rfl⟩, hW₂, e2, q2, q3, q4, q5, q6⟩ := id hfe
    have e3 : s₂ = ({ (U.calling g mk a).setFrames s₂.frames with heap := s₂.heap, slotsUsed := s₂.slotsUsed } : State).setVm s₂.vm := by
      have : s₂ = ({ s₂ with vm := (U.calling g mk a).vm } : State).setVm s₂.vm := rfl
      rw [e2] at this
      exact this
    obtain ⟨c₂, i₂, len₂, hc₂, hd₂, hf₂⟩ := hend
    have hW' : U.WarmedH s₂.vm := hW₂
    have hcc : c₂ = c := by
      have h1 : s₂.code? g.method = U.code? g.method := by
        rw [State.code?_eq, State.code?_eq, hW'.alike.method?]
      exact Option.some.inj (hc₂.symm.trans (h1.trans h.code))
    subst hcc
    have hlen : len₂ = len := by rw [hdg] at hd₂; cases hd₂; rfl
    subst hlen
    have hs₂ : s₂ = (({ U with heap := s₂.heap, slotsUsed := s₂.slotsUsed } : State).setVm s₂.vm).setTop { g with pc := g.pc + len₂, stack := v.toList ++ g.stack } := by
      refine e3.trans ?_
      rw [hf₂, State.calling_eq h.top, State.setFrames_setFrames, State.setTop_of_frames _ hr', hr]
      rfl
    have hsame : U.sameButNew ({ U with heap := s₂.heap, slotsUsed := s₂.slotsUsed } : State) L mc ms := by
      refine ⟨?_, q2, q3, q4, q5, q6⟩
      obtain ⟨t, ht, -⟩ := State.frames_cons hr
      show ({ U with heap := s₂.heap, slotsUsed := s₂.slotsUsed } : State) = { U.setFrames U.frames with heap := s₂.heap, slotsUsed := s₂.slotsUsed }
      rw [State.setFrames_self ht]
    subst hg
    refine Or.inl ⟨v, ⟨(({ U with heap := s₂.heap, slotsUsed := s₂.slotsUsed } : State).setVm s₂.vm), Ls ++ L, c0 + mc, s0 + ms⟩,
      ⟨X.admits, X.cas, X.clock, X.frames, X.room, X.hears, X.method, X.code, (X.here.setHeapUsed s₂.heap s₂.slotsUsed).setVm hW'.alike, X.tail, State.WarmedH.trans X.warmed hW', X.limits, X.bytes, X.same.trans (hsame.setVm s.vm)⟩,
      ⟨g, mk, s₂, L, rfl, rfl, hqc, rfl, hL, rfl, rfl⟩, ?_⟩
    show Steps p.tables e below _ ((({ U with heap := s₂.heap, slotsUsed := s₂.slotsUsed } : State).setVm s₂.vm).setTop { g with pc := g.pc + len₂, stack := v.toList ++ g.stack })
    rw [← hs₂]
    exact hsteps
  · obtain ⟨e2, q2, q3, q4, q5, q6⟩ := id hsm
    have e3 : s₂ = ({ (U.calling g mk a).setFrames s₂.frames with heap := s₂.heap, slotsUsed := s₂.slotsUsed } : State).setVm s₂.vm := by
      have : s₂ = ({ s₂ with vm := (U.calling g mk a).vm } : State).setVm s₂.vm := rfl
      rw [e2] at this
      exact this
    have hf₂ : s₂.frames = .throwing q :: .java g :: U.frames.tail := hend
    have hW' : U.WarmedH s₂.vm := hW₂
    have hs₂ : s₂ = ((({ U with heap := s₂.heap, slotsUsed := s₂.slotsUsed } : State).setVm s₂.vm).setTop g).pushFrame (.throwing q) := by
      refine e3.trans ?_
      rw [hf₂, State.calling_eq h.top, State.setFrames_setFrames, State.pushFrame, State.frames_setTop _ hr', State.setTop_of_frames _ hr', State.setFrames_setFrames, hr]
      rfl
    have hsame : U.sameButNew ({ U with heap := s₂.heap, slotsUsed := s₂.slotsUsed } : State) L mc ms := by
      refine ⟨?_, q2, q3, q4, q5, q6⟩
      obtain ⟨t, ht, -⟩ := State.frames_cons hr
      show ({ U with heap := s₂.heap, slotsUsed := s₂.slotsUsed } : State) = { U.setFrames U.frames with heap := s₂.heap, slotsUsed := s₂.slotsUsed }
      rw [State.setFrames_self ht]
    subst hg
    refine Or.inr ⟨q, ⟨(({ U with heap := s₂.heap, slotsUsed := s₂.slotsUsed } : State).setVm s₂.vm), Ls ++ L, c0 + mc, s0 + ms⟩,
      ⟨X.admits, X.cas, X.clock, X.frames, X.room, X.hears, X.method, X.code, (X.here.setHeapUsed s₂.heap s₂.slotsUsed).setVm hW'.alike, X.tail, State.WarmedH.trans X.warmed hW', X.limits, X.bytes, X.same.trans (hsame.setVm s.vm)⟩,
      ⟨g, mk, s₂, L, E, ce, rfl, rfl, hx, hce, hcv, hcl, rfl, hL, rfl, rfl⟩, ?_⟩
    show Steps p.tables e below _ (((({ U with heap := s₂.heap, slotsUsed := s₂.slotsUsed } : State).setVm s₂.vm).setTop g).pushFrame (.throwing q))
    rw [← hs₂]
    exact hsteps
end Payer
section Calls
variable {p : Program} {l : Launch} {e : Env} {R : Room} {s : State} {m : MethodId} {args : Array Value} {below : List Frame} {meth : Method} {c : Code} {T : State} {locs : List Loc} {cells slots : Nat}
theorem vx_callV (X : Stand p l e R s m args below meth c T locs cells slots) (hexec : p.tables.exec = Jvm.exec) {own C : String} {index : Nat} {y : MethodName} {bytes : ByteArray} {maxL : Nat} {ret : Option FieldType}
    (hown : s.vm.findClass own = some m.cls) (hlink : (Cond.methodLink own index y).before args s = true) (hinst : (Cond.instanceMethod y).before args s = true) (hsel : (Cond.selects C y y).before args s = true)
    (hcode : (Cond.code y bytes maxL ret).before args s = true) (hy : y.cls ≠ "java/lang/invoke/MethodHandle" ∧ y.cls ≠ "java/lang/invoke/VarHandle")
    {W9 : Nat} {Pre : Pt → Array Value → Prop} {Post : Pt → Array Value → Option Value → Pt → Prop} {PostX : Pt → Array Value → Addr → Pt → Prop} (hK : vx_Back l R p e below s args y 3 W9 Pre Post PostX)
    {b : Addr} {cellB : Cell} (hcell : T.heap[b]? = some cellB) (hobj : cellB.vm.isStatics = false) (hcls : s.vm.findClass C = some cellB.cls)
    {g : JFrame} (hg : g.method = m) (hsize : g.locals.size = c.maxLocals) {argsL rest : List Value} (hlen : ∀ sig, parseMethodDescriptor y.desc = some sig → argsL.length = sig.parameters.length)
    (hstack : g.stack = argsL.reverse ++ .ref b :: rest) (hW : 2 * g.monitorRoom + (rest.map fun v => v.category).sum ≤ W9) (hdg : decode c.code g.pc = .ok (.invokevirtual index, 3))
    (hpre : ∀ vm₁, s.WarmedH vm₁ → Pre ⟨T.setVm vm₁, locs, cells, slots⟩ (Value.ref b :: argsL).toArray) :
    (∃ (v : Option Value) (vm₁ : Vm) (B : Pt), s.WarmedH vm₁ ∧ Stand p l e R s m args below meth c B.U B.locs B.cells B.slots ∧ Post ⟨T.setVm vm₁, locs, cells, slots⟩ (Value.ref b :: argsL).toArray v B ∧
      ∀ target, Steps p.tables e below (B.U.setTop { g with pc := g.pc + 3, stack := v.toList ++ rest }) target → Steps p.tables e below (T.setTop g) target) ∨
    (∃ (q : Addr) (vm₁ : Vm) (B : Pt), s.WarmedH vm₁ ∧ Stand p l e R s m args below meth c B.U B.locs B.cells B.slots ∧ PostX ⟨T.setVm vm₁, locs, cells, slots⟩ (Value.ref b :: argsL).toArray q B ∧
      Steps p.tables e below (T.setTop g) ((B.U.setTop { g with stack := rest }).pushFrame (.throwing q))) := by
  obtain ⟨mk, methM, hnamed, hmethM, hstM, habM⟩ := Cond.instanceMethod_spec hinst
  obtain ⟨methM', cM, hmethM', -, -, -, -, -, -, hsigM⟩ := Cond.code_spec hnamed hcode
  cases hmethM.symm.trans hmethM'
  obtain ⟨c2, r2, m2, q1, q2, q3, q4, kP, hkP, hkPi⟩ := Cond.selects_spec hsel
  cases hcls.symm.trans q1
  cases (State.methodFound?_of_named hnamed hy).symm.trans q2
  cases hnamed.symm.trans q3
  have hselP : selectMethod e.platform s.vm cellB.cls mk = .method mk := by rw [Launch.admits_selectMethod X.admits]; exact q4
  obtain ⟨vm₁, X₁, hstep₁⟩ := X.invokevirtual hexec hown hlink hnamed hmethM hstM hkP hkPi hy (a := b) (cell := cellB) hcell
    (fun z h => by rw [h] at hobj; cases hobj) hselP hmethM habM hkP hkPi (g := g) hg (argsL := argsL) (rest := rest) (hlen _ hsigM) hstack hdg
  rcases hK m meth c ⟨T.setVm vm₁, locs, cells, slots⟩ { g with stack := rest } (.invokevirtual index) mk (Value.ref b :: argsL).toArray X₁ hg hsize hdg hW (X₁.named hnamed) (hpre vm₁ X₁.warmed) with ⟨v, B, X', hpost, hsteps⟩ | ⟨q, B, X', hpost, hsteps⟩
  · exact Or.inl ⟨v, vm₁, B, X₁.warmed, X', hpost, fun target h => hstep₁ _ fun acts => by rw [doInvoke_state]; exact hsteps.trans h⟩
  · exact Or.inr ⟨q, vm₁, B, X₁.warmed, X', hpost, hstep₁ _ fun acts => by rw [doInvoke_state]; exact hsteps⟩
theorem vx_callS (X : Stand p l e R s m args below meth c T locs cells slots) (hexec : p.tables.exec = Jvm.exec) {own : String} {index : Nat} {y : MethodName} {bytes : ByteArray} {maxL : Nat} {ret : Option FieldType}
    (hown : s.vm.findClass own = some m.cls) (hlink : (Cond.methodLink own index y).before args s = true) (hstat : (Cond.static y).before args s = true) (hinit : (Cond.initialized y.cls).before args s = true)
    (hcode : (Cond.code y bytes maxL ret).before args s = true) (hy : y.cls ≠ "java/lang/invoke/MethodHandle" ∧ y.cls ≠ "java/lang/invoke/VarHandle")
    {W9 : Nat} {Pre : Pt → Array Value → Prop} {Post : Pt → Array Value → Option Value → Pt → Prop} {PostX : Pt → Array Value → Addr → Pt → Prop} (hK : vx_Back l R p e below s args y 3 W9 Pre Post PostX)
    {g : JFrame} (hg : g.method = m) (hsize : g.locals.size = c.maxLocals) {argsL rest : List Value} (hlen : ∀ sig, parseMethodDescriptor y.desc = some sig → argsL.length = sig.parameters.length)
    (hstack : g.stack = argsL.reverse ++ rest) (hW : 2 * g.monitorRoom + (rest.map fun v => v.category).sum ≤ W9) (hdg : decode c.code g.pc = .ok (.invokestatic index, 3))
    (hpre : ∀ vm₁, s.WarmedH vm₁ → Pre ⟨T.setVm vm₁, locs, cells, slots⟩ argsL.toArray) :
    (∃ (v : Option Value) (vm₁ : Vm) (B : Pt), s.WarmedH vm₁ ∧ Stand p l e R s m args below meth c B.U B.locs B.cells B.slots ∧ Post ⟨T.setVm vm₁, locs, cells, slots⟩ argsL.toArray v B ∧
      ∀ target, Steps p.tables e below (B.U.setTop { g with pc := g.pc + 3, stack := v.toList ++ rest }) target → Steps p.tables e below (T.setTop g) target) ∨
    (∃ (q : Addr) (vm₁ : Vm) (B : Pt), s.WarmedH vm₁ ∧ Stand p l e R s m args below meth c B.U B.locs B.cells B.slots ∧ PostX ⟨T.setVm vm₁, locs, cells, slots⟩ argsL.toArray q B ∧
      Steps p.tables e below (T.setTop g) ((B.U.setTop { g with stack := rest }).pushFrame (.throwing q))) := by
  obtain ⟨mk, hnamed⟩ := Cond.code_named hcode
  obtain ⟨methM, cM, hmethM, -, -, -, -, -, -, hsigM⟩ := Cond.code_spec hnamed hcode
  have hstatic : methM.isStatic = true := Cond.static_spec hnamed hmethM hstat
  obtain ⟨kP, hkP, -⟩ := className_of_methodNamed hnamed
  have hinitP : kP.init = .initialized := Cond.initialized_spec (findClass_of_methodNamed hnamed) hkP hinit
  obtain ⟨vm₁, X₁, hstep₁⟩ := X.invokestatic hexec hown hlink hnamed hmethM hstatic hkP hinitP hy (g := g) hg (argsL := argsL) (rest := rest) (hlen _ hsigM) hstack hdg
  rcases hK m meth c ⟨T.setVm vm₁, locs, cells, slots⟩ { g with stack := rest } (.invokestatic index) mk argsL.toArray X₁ hg hsize hdg hW (X₁.named hnamed) (hpre vm₁ X₁.warmed) with ⟨v, B, X', hpost, hsteps⟩ | ⟨q, B, X', hpost, hsteps⟩
  · exact Or.inl ⟨v, vm₁, B, X₁.warmed, X', hpost, fun target h => hstep₁ _ fun acts => by rw [doInvoke_state]; exact hsteps.trans h⟩
  · exact Or.inr ⟨q, vm₁, B, X₁.warmed, X', hpost, hstep₁ _ fun acts => by rw [doInvoke_state]; exact hsteps⟩
end Calls
theorem vx_cls {s : State} {T : State} {vm₁ : Vm} {E : String} {k : ClassId} (hW : s.WarmedH vm₁) (h : (T.setVm vm₁).vm.findClass E = some k) : s.vm.findClass E = some k := by
  have h1 : vm₁.findClass E = some k := h
  rw [hW.alike.findClass] at h1
  exact h1
/-- the method's frame g, with q thrown over it -/
def vx_W (p : Program) (l : Launch) (e : Env) (R : Room) (s : State) (m : MethodId) (args : Array Value) (below : List Frame) (meth : Method) (c : Code) (H : Heap) (locs : List Loc) (cells slots : Nat) (Q : State → Prop) (g : JFrame) (q : Addr) : Prop :=
  ∀ T : State, T.heap = H → Stand p l e R s m args below meth c T locs cells slots → ∃ t, Steps p.tables e below ((T.setTop g).pushFrame (.throwing q)) t ∧ Q t
def vx_Run (p : Program) (l : Launch) (e : Env) (R : Room) (s : State) (m : MethodId) (args : Array Value) (below : List Frame) (meth : Method) (c : Code) (H : Heap) (locs : List Loc) (cells slots mc ms : Nat) (g : JFrame) (rest : List Value) (Qa : State → Outcome → State → Prop) (XC : String → State → State → Prop) (free : Addr → Prop) : Prop :=
  ∀ T : State, T.heap = H → Stand p l e R s m args below meth c T locs cells slots →
    (∃ (v : Option Value) (st₀ t T' : State) (L : List Loc), st₀.heap = H ∧ Stand p l e R s m args below meth c T' (locs ++ L) (cells + mc) (slots + ms) ∧ (∀ q ∈ L, free q.base) ∧ T'.heap = t.heap ∧ T'.vm = t.vm ∧ Qa st₀ (.returned v) t ∧
      Goes p e below T g T' { g with pc := g.pc + 3, stack := v.toList ++ rest }) ∨
    (∃ (q : Addr) (st₀ t T' : State) (L : List Loc) (E : String) (ce : Cell), st₀.heap = H ∧ Stand p l e R s m args below meth c T' (locs ++ L) (cells + mc) (slots + ms) ∧ (∀ z ∈ L, free z.base) ∧ T'.heap = t.heap ∧ T'.vm = t.vm ∧ XC E st₀ t ∧ t.heap[q]? = some ce ∧ ce.vm = .none ∧ s.vm.findClass E = some ce.cls ∧
      Steps p.tables e below (T.setTop g) ((T'.setTop { g with stack := rest }).pushFrame (.throwing q)))
def vx_X {S : Type} (px : S → Prop) (B : String → S → State → Prop) (A : Nat → Prop) : String → State → State → Prop := fun E st t => ∃ u : S, px u ∧ B E u t ∧ va_F A st t
section Runs
variable {p : Program} {l : Launch} {e : Env} {R : Room} {s : State} {m : MethodId} {args : Array Value} {below : List Frame} {meth : Method} {c : Code} {H : Heap} {locs : List Loc} {cells slots : Nat}
variable {y : MethodName} {bytes cc : ByteArray} {maxL nL mc ms n index : Nat} {ret : Option FieldType} {ws : List Cond} {rm : Room} {Pc : Array Value → State → Prop} {Qc : Array Value → State → Outcome → State → Prop} {XC : String → State → State → Prop} {free : Addr → Prop} {Ts : List Cond} {own C : String} {b : Addr} {As rest : List Value} {g : JFrame}
theorem vx_callBack (cb : CallB R s args own index y bytes maxL ret ws rm mc ms n) (hM : vx_Met l y ws rm Pc Qc XC mc ms free) (hbl : FrameBlind Pc) : vx_Back l R p e below s args y 3 8 (PreOf R mc ms Pc) (PostOf Qc mc ms free) (vx_Post XC mc ms free) := by
  obtain ⟨hrc, hrs, hfr, hlo, hws, hcw, -, hini, -⟩ := cb
  exact vx_back (bytes := bytes) (maxL := maxL) (ret := ret) hM hbl hrc hrs hfr hlo hws hcw (fun a' U hW => word_at hW (Or.inl (by first | rfl | simp [Cond.onTables, Cond.keeps, Cond.steady])) hini)
theorem vx_runV (S : CallFix p m c cc nL s args Ts own) (hM : vx_Met l y ws rm Pc Qc XC mc ms free) (cw : CallW R s args own C index y bytes maxL ret ws rm mc ms n) (hp : PreV s H C b Pc As)
    (hg : g.method = m) (hn : As.length = n) (hsize : g.locals.size = nL) (hstack : g.stack = As.reverse ++ .ref b :: rest) (hW : 2 * g.monitorRoom + (rest.map fun v => v.category).sum ≤ 8) (hdg : decode cc g.pc = .ok (.invokevirtual index, 3)) (hf : cells + mc ≤ R.cells ∧ slots + ms ≤ R.slots) :
    vx_Run p l e R s m args below meth c H locs cells slots mc ms g rest (Qc (Value.ref b :: As).toArray) XC free := by
  have hK : vx_Back l R p e below s args y 3 8 (PreOf R mc ms Pc) (PostOf Qc mc ms free) (vx_Post XC mc ms free) := vx_callBack cw.1 hM hp.1
  obtain ⟨⟨-, -, -, -, -, -, hcode, -, hy, hlen, hl⟩, hin, hse⟩ := cw
  obtain ⟨hx, hb, hml, ho, -⟩ := S
  obtain ⟨-, ⟨cellB, hcB, hoB, hclB⟩, hPc⟩ := hp
  intro T hT X
  rcases vx_callV X hx (C := C) (bytes := bytes) (maxL := maxL) (ret := ret) ho hl hin hse hcode hy hK (by rw [hT]; exact hcB) hoB hclB hg (hsize.trans hml.symm) (argsL := As) (rest := rest) (fun sig h => hn.trans (hlen sig h)) hstack hW (by rw [hb]; exact hdg)
    (fun vm₁ hW₁ => ⟨hf.1, hf.2, hPc (T.setVm vm₁) hT hW₁⟩) with ⟨v, vm₁, ⟨U', l2, c2, s2⟩, hW₁, X', ⟨g', mk, t, L, e1, e2, hq, h1, hL, h2, h3⟩, st⟩ | ⟨q, vm₁, ⟨U', l2, c2, s2⟩, hW₁, X', ⟨g', mk, t, L, E, ce, e1, e2, hq, hce, hcv, hcl, h1, hL, h2, h3⟩, st⟩
  · dsimp only [Pt.U, Pt.locs, Pt.cells, Pt.slots] at X' e1 e2 h1 h2 h3 st
    subst h1; subst h2; subst h3
    exact Or.inl ⟨v, (T.setVm vm₁).calling g' mk (Value.ref b :: As).toArray, t, U', L, hT, X', hL, e1, e2, hq, st⟩
  · dsimp only [Pt.U, Pt.locs, Pt.cells, Pt.slots] at X' e1 e2 h1 h2 h3 st hcl
    subst h1; subst h2; subst h3
    exact Or.inr ⟨q, (T.setVm vm₁).calling g' mk (Value.ref b :: As).toArray, t, U', L, E, ce, hT, X', hL, e1, e2, hq, hce, hcv, vx_cls hW₁ hcl, st⟩
theorem vx_runS (S : CallFix p m c cc nL s args Ts own) (hM : vx_Met l y ws rm Pc Qc XC mc ms free) (cw : CallB R s args own index y bytes maxL ret ws rm mc ms n ∧ (Cond.static y).before args s = true) (hp : PreS s H Pc As)
    (hg : g.method = m) (hn : As.length = n) (hsize : g.locals.size = nL) (hstack : g.stack = As.reverse ++ rest) (hW : 2 * g.monitorRoom + (rest.map fun v => v.category).sum ≤ 8) (hdg : decode cc g.pc = .ok (.invokestatic index, 3)) (hf : cells + mc ≤ R.cells ∧ slots + ms ≤ R.slots) :
    vx_Run p l e R s m args below meth c H locs cells slots mc ms g rest (Qc As.toArray) XC free := by
  have hK : vx_Back l R p e below s args y 3 8 (PreOf R mc ms Pc) (PostOf Qc mc ms free) (vx_Post XC mc ms free) := vx_callBack cw.1 hM hp.1
  obtain ⟨⟨-, -, -, -, -, -, hcode, hini, hy, hlen, hl⟩, hstt⟩ := cw
  obtain ⟨hx, hb, hml, ho, -⟩ := S
  intro T hT X
  rcases vx_callS X hx (bytes := bytes) (maxL := maxL) (ret := ret) ho hl hstt hini hcode hy hK hg (hsize.trans hml.symm) (argsL := As) (rest := rest) (fun sig h => hn.trans (hlen sig h)) hstack hW (by rw [hb]; exact hdg)
    (fun vm₁ hW₁ => ⟨hf.1, hf.2, hp.2 (T.setVm vm₁) hT hW₁⟩) with ⟨v, vm₁, ⟨U', l2, c2, s2⟩, hW₁, X', ⟨g', mk, t, L, e1, e2, hq, h1, hL, h2, h3⟩, st⟩ | ⟨q, vm₁, ⟨U', l2, c2, s2⟩, hW₁, X', ⟨g', mk, t, L, E, ce, e1, e2, hq, hce, hcv, hcl, h1, hL, h2, h3⟩, st⟩
  · dsimp only [Pt.U, Pt.locs, Pt.cells, Pt.slots] at X' e1 e2 h1 h2 h3 st
    subst h1; subst h2; subst h3
    exact Or.inl ⟨v, (T.setVm vm₁).calling g' mk As.toArray, t, U', L, hT, X', hL, e1, e2, hq, st⟩
  · dsimp only [Pt.U, Pt.locs, Pt.cells, Pt.slots] at X' e1 e2 h1 h2 h3 st hcl
    subst h1; subst h2; subst h3
    exact Or.inr ⟨q, (T.setVm vm₁).calling g' mk As.toArray, t, U', L, E, ce, hT, X', hL, e1, e2, hq, hce, hcv, vx_cls hW₁ hcl, st⟩
end Runs
section Rows
variable {p : Program} {l : Launch} {e : Env} {R : Room} {s : State} {m : MethodId} {args : Array Value} {below : List Frame} {meth : Method} {c : Code} {H : Heap} {locs : List Loc} {cells slots : Nat} {Q : State → Prop}
variable {mc ms : Nat} {free : Addr → Prop} {A0 A1 : Nat → Prop} {H0 : Heap} {a : Array Value} {pc : Nat} {ls : Array Slot} {st0 rest : List Value}
theorem vx_keep {st₀ t T' : State} {L : List Loc} (h0 : st₀.heap = H) (e1 : T'.heap = t.heap) (hS : va_S A0 H0 H locs) (hA : ∀ q, q < H.size → A1 q → A0 q) (hf : ∀ q, free q → A0 q) (hL : ∀ q ∈ L, free q.base) (hF : va_F A1 st₀ t) :
    H.size ≤ T'.heap.size ∧ (∀ q : Nat, q < H.size → ¬ A1 q → T'.heap[q]? = H[q]?) ∧ va_S A0 H0 T'.heap (locs ++ L) := by
  obtain ⟨hz, hk⟩ := hF
  rw [h0] at hz hk
  exact ⟨by rw [e1]; exact hz, fun q h1 h2 => by rw [e1]; exact hk q h1 h2,
    ⟨Nat.le_trans hS.1 (by rw [e1]; exact hz), fun q h1 h2 => by rw [e1, hk q (Nat.lt_of_lt_of_le h1 hS.1) (fun z => h2 (hA q (Nat.lt_of_lt_of_le h1 hS.1) z))]; exact hS.2.1 q h1 h2, fun q hq => by
      rcases List.mem_append.mp hq with h | h
      · exact hS.2.2 q h
      · exact hf _ (hL q h)⟩⟩
theorem vx_calli {S SX : Type} {post : Int32 → S → Prop} {px : SX → Prop} {B : S → State → Prop} {BX : String → SX → State → Prop} {AX : Nat → Prop} (hr : vx_Run p l e R s m args below meth c H locs cells slots mc ms (F0 m pc ls st0) rest (va_Qi post B A1 a) (vx_X px BX AX) free) (hS : va_S A0 H0 H locs) (hA : ∀ q, q < H.size → A1 q → A0 q) (hf : ∀ q, free q → A0 q) (hAX : ∀ q, q < H.size → AX q → A0 q)
    (kx : ∀ (E : String) (ce : Cell) (q9 : Addr) (u : SX) (t : State) (H1 : Heap) (locs1 : List Loc), t.heap = H1 → s.vm.Alike t.vm → px u → BX E u t → H.size ≤ H1.size → (∀ q : Nat, q < H.size → ¬ AX q → H1[q]? = H[q]?) → va_S A0 H0 H1 locs1 → H1[q9]? = some ce → ce.vm = .none → s.vm.findClass E = some ce.cls → vx_W p l e R s m args below meth c H1 locs1 (cells + mc) (slots + ms) Q (F0 m pc ls rest) q9)
    (kk : ∀ (r : Int32) (u : S) (t : State) (H1 : Heap) (locs1 : List Loc), t.heap = H1 → s.vm.Alike t.vm → post r u → B u t → H.size ≤ H1.size → (∀ q : Nat, q < H.size → ¬ A1 q → H1[q]? = H[q]?) → va_S A0 H0 H1 locs1 → W p l e R s m args below meth c H1 locs1 (cells + mc) (slots + ms) Q (F0 m (pc + 3) ls (.int r :: rest))) : W p l e R s m args below meth c H locs cells slots Q (F0 m pc ls st0) := by
  intro T hT X
  rcases hr T hT X with ⟨v, st₀, t, T', L, h0, X', hL, e1, e2, ⟨⟨r, u, hv, hp, hb⟩, hF⟩, st⟩ | ⟨q, st₀, t, T', L, E, ce, h0, X', hL, e1, e2, ⟨u, hp, hb, hF⟩, hce, hcv, hcl, st⟩
  · cases hv
    obtain ⟨k1, k2, k3⟩ := vx_keep h0 e1 hS hA hf hL hF
    obtain ⟨t2, a1, b1⟩ := kk r u t T'.heap (locs ++ L) e1.symm (by rw [← e2]; exact X'.warmed.alike) hp hb k1 k2 k3 T' rfl X'
    exact ⟨t2, st t2 a1, b1⟩
  · obtain ⟨k1, k2, k3⟩ := vx_keep h0 e1 hS hAX hf hL hF
    obtain ⟨t2, a1, b1⟩ := kx E ce q u t T'.heap (locs ++ L) e1.symm (by rw [← e2]; exact X'.warmed.alike) hp hb k1 k2 k3 (by rw [e1]; exact hce) hcv hcl T' rfl X'
    exact ⟨t2, st.trans a1, b1⟩
theorem vx_calll {S SX : Type} {post : Int64 → S → Prop} {px : SX → Prop} {B : S → State → Prop} {BX : String → SX → State → Prop} {AX : Nat → Prop} (hr : vx_Run p l e R s m args below meth c H locs cells slots mc ms (F0 m pc ls st0) rest (va_Ql post B A1 a) (vx_X px BX AX) free) (hS : va_S A0 H0 H locs) (hA : ∀ q, q < H.size → A1 q → A0 q) (hf : ∀ q, free q → A0 q) (hAX : ∀ q, q < H.size → AX q → A0 q)
    (kx : ∀ (E : String) (ce : Cell) (q9 : Addr) (u : SX) (t : State) (H1 : Heap) (locs1 : List Loc), t.heap = H1 → s.vm.Alike t.vm → px u → BX E u t → H.size ≤ H1.size → (∀ q : Nat, q < H.size → ¬ AX q → H1[q]? = H[q]?) → va_S A0 H0 H1 locs1 → H1[q9]? = some ce → ce.vm = .none → s.vm.findClass E = some ce.cls → vx_W p l e R s m args below meth c H1 locs1 (cells + mc) (slots + ms) Q (F0 m pc ls rest) q9)
    (kk : ∀ (r : Int64) (u : S) (t : State) (H1 : Heap) (locs1 : List Loc), t.heap = H1 → s.vm.Alike t.vm → post r u → B u t → H.size ≤ H1.size → (∀ q : Nat, q < H.size → ¬ A1 q → H1[q]? = H[q]?) → va_S A0 H0 H1 locs1 → W p l e R s m args below meth c H1 locs1 (cells + mc) (slots + ms) Q (F0 m (pc + 3) ls (.long r :: rest))) : W p l e R s m args below meth c H locs cells slots Q (F0 m pc ls st0) := by
  intro T hT X
  rcases hr T hT X with ⟨v, st₀, t, T', L, h0, X', hL, e1, e2, ⟨⟨r, u, hv, hp, hb⟩, hF⟩, st⟩ | ⟨q, st₀, t, T', L, E, ce, h0, X', hL, e1, e2, ⟨u, hp, hb, hF⟩, hce, hcv, hcl, st⟩
  · cases hv
    obtain ⟨k1, k2, k3⟩ := vx_keep h0 e1 hS hA hf hL hF
    obtain ⟨t2, a1, b1⟩ := kk r u t T'.heap (locs ++ L) e1.symm (by rw [← e2]; exact X'.warmed.alike) hp hb k1 k2 k3 T' rfl X'
    exact ⟨t2, st t2 a1, b1⟩
  · obtain ⟨k1, k2, k3⟩ := vx_keep h0 e1 hS hAX hf hL hF
    obtain ⟨t2, a1, b1⟩ := kx E ce q u t T'.heap (locs ++ L) e1.symm (by rw [← e2]; exact X'.warmed.alike) hp hb k1 k2 k3 (by rw [e1]; exact hce) hcv hcl T' rfl X'
    exact ⟨t2, st.trans a1, b1⟩
theorem vx_callf {S SX : Type} {post : UInt32 → S → Prop} {px : SX → Prop} {B : S → State → Prop} {BX : String → SX → State → Prop} {AX : Nat → Prop} (hr : vx_Run p l e R s m args below meth c H locs cells slots mc ms (F0 m pc ls st0) rest (va_Qf post B A1 a) (vx_X px BX AX) free) (hS : va_S A0 H0 H locs) (hA : ∀ q, q < H.size → A1 q → A0 q) (hf : ∀ q, free q → A0 q) (hAX : ∀ q, q < H.size → AX q → A0 q)
    (kx : ∀ (E : String) (ce : Cell) (q9 : Addr) (u : SX) (t : State) (H1 : Heap) (locs1 : List Loc), t.heap = H1 → s.vm.Alike t.vm → px u → BX E u t → H.size ≤ H1.size → (∀ q : Nat, q < H.size → ¬ AX q → H1[q]? = H[q]?) → va_S A0 H0 H1 locs1 → H1[q9]? = some ce → ce.vm = .none → s.vm.findClass E = some ce.cls → vx_W p l e R s m args below meth c H1 locs1 (cells + mc) (slots + ms) Q (F0 m pc ls rest) q9)
    (kk : ∀ (r : UInt32) (u : S) (t : State) (H1 : Heap) (locs1 : List Loc), t.heap = H1 → s.vm.Alike t.vm → post r u → B u t → H.size ≤ H1.size → (∀ q : Nat, q < H.size → ¬ A1 q → H1[q]? = H[q]?) → va_S A0 H0 H1 locs1 → W p l e R s m args below meth c H1 locs1 (cells + mc) (slots + ms) Q (F0 m (pc + 3) ls (.float r :: rest))) : W p l e R s m args below meth c H locs cells slots Q (F0 m pc ls st0) := by
  intro T hT X
  rcases hr T hT X with ⟨v, st₀, t, T', L, h0, X', hL, e1, e2, ⟨⟨r, u, hv, hp, hb⟩, hF⟩, st⟩ | ⟨q, st₀, t, T', L, E, ce, h0, X', hL, e1, e2, ⟨u, hp, hb, hF⟩, hce, hcv, hcl, st⟩
  · cases hv
    obtain ⟨k1, k2, k3⟩ := vx_keep h0 e1 hS hA hf hL hF
    obtain ⟨t2, a1, b1⟩ := kk r u t T'.heap (locs ++ L) e1.symm (by rw [← e2]; exact X'.warmed.alike) hp hb k1 k2 k3 T' rfl X'
    exact ⟨t2, st t2 a1, b1⟩
  · obtain ⟨k1, k2, k3⟩ := vx_keep h0 e1 hS hAX hf hL hF
    obtain ⟨t2, a1, b1⟩ := kx E ce q u t T'.heap (locs ++ L) e1.symm (by rw [← e2]; exact X'.warmed.alike) hp hb k1 k2 k3 (by rw [e1]; exact hce) hcv hcl T' rfl X'
    exact ⟨t2, st.trans a1, b1⟩
theorem vx_calld {S SX : Type} {post : UInt64 → S → Prop} {px : SX → Prop} {B : S → State → Prop} {BX : String → SX → State → Prop} {AX : Nat → Prop} (hr : vx_Run p l e R s m args below meth c H locs cells slots mc ms (F0 m pc ls st0) rest (va_Qd post B A1 a) (vx_X px BX AX) free) (hS : va_S A0 H0 H locs) (hA : ∀ q, q < H.size → A1 q → A0 q) (hf : ∀ q, free q → A0 q) (hAX : ∀ q, q < H.size → AX q → A0 q)
    (kx : ∀ (E : String) (ce : Cell) (q9 : Addr) (u : SX) (t : State) (H1 : Heap) (locs1 : List Loc), t.heap = H1 → s.vm.Alike t.vm → px u → BX E u t → H.size ≤ H1.size → (∀ q : Nat, q < H.size → ¬ AX q → H1[q]? = H[q]?) → va_S A0 H0 H1 locs1 → H1[q9]? = some ce → ce.vm = .none → s.vm.findClass E = some ce.cls → vx_W p l e R s m args below meth c H1 locs1 (cells + mc) (slots + ms) Q (F0 m pc ls rest) q9)
    (kk : ∀ (r : UInt64) (u : S) (t : State) (H1 : Heap) (locs1 : List Loc), t.heap = H1 → s.vm.Alike t.vm → post r u → B u t → H.size ≤ H1.size → (∀ q : Nat, q < H.size → ¬ A1 q → H1[q]? = H[q]?) → va_S A0 H0 H1 locs1 → W p l e R s m args below meth c H1 locs1 (cells + mc) (slots + ms) Q (F0 m (pc + 3) ls (.double r :: rest))) : W p l e R s m args below meth c H locs cells slots Q (F0 m pc ls st0) := by
  intro T hT X
  rcases hr T hT X with ⟨v, st₀, t, T', L, h0, X', hL, e1, e2, ⟨⟨r, u, hv, hp, hb⟩, hF⟩, st⟩ | ⟨q, st₀, t, T', L, E, ce, h0, X', hL, e1, e2, ⟨u, hp, hb, hF⟩, hce, hcv, hcl, st⟩
  · cases hv
    obtain ⟨k1, k2, k3⟩ := vx_keep h0 e1 hS hA hf hL hF
    obtain ⟨t2, a1, b1⟩ := kk r u t T'.heap (locs ++ L) e1.symm (by rw [← e2]; exact X'.warmed.alike) hp hb k1 k2 k3 T' rfl X'
    exact ⟨t2, st t2 a1, b1⟩
  · obtain ⟨k1, k2, k3⟩ := vx_keep h0 e1 hS hAX hf hL hF
    obtain ⟨t2, a1, b1⟩ := kx E ce q u t T'.heap (locs ++ L) e1.symm (by rw [← e2]; exact X'.warmed.alike) hp hb k1 k2 k3 (by rw [e1]; exact hce) hcv hcl T' rfl X'
    exact ⟨t2, st.trans a1, b1⟩
theorem vx_callv {S SX : Type} {post : S → Prop} {px : SX → Prop} {B : S → State → Prop} {BX : String → SX → State → Prop} {AX : Nat → Prop} (hr : vx_Run p l e R s m args below meth c H locs cells slots mc ms (F0 m pc ls st0) rest (va_Qv post B A1 a) (vx_X px BX AX) free) (hS : va_S A0 H0 H locs) (hA : ∀ q, q < H.size → A1 q → A0 q) (hf : ∀ q, free q → A0 q) (hAX : ∀ q, q < H.size → AX q → A0 q)
    (kx : ∀ (E : String) (ce : Cell) (q9 : Addr) (u : SX) (t : State) (H1 : Heap) (locs1 : List Loc), t.heap = H1 → s.vm.Alike t.vm → px u → BX E u t → H.size ≤ H1.size → (∀ q : Nat, q < H.size → ¬ AX q → H1[q]? = H[q]?) → va_S A0 H0 H1 locs1 → H1[q9]? = some ce → ce.vm = .none → s.vm.findClass E = some ce.cls → vx_W p l e R s m args below meth c H1 locs1 (cells + mc) (slots + ms) Q (F0 m pc ls rest) q9)
    (kk : ∀ (u : S) (t : State) (H1 : Heap) (locs1 : List Loc), t.heap = H1 → s.vm.Alike t.vm → post u → B u t → H.size ≤ H1.size → (∀ q : Nat, q < H.size → ¬ A1 q → H1[q]? = H[q]?) → va_S A0 H0 H1 locs1 → W p l e R s m args below meth c H1 locs1 (cells + mc) (slots + ms) Q (F0 m (pc + 3) ls (rest))) : W p l e R s m args below meth c H locs cells slots Q (F0 m pc ls st0) := by
  intro T hT X
  rcases hr T hT X with ⟨v, st₀, t, T', L, h0, X', hL, e1, e2, ⟨⟨u, hv, hp, hb⟩, hF⟩, st⟩ | ⟨q, st₀, t, T', L, E, ce, h0, X', hL, e1, e2, ⟨u, hp, hb, hF⟩, hce, hcv, hcl, st⟩
  · cases hv
    obtain ⟨k1, k2, k3⟩ := vx_keep h0 e1 hS hA hf hL hF
    obtain ⟨t2, a1, b1⟩ := kk u t T'.heap (locs ++ L) e1.symm (by rw [← e2]; exact X'.warmed.alike) hp hb k1 k2 k3 T' rfl X'
    exact ⟨t2, st t2 a1, b1⟩
  · obtain ⟨k1, k2, k3⟩ := vx_keep h0 e1 hS hAX hf hL hF
    obtain ⟨t2, a1, b1⟩ := kx E ce q u t T'.heap (locs ++ L) e1.symm (by rw [← e2]; exact X'.warmed.alike) hp hb k1 k2 k3 (by rw [e1]; exact hce) hcv hcl T' rfl X'
    exact ⟨t2, st.trans a1, b1⟩
/-- caught by the row x of this method's table; the rows ahead don't take it -/
theorem vx_catch {own name : String} {E : String} {ce : Cell} {q : Addr} (hown : s.vm.findClass own = some m.cls) (pre : List ExceptionTableEntry) (x : ExceptionTableEntry) (suf : List ExceptionTableEntry) (hsplit : c.exceptionTable.toList = pre ++ x :: suf)
    (hpass : ∀ z ∈ pre, covers z pc = false ∨ (z.catchType ≠ 0 ∧ ∃ nm : String, (Cond.classLink own z.catchType nm).before args s = true ∧ va_Nc E nm s)) (hx : covers x pc = true) (h0 : x.catchType ≠ 0)
    (hlink : (Cond.classLink own x.catchType name).before args s = true) (hcast : (Cond.castable E name).before args s = true) (hcell : H[q]? = some ce) (hv : ce.vm = .none) (hcl : s.vm.findClass E = some ce.cls)
    (kk : W p l e R s m args below meth c H locs cells slots Q (F0 m x.handlerPc ls [.ref q])) : vx_W p l e R s m args below meth c H locs cells slots Q (F0 m pc ls rest) q := by
  intro T hT X
  have hpl : e.platform.magicAccessors = ({} : Platform).magicAccessors := by rw [X.admits.platform]
  obtain ⟨c3, c4, hc3, hc4, hasg⟩ := Cond.castable_spec hcast
  cases Option.some.inj (hc3.symm.trans hcl)
  obtain ⟨c5, hc5, hcl5⟩ := Cond.classLink_spec hown hlink e.platform hpl
  cases Option.some.inj (hc4.symm.trans hc5)
  obtain ⟨vm', X', st⟩ := X.thenCaughtThrough q (g := F0 m pc ls rest) rfl (Steps.refl _) (by rw [hT]; exact hcell) (by rw [hv]; rfl) (by obtain ⟨k9, h9, -⟩ := Vm.findClass_spec hcl; exact ⟨k9, h9⟩) pre x suf hsplit
    (fun z hz => by
      rcases hpass z hz with h | ⟨hz0, nm, hl1, hn1⟩
      · exact Or.inl h
      · obtain ⟨c6, hc6, hcl6⟩ := Cond.classLink_spec hown hl1 e.platform hpl
        obtain ⟨a8, b8, h1, h2, h3⟩ := hn1
        cases Option.some.inj (h1.symm.trans hcl)
        cases Option.some.inj (h2.symm.trans hc6)
        exact Or.inr ⟨hz0, _, hcl6, h3⟩) hx (Or.inr ⟨h0, c4, hcl5, hasg⟩)
  obtain ⟨t, a1, b1⟩ := kk (T.setVm vm') hT X'
  exact ⟨t, st.trans a1, b1⟩
end Rows
section Ends
variable {p : Program} {l : Launch} {e : Env} {R : Room} {s : State} {m : MethodId} {args : Array Value} {below : List Frame} {meth : Method} {c : Code} {H : Heap} {locs : List Loc} {cells slots : Nat} {Q : State → Prop}
variable {mc ms : Nat} {free : Addr → Prop} {A0 A1 : Nat → Prop} {H0 : Heap} {a : Array Value} {ls : Array Slot} {st0 rest : List Value}
variable {Qc : Array Value → State → Outcome → State → Prop} {XC : String → State → State → Prop}
/-- what a body that may throw owes at its end -/
def vx_MQ (below : List Frame) (Qc : Array Value → State → Outcome → State → Prop) (XC : String → State → State → Prop) (a : Array Value) (s : State) (mc ms : Nat) (free : Addr → Prop) : State → Prop := fun t =>
  ∃ o, t.status = .running ∧ Ended t below o ∧ vx_Q Qc XC mc ms free a s o t
theorem vx_ret {g : JFrame} {mc ms : Nat} (k : W p l e R s m args below meth c H locs cells slots (MQ below Qc args s mc ms free) g) : W p l e R s m args below meth c H locs cells slots (vx_MQ below Qc XC args s mc ms free) g := by
  intro T hT X
  obtain ⟨t, a1, o, b1, b2, b3, b4⟩ := k T hT X
  exact ⟨t, a1, o, b1, b2, Or.inl ⟨b3, b4⟩⟩
/-- not caught here: it goes on to the caller -/
theorem vx_widen {g : JFrame} {q : Addr} {k n : Nat} (h1 : cells ≤ k) (h2 : slots ≤ n) (kk : vx_W p l e R s m args below meth c H locs k n Q g q) : vx_W p l e R s m args below meth c H locs cells slots Q g q := fun T hT X => kk T hT (stand_widen X h1 h2)
theorem vx_out {pc : Nat} {E : String} {ce : Cell} {q : Addr} {mc ms : Nat} (hout : ∀ x ∈ c.exceptionTable.toList, covers x pc = false) (hlocks : meth.locks = false) (hcell : H[q]? = some ce) (hv : ce.vm = .none) (hcl : s.vm.findClass E = some ce.cls)
    (hx : ∀ t : State, t.heap = H → s.vm.Alike t.vm → XC E s t) (hf : ∀ z ∈ locs, free z.base) (hc : cells ≤ mc) (hs : slots ≤ ms) :
    vx_W p l e R s m args below meth c H locs cells slots (vx_MQ below Qc XC args s mc ms free) (F0 m pc ls rest) q := by
  intro T hT X
  obtain ⟨st1, hrun, hend, hW, hsm⟩ := X.leaveThrown q (g := F0 m pc ls rest) rfl rfl rfl hout hlocks
  have hcell9 : (T.setFrames (.throwing q :: below)).heap[q]? = some ce := by
    show T.heap[q]? = some ce
    rw [hT]; exact hcell
  exact ⟨_, st1, .threw q, hrun, hend, Or.inr ⟨q, rfl, E, ce, locs, hx _ hT hW.alike, hcell9, hv, hcl, hW, hsm.mono hc hs, hf⟩⟩
theorem vx_frame {U : State} {k n : Nat} (h : s.sameButNew ({ U with vm := s.vm } : State) locs k n) : s.heap.size ≤ U.heap.size ∧ ∀ q : Nat, q < s.heap.size → (∀ z ∈ locs, z.base ≠ q) → U.heap[q]? = s.heap[q]? := by
  obtain ⟨-, h2, -, -, -, h6⟩ := h
  refine ⟨h2, fun q hq hz => ?_⟩
  obtain ⟨c9, e1, e2, e3, e4⟩ := h6 q _ (Array.getElem?_eq_getElem hq)
  have hs : c9.slots = (s.heap[q]).slots := Array.ext_getElem? fun i => e4 i fun hm => hz _ hm rfl
  have h9 : c9 = s.heap[q] := by
    rw [hs] at e2
    exact e2
  have e5 : U.heap[q]? = some c9 := e1
  rw [e5, h9, Array.getElem?_eq_getElem hq]
/-- the words of a throw but the four that speak of the heap -/
def vx_no (w : Cond) : Bool := decide (w ≠ .isRef (.static Bundle.tN "UNASSIGNED_STACK" Bundle.steD)) && decide (w ≠ .isRef (.static Bundle.tN "SUPPRESSED_SENTINEL" Bundle.listD)) && decide (w ≠ .laysStatic Bundle.tN "UNASSIGNED_STACK" Bundle.steD) && decide (w ≠ .laysStatic Bundle.tN "SUPPRESSED_SENTINEL" Bundle.listD)
def vx_at0 (own : String) (ic : Nat) (X : String) (names : List String) : List Cond := (Bundle.ownAtoms0 own ic X names).filter vx_no
def vx_atS (own : String) (ic : Nat) (X : String) (names : List String) : List Cond := (Bundle.ownAtoms own ic X names).filter vx_no
/-- a word that the tables alone decide, or a good one -/
def vx_ot (w : Cond) : Bool := w.onTables || goodWord w
theorem vx_ot_at {args a' : Array Value} {s U : State} {w : Cond} (hW : s.WarmedH U.vm) (hvm : s.vm = U.vm) (hg : vx_ot w = true) (h : w.before args s = true) : w.before a' U = true := by
  simp only [vx_ot, Bool.or_eq_true] at hg
  rcases hg with hg | hg
  · exact va_tabs hg hvm h
  · exact word_at hW (good_of_word hg) h
/-- a list's words: the good ones out of the method's own list, the others by premises of their own -/
theorem vx_hat {args : Array Value} {s : State} {L B : List Cond} (h1 : ∀ w ∈ L.filter goodWord, w.before args s = true) (h2 : ∀ w ∈ L.filter (fun w => !goodWord w), w ∈ B) (h3 : ∀ w ∈ B, w.before args s = true) : ∀ w ∈ L, w.before args s = true := by
  intro w hw
  by_cases g : goodWord w = true
  · exact h1 w (List.mem_filter.mpr ⟨hw, g⟩)
  · refine h3 w (h2 w (List.mem_filter.mpr ⟨hw, ?_⟩))
    show (!goodWord w) = true
    cases hgw : goodWord w
    · rfl
    · exact absurd hgw g
theorem vx_c {args : Array Value} {s : State} {w : Cond} {B : List Cond} (h : w.before args s = true) (t : ∀ w ∈ B, w.before args s = true) : ∀ w' ∈ w :: B, w'.before args s = true := fun w' h' => (List.mem_cons.mp h').elim (fun e => by rw [e]; exact h) (t w')
theorem vx_n {args : Array Value} {s : State} : ∀ w ∈ ([] : List Cond), w.before args s = true := fun _ h => nomatch h
theorem vx_own {args : Array Value} {s : State} {L : List Cond} (h1 : ∀ w ∈ L.filter vx_no, w.before args s = true)
    (hU : (Cond.isRef (.static Bundle.tN "UNASSIGNED_STACK" Bundle.steD)).before args s = true) (hN : (Cond.isRef (.static Bundle.tN "SUPPRESSED_SENTINEL" Bundle.listD)).before args s = true)
    (lU : (Cond.laysStatic Bundle.tN "UNASSIGNED_STACK" Bundle.steD).before args s = true) (lN : (Cond.laysStatic Bundle.tN "SUPPRESSED_SENTINEL" Bundle.listD).before args s = true) : ∀ w ∈ L, w.before args s = true := by
  intro w hw
  by_cases e1 : w = .isRef (.static Bundle.tN "UNASSIGNED_STACK" Bundle.steD)
  · rw [e1]; exact hU
  · by_cases e2 : w = .isRef (.static Bundle.tN "SUPPRESSED_SENTINEL" Bundle.listD)
    · rw [e2]; exact hN
    · by_cases e3 : w = .laysStatic Bundle.tN "UNASSIGNED_STACK" Bundle.steD
      · rw [e3]; exact lU
      · by_cases e4 : w = .laysStatic Bundle.tN "SUPPRESSED_SENTINEL" Bundle.listD
        · rw [e4]; exact lN
        · exact h1 w (List.mem_filter.mpr ⟨hw, by unfold vx_no; rw [decide_eq_true e1, decide_eq_true e2, decide_eq_true e3, decide_eq_true e4]; rfl⟩)
/-- where a static field lies, its class's statics cell in H -/
def vx_L (C n d : String) (A : Nat → Prop) (U : State) (H : Heap) : Prop := ∃ (c : ClassId) (k : Class) (i : Nat) (f : Field) (a : Nat) (cell : Cell), U.vm.findClass C = some c ∧ U.fieldFound? C n d = some (c, k, i, f) ∧ f.isStatic = true ∧ k.statics = some a ∧ H[a]? = some cell ∧ cell.vm.isStatics = true ∧ cell.cls = c ∧ f.slot < cell.slots.size ∧ k.staticTypes[f.slot]? = some f.type ∧ ¬ A a
theorem vx_L.moved {C n d : String} {A : Nat → Prop} {u U : State} {H : Heap} (hvm : u.vm.Alike U.vm) (h : vx_L C n d A u H) : vx_L C n d A U H := by
  obtain ⟨c, k, i, f, a, cell, h1, h2, h3, h4, h5, h6, h7, h8, h9, h10⟩ := h
  obtain ⟨k', hi', he⟩ := State.fieldFound?_setVm hvm h2
  exact ⟨c, k', i, f, a, cell, by rw [hvm.findClass]; exact h1, hi', h3, by rw [he]; exact h4, h5, h6, h7, h8, by rw [he]; exact h9, h10⟩
theorem vx_L.kept {C n d : String} {A : Nat → Prop} {U : State} {H H1 : Heap} (h : vx_L C n d A U H) (hq : ∀ a : Nat, a < H.size → ¬ A a → H1[a]? = H[a]?) : vx_L C n d A U H1 := by
  obtain ⟨c, k, i, f, a, cell, h1, h2, h3, h4, h5, h6, h7, h8, h9, h10⟩ := h
  exact ⟨c, k, i, f, a, cell, h1, h2, h3, h4, by rw [hq a (Array.getElem?_eq_some_iff.mp h5).1 h10]; exact h5, h6, h7, h8, h9, h10⟩
theorem vx_L.narrow {C n d : String} {A B : Nat → Prop} {U : State} {H : Heap} (h : vx_L C n d A U H) (hAB : ∀ q, B q → A q) : vx_L C n d B U H := by
  obtain ⟨c, k, i, f, a, cell, h1, h2, h3, h4, h5, h6, h7, h8, h9, h10⟩ := h
  exact ⟨c, k, i, f, a, cell, h1, h2, h3, h4, h5, h6, h7, h8, h9, fun z => h10 (hAB _ z)⟩
theorem vx_L.word {C n d : String} {A : Nat → Prop} {s : State} {args : Array Value} (h : vx_L C n d A s s.heap) : (Cond.laysStatic C n d).before args s = true := by
  obtain ⟨c, k, i, f, a, cell, h1, h2, h3, h4, h5, h6, h7, h8, h9, -⟩ := h
  show (Cond.laysStatic C n d).holds args s none s [] = true
  exact Cond.laysStatic_of h1 h2 h3 h4 h5 h6 h7 h8 h9
/-- .. and what it holds: null or some reference -/
def vx_Zq (C n d : String) (A : Nat → Prop) (U : State) (H : Heap) : Prop := va_Zq C n d A U H ∧ vx_L C n d A U H
theorem vx_Zq.moved {C n d : String} {A : Nat → Prop} {u U : State} {H : Heap} (hvm : u.vm.Alike U.vm) (h : vx_Zq C n d A u H) : vx_Zq C n d A U H := ⟨va_Zq.moved hvm h.1, vx_L.moved hvm h.2⟩
theorem vx_Zq.kept {C n d : String} {A : Nat → Prop} {U : State} {H H1 : Heap} (h : vx_Zq C n d A U H) (hq : ∀ a : Nat, a < H.size → ¬ A a → H1[a]? = H[a]?) : vx_Zq C n d A U H1 := ⟨va_Zq.kept h.1 hq, vx_L.kept h.2 hq⟩
theorem vx_Zq.narrow {C n d : String} {A B : Nat → Prop} {U : State} {H : Heap} (h : vx_Zq C n d A U H) (hAB : ∀ q, B q → A q) : vx_Zq C n d B U H := ⟨va_Zq.narrow h.1 hAB, vx_L.narrow h.2 hAB⟩
theorem vx_Zqof {args : Array Value} {s : State} {C n d : String} {A : Nat → Prop} (hl : (Cond.laysStatic C n d).before args s = true) (hini : (Cond.initialized C).before args s = true) (h : (Cond.isRef (.static C n d)).before args s = true) (hA : ∀ a : Nat, a < s.heap.size → ¬ A a) : vx_Zq C n d A s s.heap := by
  refine ⟨va_Zqof hl hini h hA, ?_⟩
  obtain ⟨c, k, i, f, a, cell, h1, h2, h3, h4, h5, h6, h7, h8, h9⟩ := Cond.laysStatic_spec hl
  exact ⟨c, k, i, f, a, cell, h1, h2, h3, h4, h5, h6, h7, h8, h9, hA a (Array.getElem?_eq_some_iff.mp h5).1⟩
theorem vx_isRef {C n d : String} {v : Value} {A : Nat → Prop} {s : State} {args : Array Value} (h : va_Z C n d v A s s.heap) (hv : v.isRef = true) : (Cond.isRef (.static C n d)).before args s = true := by
  obtain ⟨cf, kf, fi, f, a, cell, h1, h2, h3, h4, h5, h6, h7, -⟩ := h
  have he : (Term.static C n d).eval args s none [] s = some v := by
    simp [Term.eval, State.fieldNamed?, h1, h2, h4, h5, h6, h7]
  simp only [Cond.before, Cond.holds, Cond.value, he]
  cases v <;> simp_all [Value.isRef]
theorem vx_isRefq {C n d : String} {A : Nat → Prop} {s : State} {args : Array Value} (h : va_Zq C n d A s s.heap) : (Cond.isRef (.static C n d)).before args s = true := by
  rcases h with h | ⟨t, h⟩
  · exact vx_isRef h rfl
  · exact vx_isRef h rfl
/-- the same frame, seen from here: as if the method were called anew in this heap -/
theorem vx_rebase {T : State} (X : Stand p l e R s m args below meth c T locs cells slots) {R' : Room} (hf : R'.frames ≤ R.frames) (hl : R'.locals ≤ R.locals) (hc : cells + R'.cells ≤ R.cells) (hs : slots + R'.slots ≤ R.slots) :
    Stand p l e R' ((T.setVm s.vm).setFrames (.invoking m args :: below)) m args below meth c T [] 0 0 := by
  have htop : (T.setVm s.vm).topJava?.isSome := X.here.top
  have hF : ((T.setVm s.vm).setFrames (.invoking m args :: below)).frames = .invoking m args :: below := State.frames_setFrames _ (State.cur_lt_of_top htop)
  obtain ⟨g₀, hg0⟩ := Option.isSome_iff_exists.mp htop
  obtain ⟨r, hr⟩ := State.topJava?_eq_some.mp hg0
  have hl9 : e.platform.stackLimits (T.setVm s.vm).me = e.platform.stackLimits s.me := X.limits
  have hb9 : (T.setVm s.vm).me.stackBytes = s.me.stackBytes := X.bytes
  refine ⟨X.admits, X.cas, X.clock, hF, ?_, X.hears, X.method, X.code, X.here, X.tail, X.warmed, ?_, ?_, ?_⟩
  · have h := X.room
    have hU : ((T.setVm s.vm).setFrames (.invoking m args :: below)).localsInUse = s.localsInUse := by
      rw [State.localsInUse_invoking hF (meth := meth) (c := c) X.method X.code, State.localsInUse_invoking X.frames X.method X.code]
    simp only [State.hasRoom, Bool.and_eq_true, decide_eq_true_eq] at h ⊢
    obtain ⟨⟨⟨⟨h1, h2, h3, h4, h5, h6⟩, h7⟩, h8⟩, h9⟩ := h
    rw [X.frames, List.length_cons] at h2 h3
    have q1 := X.heapSize
    have q2 := X.used
    simp only [hF, hU, List.length_cons, State.stackLimits_setFrames, State.stackBytes_setFrames, hl9, hb9]
    refine ⟨⟨⟨⟨by omega, by omega, by omega, by omega, by omega, h6⟩, ?_⟩, ?_⟩, X.book⟩
    · show T.heap.size + R'.cells ≤ e.platform.maxCells
      omega
    · show T.slotsUsed + R'.slots ≤ e.platform.maxSlots
      omega
  · rw [State.stackLimits_setFrames]; rfl
  · rw [State.stackBytes_setFrames]; rfl
  · refine ⟨?_, Nat.le_refl _, Nat.le_refl _, ?_, ?_, fun a c9 h9 => ⟨c9, h9, rfl, rfl, fun _ _ => rfl⟩⟩
    · obtain ⟨t, ht, -⟩ := State.frames_cons hr
      show T.setVm s.vm = { ((T.setVm s.vm).setFrames (.invoking m args :: below)).setFrames (T.setVm s.vm).frames with heap := T.heap, slotsUsed := T.slotsUsed }
      rw [State.setFrames_setFrames, State.setFrames_self ht]
      rfl
    · show T.slotsUsed = T.slotsUsed + ((T.heap.toList.drop T.heap.size).map (·.slots.size)).sum
      rw [List.drop_eq_nil_of_le (Nat.le_of_eq Array.length_toList)]
      rfl
    · show ((T.heap.toList.drop T.heap.size).map (·.slots.size)).sum ≤ 0
      rw [List.drop_eq_nil_of_le (Nat.le_of_eq Array.length_toList)]
      exact Nat.le_refl _
/-- 'throw new E()': new; dup; invokespecial; athrow -/
theorem vx_throw0 {cc : ByteArray} {pc : Nat} (hexec : p.tables.exec = Jvm.exec) (hb : c.code = cc) (hl : l.stackTraces = false) {own cls : String} {names : List String} {ik ic mc ms : Nat} {A : Nat → Prop}
    (hown : s.vm.findClass own = some m.cls) (hcls : Bundle.fit cls = true) (hnames : ∀ n ∈ names, Bundle.fit n = true)
    (hk : (Cond.classLink own ik cls).before args s = true) (hini : (Cond.initialized cls).before args s = true) (hat : ∀ w ∈ vx_at0 own ic cls names, w.before args s = true)
    (hgood : ∀ w ∈ Cond.classLink own ik cls :: Cond.initialized cls :: vx_at0 own ic cls names, vx_ot w = true)
    (hU : vx_Zq Bundle.tN "UNASSIGNED_STACK" Bundle.steD A s s.heap) (hN : vx_Zq Bundle.tN "SUPPRESSED_SENTINEL" Bundle.listD A s s.heap) (hS : va_S A s.heap H locs) (hsize : ls.size = c.maxLocals)
    (d0 : decode cc pc = .ok (.new ik, 3)) (d3 : decode cc (pc + 3) = .ok (.dup, 1)) (d4 : decode cc (pc + 4) = .ok (.invokespecial ic, 3)) (d7 : decode cc (pc + 7) = .ok (.athrow, 1))
    (hout : ∀ x ∈ c.exceptionTable.toList, covers x (pc + 7) = false)
    (hRframes : names.length + 3 < R.frames) (hRlocals : (rest.map fun v => v.category).sum + (13 * (names.length + 1) + 42) ≤ R.locals) (hRcells : cells + 1 ≤ R.cells) (hRslots : slots + 6 ≤ R.slots) (hlocks : meth.locks = false)
    (hx : ∀ t : State, s.vm.Alike t.vm → H.size ≤ t.heap.size → (∀ q : Nat, q < H.size → t.heap[q]? = H[q]?) → XC cls s t)
    (hf : ∀ z ∈ locs, free z.base) (hc : cells + 1 ≤ mc) (hs : slots + 6 ≤ ms) :
    W p l e R s m args below meth c H locs cells slots (vx_MQ below Qc XC args s mc ms free) (F0 m pc ls rest) := by
  intro T hT X
  have htr : e.platform.stackTraces = false := (show e.platform.stackTraces = l.stackTraces by rw [X.admits.platform]).trans hl
  have Y := vx_rebase X (R' := { frames := R.frames, locals := R.locals, cells := 1, slots := 6 }) (Nat.le_refl _) (Nat.le_refl _) hRcells hRslots
  obtain ⟨s', hA⟩ : ∃ z, z = (T.setVm s.vm).setFrames (.invoking m args :: below) := ⟨_, rfl⟩
  rw [← hA] at Y
  have hvm : s'.vm = s.vm := by rw [hA]; rfl
  have hhp : s'.heap = H := by rw [hA]; exact hT
  have hW0 : s.WarmedH s'.vm := by rw [hvm]; exact State.WarmedH.refl s
  have hat' : ∀ w ∈ vx_at0 own ic cls names, w.before args s' = true := fun w hw => vx_ot_at hW0 hvm.symm (hgood w (List.mem_cons_of_mem _ (List.mem_cons_of_mem _ hw))) (hat w hw)
  have hk' : (Cond.classLink own ik cls).before args s' = true := vx_ot_at hW0 hvm.symm (hgood _ List.mem_cons_self) hk
  have hini' : (Cond.initialized cls).before args s' = true := vx_ot_at hW0 hvm.symm (hgood _ (List.mem_cons_of_mem _ List.mem_cons_self)) hini
  have hU' : vx_Zq Bundle.tN "UNASSIGNED_STACK" Bundle.steD A s' s'.heap := by rw [hhp]; exact vx_Zq.moved hW0.alike (hU.kept hS.2.1)
  have hN' : vx_Zq Bundle.tN "SUPPRESSED_SENTINEL" Bundle.listD A s' s'.heap := by rw [hhp]; exact vx_Zq.moved hW0.alike (hN.kept hS.2.1)
  have h : ∀ w ∈ Bundle.ownAtoms0 own ic cls names, w.before args s' = true := vx_own hat' (vx_isRefq hU'.1) (vx_isRefq hN'.1) hU'.2.word hN'.2.word
  have hown' : s'.vm.findClass own = some m.cls := by rw [hvm]; exact hown
  have hins : (Cond.instantiable cls 6).before args s' = true := h _ (by simp [Bundle.ownAtoms0])
  obtain ⟨vm₁, cX, kX, hfX, hkX, -, -, X₁, st1⟩ := Y.newCold hexec (own := own) (C := cls) (index := ik) (n := 6) hown' hk' hins hini'
    (g := F0 m pc ls rest) rfl (by rw [hb]; exact d0) (Nat.le_refl _) (Nat.le_refl _)
  generalize hT1 : (T.setVm vm₁).pushCell { cls := cX, slots := kX.instanceTypes.map defaultValue, vm := .none } = T1 at X₁ st1
  have hcat : (Value.ref T.heap.size).category = 1 := rfl
  have hcellA : T1.heap[T.heap.size]? = some (freshCell cX kX) := by rw [← hT1]; exact State.heap_pushCell_size _ _
  have d3' : decode c.code (pc + 3) = .ok (.dup, 1) := by rw [hb]; exact d3
  obtain ⟨U, hsteps, hrun, hend, hW, hsame, ce, hce, hO⟩ := X₁.ctorThrow0 hexec htr (own := own) (cls := cls) (names := names) (ic := ic) hown' hcls hnames h (fun x hx => nomatch hx) hfX hkX hcellA (by rw [hhp, hT]; exact Nat.le_refl _)
    (g := { method := m, pc := pc + 4, locals := ls, stack := .ref T.heap.size :: .ref T.heap.size :: rest, locked := none }) rfl hsize rfl rfl (rest := rest) rfl
    (by rw [hb]; exact d4) (by rw [hb]; exact d7) hout hRframes (by simp only [List.map_cons, List.sum_cons, hcat]; omega) hlocks
  obtain ⟨f1, f2⟩ := vx_frame hsame
  rw [hhp] at f1 f2
  have hWs : s.WarmedH U.vm := State.WarmedH.trans hW0 hW
  have hcl : s.vm.findClass cls = some ce.cls := by
    have h9 := hO.cls
    rw [hvm] at h9
    exact h9
  have hall : s.sameButNew ({ U with vm := s.vm } : State) locs mc ms := by
    subst hA
    obtain ⟨e1, e2⟩ := hsame
    rw [State.setFrames_setFrames] at e1
    have h2 : (T.setVm s.vm).sameButNew ({ U with vm := s.vm } : State) [] (0 + 1) (0 + 6) := ⟨e1, e2⟩
    have h3 := X.same.trans h2
    rw [List.append_nil] at h3
    exact h3.mono hc hs
  refine ⟨U, ?_, .threw T.heap.size, hrun, hend, Or.inr ⟨T.heap.size, rfl, cls, ce, locs, hx U hWs.alike f1 (fun q hq => f2 q hq (fun z hz => nomatch hz)), hce, hO.vm, hcl, hWs, hall, hf⟩⟩
  refine st1 _ ?_
  show Steps p.tables e below (T1.setTop { method := m, pc := pc + 3, locals := ls, stack := .ref T.heap.size :: rest, locked := none }) _
  jvm_step X₁.here [X₁.here.top, hexec, d3', Value.category]
  exact hsteps
/-- 'throw new E("text")': new; dup; ldc; invokespecial; athrow -/
theorem vx_throwS {cc : ByteArray} {pc : Nat} (hexec : p.tables.exec = Jvm.exec) (hb : c.code = cc) (hl : l.stackTraces = false) {own cls text : String} {names : List String} {ik is ic mc ms sa : Nat} {A : Nat → Prop}
    (hown : s.vm.findClass own = some m.cls) (hcls : Bundle.fit cls = true) (hnames : ∀ n ∈ names, Bundle.fit n = true)
    (hk : (Cond.classLink own ik cls).before args s = true) (hini : (Cond.initialized cls).before args s = true) (hstr : vk_R own is text sa s) (hat : ∀ w ∈ vx_atS own ic cls names, w.before args s = true)
    (hgood : ∀ w ∈ Cond.classLink own ik cls :: Cond.initialized cls :: vx_atS own ic cls names, vx_ot w = true)
    (hU : vx_Zq Bundle.tN "UNASSIGNED_STACK" Bundle.steD A s s.heap) (hN : vx_Zq Bundle.tN "SUPPRESSED_SENTINEL" Bundle.listD A s s.heap) (hS : va_S A s.heap H locs) (hsize : ls.size = c.maxLocals)
    (d0 : decode cc pc = .ok (.new ik, 3)) (d3 : decode cc (pc + 3) = .ok (.dup, 1)) (d4 : decode cc (pc + 4) = .ok (.ldc is, 2)) (d6 : decode cc (pc + 6) = .ok (.invokespecial ic, 3)) (d9 : decode cc (pc + 9) = .ok (.athrow, 1))
    (hout : ∀ x ∈ c.exceptionTable.toList, covers x (pc + 9) = false)
    (hRframes : names.length + 3 < R.frames) (hRlocals : (rest.map fun v => v.category).sum + (13 * (names.length + 1) + 43) ≤ R.locals) (hRcells : cells + 1 ≤ R.cells) (hRslots : slots + 6 ≤ R.slots) (hlocks : meth.locks = false)
    (hx : ∀ t : State, s.vm.Alike t.vm → H.size ≤ t.heap.size → (∀ q : Nat, q < H.size → t.heap[q]? = H[q]?) → XC cls s t)
    (hf : ∀ z ∈ locs, free z.base) (hc : cells + 1 ≤ mc) (hs : slots + 6 ≤ ms) :
    W p l e R s m args below meth c H locs cells slots (vx_MQ below Qc XC args s mc ms free) (F0 m pc ls rest) := by
  intro T hT X
  have htr : e.platform.stackTraces = false := (show e.platform.stackTraces = l.stackTraces by rw [X.admits.platform]).trans hl
  have Y := vx_rebase X (R' := { frames := R.frames, locals := R.locals, cells := 1, slots := 6 }) (Nat.le_refl _) (Nat.le_refl _) hRcells hRslots
  obtain ⟨s', hA⟩ : ∃ z, z = (T.setVm s.vm).setFrames (.invoking m args :: below) := ⟨_, rfl⟩
  rw [← hA] at Y
  have hvm : s'.vm = s.vm := by rw [hA]; rfl
  have hhp : s'.heap = H := by rw [hA]; exact hT
  have hW0 : s.WarmedH s'.vm := by rw [hvm]; exact State.WarmedH.refl s
  have hat' : ∀ w ∈ vx_atS own ic cls names, w.before args s' = true := fun w hw => vx_ot_at hW0 hvm.symm (hgood w (List.mem_cons_of_mem _ (List.mem_cons_of_mem _ hw))) (hat w hw)
  have hk' : (Cond.classLink own ik cls).before args s' = true := vx_ot_at hW0 hvm.symm (hgood _ List.mem_cons_self) hk
  have hini' : (Cond.initialized cls).before args s' = true := vx_ot_at hW0 hvm.symm (hgood _ (List.mem_cons_of_mem _ List.mem_cons_self)) hini
  have hU' : vx_Zq Bundle.tN "UNASSIGNED_STACK" Bundle.steD A s' s'.heap := by rw [hhp]; exact vx_Zq.moved hW0.alike (hU.kept hS.2.1)
  have hN' : vx_Zq Bundle.tN "SUPPRESSED_SENTINEL" Bundle.listD A s' s'.heap := by rw [hhp]; exact vx_Zq.moved hW0.alike (hN.kept hS.2.1)
  have h : ∀ w ∈ Bundle.ownAtoms own ic cls names, w.before args s' = true := vx_own hat' (vx_isRefq hU'.1) (vx_isRefq hN'.1) hU'.2.word hN'.2.word
  have hown' : s'.vm.findClass own = some m.cls := by rw [hvm]; exact hown
  have hins : (Cond.instantiable cls 6).before args s' = true := h _ (by simp [Bundle.ownAtoms])
  obtain ⟨vm₁, cX, kX, hfX, hkX, -, -, X₁, st1⟩ := Y.newCold hexec (own := own) (C := cls) (index := ik) (n := 6) hown' hk' hins hini'
    (g := F0 m pc ls rest) rfl (by rw [hb]; exact d0) (Nat.le_refl _) (Nat.le_refl _)
  generalize hT1 : (T.setVm vm₁).pushCell { cls := cX, slots := kX.instanceTypes.map defaultValue, vm := .none } = T1 at X₁ st1
  have hcat : (Value.ref T.heap.size).category = 1 := rfl
  have hcellA : T1.heap[T.heap.size]? = some (freshCell cX kX) := by rw [← hT1]; exact State.heap_pushCell_size _ _
  have d3' : decode c.code (pc + 3) = .ok (.dup, 1) := by rw [hb]; exact d3
  have d4' : decode c.code (pc + 4) = .ok (.ldc is, 2) := by rw [hb]; exact d4
  have hstr' : vk_R own is text sa s' := vk_R.warm hW0 hstr
  obtain ⟨U, hsteps, hrun, hend, hW, hsame, ce, hce, hO⟩ := X₁.ctorThrowS hexec htr (own := own) (cls := cls) (names := names) (ic := ic) hown' hcls hnames h (fun x hx => nomatch hx) hfX hkX hcellA (by rw [hhp, hT]; exact Nat.le_refl _) (msg := .ref sa) rfl
    (g := { method := m, pc := pc + 6, locals := ls, stack := .ref sa :: .ref T.heap.size :: .ref T.heap.size :: rest, locked := none }) rfl hsize rfl rfl (rest := rest) rfl
    (by rw [hb]; exact d6) (by rw [hb]; exact d9) hout hRframes (by simp only [List.map_cons, List.sum_cons, hcat]; omega) hlocks
  obtain ⟨f1, f2⟩ := vx_frame hsame
  rw [hhp] at f1 f2
  have hWs : s.WarmedH U.vm := State.WarmedH.trans hW0 hW
  have hcl : s.vm.findClass cls = some ce.cls := by
    have h9 := hO.cls
    rw [hvm] at h9
    exact h9
  have hall : s.sameButNew ({ U with vm := s.vm } : State) locs mc ms := by
    subst hA
    obtain ⟨e1, e2⟩ := hsame
    rw [State.setFrames_setFrames] at e1
    have h2 : (T.setVm s.vm).sameButNew ({ U with vm := s.vm } : State) [] (0 + 1) (0 + 6) := ⟨e1, e2⟩
    have h3 := X.same.trans h2
    rw [List.append_nil] at h3
    exact h3.mono hc hs
  refine ⟨U, ?_, .threw T.heap.size, hrun, hend, Or.inr ⟨T.heap.size, rfl, cls, ce, locs, hx U hWs.alike f1 (fun q hq => f2 q hq (fun z hz => nomatch hz)), hce, hO.vm, hcl, hWs, hall, hf⟩⟩
  refine st1 _ ?_
  show Steps p.tables e below (T1.setTop { method := m, pc := pc + 3, locals := ls, stack := .ref T.heap.size :: rest, locked := none }) _
  jvm_step X₁.here [X₁.here.top, hexec, d3', Value.category]
  exact X₁.ldcString hexec (own := own) (text := text) (index := is) (a := sa) hown' hstr'.1 hstr'.2
    (g := { method := m, pc := pc + 4, locals := ls, stack := .ref T.heap.size :: .ref T.heap.size :: rest, locked := none }) rfl d4' _ hsteps
/-- 'throw new E("text")', the text by a wide index -/
theorem vx_throwSW {cc : ByteArray} {pc : Nat} (hexec : p.tables.exec = Jvm.exec) (hb : c.code = cc) (hl : l.stackTraces = false) {own cls text : String} {names : List String} {ik is ic mc ms sa : Nat} {A : Nat → Prop}
    (hown : s.vm.findClass own = some m.cls) (hcls : Bundle.fit cls = true) (hnames : ∀ n ∈ names, Bundle.fit n = true)
    (hk : (Cond.classLink own ik cls).before args s = true) (hini : (Cond.initialized cls).before args s = true) (hstr : vk_R own is text sa s) (hat : ∀ w ∈ vx_atS own ic cls names, w.before args s = true)
    (hgood : ∀ w ∈ Cond.classLink own ik cls :: Cond.initialized cls :: vx_atS own ic cls names, vx_ot w = true)
    (hU : vx_Zq Bundle.tN "UNASSIGNED_STACK" Bundle.steD A s s.heap) (hN : vx_Zq Bundle.tN "SUPPRESSED_SENTINEL" Bundle.listD A s s.heap) (hS : va_S A s.heap H locs) (hsize : ls.size = c.maxLocals)
    (d0 : decode cc pc = .ok (.new ik, 3)) (d3 : decode cc (pc + 3) = .ok (.dup, 1)) (d4 : decode cc (pc + 4) = .ok (.ldc_w is, 3)) (d7 : decode cc (pc + 7) = .ok (.invokespecial ic, 3)) (d10 : decode cc (pc + 10) = .ok (.athrow, 1))
    (hout : ∀ x ∈ c.exceptionTable.toList, covers x (pc + 10) = false)
    (hRframes : names.length + 3 < R.frames) (hRlocals : (rest.map fun v => v.category).sum + (13 * (names.length + 1) + 43) ≤ R.locals) (hRcells : cells + 1 ≤ R.cells) (hRslots : slots + 6 ≤ R.slots) (hlocks : meth.locks = false)
    (hx : ∀ t : State, s.vm.Alike t.vm → H.size ≤ t.heap.size → (∀ q : Nat, q < H.size → t.heap[q]? = H[q]?) → XC cls s t)
    (hf : ∀ z ∈ locs, free z.base) (hc : cells + 1 ≤ mc) (hs : slots + 6 ≤ ms) :
    W p l e R s m args below meth c H locs cells slots (vx_MQ below Qc XC args s mc ms free) (F0 m pc ls rest) := by
  intro T hT X
  have htr : e.platform.stackTraces = false := (show e.platform.stackTraces = l.stackTraces by rw [X.admits.platform]).trans hl
  have Y := vx_rebase X (R' := { frames := R.frames, locals := R.locals, cells := 1, slots := 6 }) (Nat.le_refl _) (Nat.le_refl _) hRcells hRslots
  obtain ⟨s', hA⟩ : ∃ z, z = (T.setVm s.vm).setFrames (.invoking m args :: below) := ⟨_, rfl⟩
  rw [← hA] at Y
  have hvm : s'.vm = s.vm := by rw [hA]; rfl
  have hhp : s'.heap = H := by rw [hA]; exact hT
  have hW0 : s.WarmedH s'.vm := by rw [hvm]; exact State.WarmedH.refl s
  have hat' : ∀ w ∈ vx_atS own ic cls names, w.before args s' = true := fun w hw => vx_ot_at hW0 hvm.symm (hgood w (List.mem_cons_of_mem _ (List.mem_cons_of_mem _ hw))) (hat w hw)
  have hk' : (Cond.classLink own ik cls).before args s' = true := vx_ot_at hW0 hvm.symm (hgood _ List.mem_cons_self) hk
  have hini' : (Cond.initialized cls).before args s' = true := vx_ot_at hW0 hvm.symm (hgood _ (List.mem_cons_of_mem _ List.mem_cons_self)) hini
  have hU' : vx_Zq Bundle.tN "UNASSIGNED_STACK" Bundle.steD A s' s'.heap := by rw [hhp]; exact vx_Zq.moved hW0.alike (hU.kept hS.2.1)
  have hN' : vx_Zq Bundle.tN "SUPPRESSED_SENTINEL" Bundle.listD A s' s'.heap := by rw [hhp]; exact vx_Zq.moved hW0.alike (hN.kept hS.2.1)
  have h : ∀ w ∈ Bundle.ownAtoms own ic cls names, w.before args s' = true := vx_own hat' (vx_isRefq hU'.1) (vx_isRefq hN'.1) hU'.2.word hN'.2.word
  have hown' : s'.vm.findClass own = some m.cls := by rw [hvm]; exact hown
  have hins : (Cond.instantiable cls 6).before args s' = true := h _ (by simp [Bundle.ownAtoms])
  obtain ⟨vm₁, cX, kX, hfX, hkX, -, -, X₁, st1⟩ := Y.newCold hexec (own := own) (C := cls) (index := ik) (n := 6) hown' hk' hins hini'
    (g := F0 m pc ls rest) rfl (by rw [hb]; exact d0) (Nat.le_refl _) (Nat.le_refl _)
  generalize hT1 : (T.setVm vm₁).pushCell { cls := cX, slots := kX.instanceTypes.map defaultValue, vm := .none } = T1 at X₁ st1
  have hcat : (Value.ref T.heap.size).category = 1 := rfl
  have hcellA : T1.heap[T.heap.size]? = some (freshCell cX kX) := by rw [← hT1]; exact State.heap_pushCell_size _ _
  have d3' : decode c.code (pc + 3) = .ok (.dup, 1) := by rw [hb]; exact d3
  have d4' : decode c.code (pc + 4) = .ok (.ldc_w is, 3) := by rw [hb]; exact d4
  have hstr' : vk_R own is text sa s' := vk_R.warm hW0 hstr
  obtain ⟨U, hsteps, hrun, hend, hW, hsame, ce, hce, hO⟩ := X₁.ctorThrowS hexec htr (own := own) (cls := cls) (names := names) (ic := ic) hown' hcls hnames h (fun x hx => nomatch hx) hfX hkX hcellA (by rw [hhp, hT]; exact Nat.le_refl _) (msg := .ref sa) rfl
    (g := { method := m, pc := pc + 7, locals := ls, stack := .ref sa :: .ref T.heap.size :: .ref T.heap.size :: rest, locked := none }) rfl hsize rfl rfl (rest := rest) rfl
    (by rw [hb]; exact d7) (by rw [hb]; exact d10) hout hRframes (by simp only [List.map_cons, List.sum_cons, hcat]; omega) hlocks
  obtain ⟨f1, f2⟩ := vx_frame hsame
  rw [hhp] at f1 f2
  have hWs : s.WarmedH U.vm := State.WarmedH.trans hW0 hW
  have hcl : s.vm.findClass cls = some ce.cls := by
    have h9 := hO.cls
    rw [hvm] at h9
    exact h9
  have hall : s.sameButNew ({ U with vm := s.vm } : State) locs mc ms := by
    subst hA
    obtain ⟨e1, e2⟩ := hsame
    rw [State.setFrames_setFrames] at e1
    have h2 : (T.setVm s.vm).sameButNew ({ U with vm := s.vm } : State) [] (0 + 1) (0 + 6) := ⟨e1, e2⟩
    have h3 := X.same.trans h2
    rw [List.append_nil] at h3
    exact h3.mono hc hs
  refine ⟨U, ?_, .threw T.heap.size, hrun, hend, Or.inr ⟨T.heap.size, rfl, cls, ce, locs, hx U hWs.alike f1 (fun q hq => f2 q hq (fun z hz => nomatch hz)), hce, hO.vm, hcl, hWs, hall, hf⟩⟩
  refine st1 _ ?_
  show Steps p.tables e below (T1.setTop { method := m, pc := pc + 3, locals := ls, stack := .ref T.heap.size :: rest, locked := none }) _
  jvm_step X₁.here [X₁.here.top, hexec, d3', Value.category]
  exact X₁.ldcStringW hexec (own := own) (text := text) (index := is) (a := sa) hown' hstr'.1 hstr'.2
    (g := { method := m, pc := pc + 4, locals := ls, stack := .ref T.heap.size :: .ref T.heap.size :: rest, locked := none }) rfl d4' _ hsteps
end Ends
section Bodies
variable {l : Launch}
theorem vx_ofW {y : MethodName} {ws ws' : List Cond} {rm : Room} {Pc : Array Value → State → Prop} {Qc : Array Value → State → Outcome → State → Prop} {XC : String → State → State → Prop} {mc ms : Nat} {free : Addr → Prop} {cc : ByteArray} {maxL : Nat} {ret : Option FieldType}
    (hy : plainName y.cls = true) (hw : ws = Cond.code y cc maxL ret :: ws')
    (body : ∀ p e s m args below meth c s₁, BodyLoose p l y (headSpec ws rm) cc maxL ret e s m args below meth c s₁ → c.maxLocals = maxL → (∀ x ∈ c.exceptionTable.toList, False) → Pc args s →
      W p l e (headSpec ws rm).room s m args below meth c s.heap [] 0 0 (vx_MQ below Qc XC args s mc ms free) (entryFrame m args maxL)) : vx_Met l y ws rm Pc Qc XC mc ms free := by
  refine MetFree.of_bodyS (code := cc) (maxLocals := maxL) (ret := ret) hy ?_ ?_
  · intro args s m h hn
    obtain ⟨meth, c, h1, h2, h3, h4, h5, h6, -, -⟩ := Cond.code_spec hn (atoms_spec (ws := ws) h _ (by rw [hw]; exact List.mem_cons_self))
    exact ⟨meth, c, h1, h2, h3, h4, h5, h6⟩
  · intro p e s m args below meth c s₁ B hml hP _
    have hh0 : s₁.heap = s.heap := by rw [B.state]; rfl
    have ht : ∀ x ∈ c.exceptionTable.toList, False := by
      obtain ⟨meth9, c9, h1, h2, -, -, -, -, h7, -⟩ := Cond.code_spec B.named (atoms_spec (ws := ws) B.pre _ (by rw [hw]; exact List.mem_cons_self))
      cases Option.some.inj (h1.symm.trans B.method)
      cases Option.some.inj (h2.symm.trans (Stand.of_body B).code)
      intro x hx
      rw [Array.isEmpty_iff.mp h7] at hx
      cases hx
    obtain ⟨t, a1, o, b1, b2, b3⟩ := body p e s m args below meth c s₁ B hml ht hP s₁ hh0 (Stand.of_body B)
    exact ⟨t, o, a1, b1, b2, b3⟩
/-- the table of a body with handlers -/
theorem vx_table {p : Program} {x y : MethodName} {S : Spec} {cc bytes : ByteArray} {maxL maxL' : Nat} {ret ret' : Option FieldType} {e : Env} {s s₁ : State} {m : MethodId} {args : Array Value} {below : List Frame} {meth : Method} {c : Code} {hh : List (Nat × Nat × Nat × Nat)}
    (B : BodyLoose p l y S cc maxL ret e s m args below meth c s₁) (h : (Cond.codeWith y bytes maxL' ret' hh).before args s = true) : c.exceptionTable.toList = tableOf hh := by
  obtain ⟨m9, meth9, c9, hn9, h1, h2, -, -, h6, -⟩ := Cond.codeWith_spec h
  cases Option.some.inj (hn9.symm.trans B.named)
  cases Option.some.inj (h1.symm.trans B.method)
  cases Option.some.inj (h2.symm.trans (Stand.of_body B).code)
  rw [← h6, table_eq]
end Bodies
end VXA
/-! ===== END ===== -/
/-! ===== BEGIN a static call of a method with an exception table ===== -/
section VXS
variable {p : Program} {l : Launch} {e : Env} {R : Room} {s : State} {m : MethodId} {args : Array Value} {below : List Frame} {meth : Method} {c : Code} {T : State} {H : Heap} {locs : List Loc} {cells slots : Nat}
abbrev vx_CSW (R : Room) (s : State) (args : Array Value) (own : String) (index : Nat) (y : MethodName) (bytes : ByteArray) (maxL : Nat) (ret : Option FieldType) (hh : List (Nat × Nat × Nat × Nat)) (ws : List Cond) (rm : Room) (mc ms n : Nat) : Prop :=
  (rm.cells = mc ∧ rm.slots = ms ∧ rm.frames + 1 ≤ R.frames ∧ 8 + (maxL + 11) + rm.locals ≤ R.locals ∧ (∀ w ∈ ws, ∀ (a' : Array Value) (U : State), s.WarmedH U.vm → w.before a' U = true) ∧ Cond.codeWith y bytes maxL ret hh ∈ ws) ∧
  (Cond.codeWith y bytes maxL ret hh).before args s = true ∧ (Cond.initialized y.cls).before args s = true ∧ (y.cls ≠ "java/lang/invoke/MethodHandle" ∧ y.cls ≠ "java/lang/invoke/VarHandle") ∧
  (∀ sig, parseMethodDescriptor y.desc = some sig → n = sig.parameters.length) ∧ (Cond.methodLink own index y).before args s = true ∧ (Cond.static y).before args s = true
theorem vx_cwSW {own : String} {index maxL mc ms : Nat} {y : MethodName} {bytes : ByteArray} {ret : Option FieldType} {hh : List (Nat × Nat × Nat × Nat)} {Ts ws ws' : List Cond} {rm : Room} (n : Nat) (ht : ∀ w ∈ Ts, w.before args s = true) (hT : GoodIn Ts (va_wsS own index y ws)) (hw : ws = Cond.codeWith y bytes maxL ret hh :: ws') (hrc : rm.cells = mc) (hrs : rm.slots = ms)
    (hd : y.cls ≠ "java/lang/invoke/MethodHandle" ∧ y.cls ≠ "java/lang/invoke/VarHandle" ∧ (parseMethodDescriptor y.desc).map (fun d => d.parameters.length) = some n) (hR : rm.frames + 1 ≤ R.frames ∧ 8 + (maxL + 11) + rm.locals ≤ R.locals) :
    vx_CSW R s args own index y bytes maxL ret hh ws rm mc ms n := by
  have ok : ∀ w ∈ va_wsS own index y ws, w.before args s = true := fun w h => ht w (hT w h).1
  have hG : GoodIn Ts ws := fun w h => hT w (by unfold va_wsS; exact List.mem_append_right _ h)
  have hc : Cond.codeWith y bytes maxL ret hh ∈ ws := by rw [hw]; exact List.mem_cons_self
  refine ⟨⟨hrc, hrs, hR.1, hR.2, pay_in ht hG, hc⟩, ht _ (hG _ hc).1, ok _ (by simp [va_wsS]), ⟨hd.1, hd.2.1⟩, fun sig h => ?_, ok _ (by simp [va_wsS]), ok _ (by simp [va_wsS])⟩
  have h2 := hd.2.2
  rw [h] at h2
  exact (Option.some.inj h2).symm
theorem vx_callSW (X : Stand p l e R s m args below meth c T locs cells slots) (hexec : p.tables.exec = Jvm.exec) {own : String} {index : Nat} {y : MethodName} {bytes : ByteArray} {maxL : Nat} {ret : Option FieldType} {hh : List (Nat × Nat × Nat × Nat)}
    (hown : s.vm.findClass own = some m.cls) (hlink : (Cond.methodLink own index y).before args s = true) (hstat : (Cond.static y).before args s = true) (hinit : (Cond.initialized y.cls).before args s = true)
    (hcode : (Cond.codeWith y bytes maxL ret hh).before args s = true) (hy : y.cls ≠ "java/lang/invoke/MethodHandle" ∧ y.cls ≠ "java/lang/invoke/VarHandle")
    {W9 : Nat} {Pre : Pt → Array Value → Prop} {Post : Pt → Array Value → Option Value → Pt → Prop} (hK : Back l R p e below s args y 3 W9 Pre Post)
    {g : JFrame} (hg : g.method = m) (hsize : g.locals.size = c.maxLocals) {argsL rest : List Value} (hlen : ∀ sig, parseMethodDescriptor y.desc = some sig → argsL.length = sig.parameters.length)
    (hstack : g.stack = argsL.reverse ++ rest) (hW : 2 * g.monitorRoom + (rest.map fun v => v.category).sum ≤ W9) (hdg : decode c.code g.pc = .ok (.invokestatic index, 3))
    (hpre : ∀ vm₁, s.WarmedH vm₁ → Pre ⟨T.setVm vm₁, locs, cells, slots⟩ argsL.toArray) :
    ∃ (v : Option Value) (vm₁ : Vm) (B : Pt), s.WarmedH vm₁ ∧ Stand p l e R s m args below meth c B.U B.locs B.cells B.slots ∧ Post ⟨T.setVm vm₁, locs, cells, slots⟩ argsL.toArray v B ∧
      ∀ target, Steps p.tables e below (B.U.setTop { g with pc := g.pc + 3, stack := v.toList ++ rest }) target → Steps p.tables e below (T.setTop g) target := by
  obtain ⟨mk, methM, cM, hnamed, hmethM, -, -, -, -, -, -, hsigM⟩ := Cond.codeWith_spec hcode
  have hstatic : methM.isStatic = true := Cond.static_spec hnamed hmethM hstat
  obtain ⟨kP, hkP, -⟩ := className_of_methodNamed hnamed
  have hinitP : kP.init = .initialized := Cond.initialized_spec (findClass_of_methodNamed hnamed) hkP hinit
  obtain ⟨vm₁, X₁, hstep₁⟩ := X.invokestatic hexec hown hlink hnamed hmethM hstatic hkP hinitP hy (g := g) hg (argsL := argsL) (rest := rest) (hlen _ hsigM) hstack hdg
  obtain ⟨v, B, X', hpost, hsteps⟩ := hK m meth c ⟨T.setVm vm₁, locs, cells, slots⟩ { g with stack := rest } (.invokestatic index) mk argsL.toArray X₁ hg hsize hdg hW (X₁.named hnamed) (hpre vm₁ X₁.warmed)
  exact ⟨v, vm₁, B, X₁.warmed, X', hpost, fun target h => hstep₁ _ fun acts => by rw [doInvoke_state]; exact hsteps.trans h⟩
theorem vx_runSW {y : MethodName} {bytes cc : ByteArray} {maxL nL mc ms n index : Nat} {ret : Option FieldType} {hh : List (Nat × Nat × Nat × Nat)} {ws : List Cond} {rm : Room} {Pc : Array Value → State → Prop} {Qc : Array Value → State → Outcome → State → Prop} {free : Addr → Prop} {Ts : List Cond} {own : String} {As rest : List Value} {g : JFrame}
    (S : CallFix p m c cc nL s args Ts own) (hM : Met l y ws rm Pc Qc mc ms free) (cw : vx_CSW R s args own index y bytes maxL ret hh ws rm mc ms n) (hp : PreS s H Pc As)
    (hg : g.method = m) (hn : As.length = n) (hsize : g.locals.size = nL) (hstack : g.stack = As.reverse ++ rest) (hW : 2 * g.monitorRoom + (rest.map fun v => v.category).sum ≤ 8) (hdg : decode cc g.pc = .ok (.invokestatic index, 3)) (hf : cells + mc ≤ R.cells ∧ slots + ms ≤ R.slots) :
    va_Run p l e R s m args below meth c H locs cells slots mc ms g rest (Qc As.toArray) (free) := by
  obtain ⟨⟨hrc, hrs, hfr, hlo, hws, hcw⟩, hcode, hini, hy, hlen, hl, hstt⟩ := cw
  have hK : Back l R p e below s args y 3 8 (PreOf R mc ms Pc) (PostOf Qc mc ms free) := va_backW (hh := hh) (bytes := bytes) (maxL := maxL) (ret := ret) hM hp.1 hrc hrs hfr hlo hws hcw (fun a' U hW => word_at hW (Or.inl (by first | rfl | simp [Cond.onTables, Cond.keeps, Cond.steady])) hini)
  obtain ⟨hx, hb, hml, ho, -⟩ := S
  intro T hT X
  obtain ⟨v, vm₁, ⟨U', l2, c2, s2⟩, hW₁, X', ⟨g', mk, t, L, e1, e2, hq, h1, hL, h2, h3⟩, st⟩ := vx_callSW X hx (hh := hh) (bytes := bytes) (maxL := maxL) (ret := ret) ho hl hstt hini hcode hy hK hg (hsize.trans hml.symm) (argsL := As) (rest := rest) (fun sig h => hn.trans (hlen sig h)) hstack hW (by rw [hb]; exact hdg)
    (fun vm₁ hW₁ => ⟨hf.1, hf.2, hp.2 (T.setVm vm₁) hT hW₁⟩)
  dsimp only [Pt.U, Pt.locs, Pt.cells, Pt.slots] at X' e1 e2 h1 h2 h3 st
  subst h1; subst h2; subst h3
  exact ⟨v, (T.setVm vm₁).calling g' mk As.toArray, t, U', L, hT, X', hL, e1, e2, hq, st⟩
/-- not caught here, past rows that name other classes: it goes on to the caller -/
theorem vx_outP {p : Program} {l : Launch} {e : Env} {R : Room} {s : State} {m : MethodId} {args : Array Value} {below : List Frame} {meth : Method} {c : Code} {H : Heap} {locs : List Loc} {cells slots : Nat} {free : Addr → Prop} {ls : Array Slot} {rest : List Value} {Qc : Array Value → State → Outcome → State → Prop} {XC : String → State → State → Prop}
    {pc : Nat} {own E : String} {ce : Cell} {q : Addr} {mc ms : Nat} (hown : s.vm.findClass own = some m.cls) (hlocks : meth.locks = false)
    (hpass : ∀ z ∈ c.exceptionTable.toList, covers z pc = false ∨ (z.catchType ≠ 0 ∧ ∃ nm : String, (Cond.classLink own z.catchType nm).before args s = true ∧ va_Nc E nm s)) (hcell : H[q]? = some ce) (hv : ce.vm = .none) (hcl : s.vm.findClass E = some ce.cls)
    (hx : ∀ t : State, t.heap = H → s.vm.Alike t.vm → XC E s t) (hf : ∀ z ∈ locs, free z.base) (hc : cells ≤ mc) (hs : slots ≤ ms) :
    vx_W p l e R s m args below meth c H locs cells slots (vx_MQ below Qc XC args s mc ms free) (F0 m pc ls rest) q := by
  intro T hT X
  have hpl : e.platform.magicAccessors = ({} : Platform).magicAccessors := by rw [X.admits.platform]
  obtain ⟨vm', hW', X', st⟩ := X.outThrough hlocks q (g := F0 m pc ls rest) rfl rfl rfl (cell := ce) (by rw [hT]; exact hcell) (by rw [hv]; rfl)
    (by obtain ⟨k9, h9, -⟩ := Vm.findClass_spec hcl; exact ⟨k9, h9⟩) (fun z hz => by
      rcases hpass z hz with h | ⟨hz0, nm, hl1, hn1⟩
      · exact Or.inl h
      · obtain ⟨c6, hc6, hcl6⟩ := Cond.classLink_spec hown hl1 e.platform hpl
        obtain ⟨a8, b8, h1, h2, h3⟩ := hn1
        cases Option.some.inj (h1.symm.trans hcl)
        cases Option.some.inj (h2.symm.trans hc6)
        exact Or.inr ⟨hz0, _, hcl6, h3⟩)
  obtain ⟨g₀, hfr⟩ := X'.frames_eq
  have hcell9 : ((T.setVm vm').setFrames (.throwing q :: below)).heap[q]? = some ce := by
    show T.heap[q]? = some ce
    rw [hT]; exact hcell
  have hend : Ended ((T.setVm vm').setFrames (.throwing q :: below)) below (.threw q) := State.frames_setFrames _ (State.cur_lt_of_frames hfr)
  refine ⟨(T.setVm vm').setFrames (.throwing q :: below), ?_, .threw q, X'.here.running, hend, Or.inr ⟨q, rfl, E, ce, locs, hx _ hT (X'.ends _).1.alike, hcell9, hv, hcl, (X'.ends _).1, (X'.ends _).2.mono hc hs, hf⟩⟩
  rw [X.pushThrowing_eq]
  exact st
/-- a thing of a world lies in the heap -/
theorem vx_lt {D : va_G} {cl : List vw_C} {ws : va_W} {H1 : Heap} (h : va_P D cl ws H1) {k : Nat} {q : Nat × va_E} (hk : ws[k]? = some q) : q.1 < H1.size := (h k q hk).lt
end VXS
/-! ===== END ===== -/
/-! ===== BEGIN methods with a table of their own: called by a name, returning or throwing ===== -/
section VXH
/-! vx_backW, vx_callVX, vx_callSX, vx_callVW, vx_runVW, vx_runVX, vx_runSX, vx_ofWH follow the same proofs as their sisters above (Free/Laws.lean, Shelf42/LK1.lean); vx_outP calls Shelf42/NT130.lean (outThrough). -/
section
variable {l : Launch} {R : Room} {p : Program} {e : Env} {below : List Frame} {s : State} {sargs : Array Value} {y : MethodName} {len W9 : Nat}
theorem vx_backW {ws : List Cond} {rm : Room} {Pc : Array Value → State → Prop} {Qc : Array Value → State → Outcome → State → Prop} {XC : String → State → State → Prop} {mc ms : Nat} {free : Addr → Prop} {bytes : ByteArray} {maxL : Nat} {ret : Option FieldType} {hh : List (Nat × Nat × Nat × Nat)}
    (hM : vx_Met l y ws rm Pc Qc XC mc ms free) (hblind : FrameBlind Pc) (hrc : rm.cells = mc) (hrs : rm.slots = ms)
    (hframes : rm.frames + 1 ≤ R.frames) (hlocals : W9 + (maxL + 11) + rm.locals ≤ R.locals)
    (hws : ∀ w ∈ ws, ∀ a' U, s.WarmedH U.vm → w.before a' U = true) (hcode : Cond.codeWith y bytes maxL ret hh ∈ ws) (hinit : ∀ a' U, s.WarmedH U.vm → (Cond.initialized y.cls).before a' U = true) :
    vx_Back l R p e below s sargs y len W9 (PreOf R mc ms Pc) (PostOf Qc mc ms free) (vx_Post XC mc ms free) := by
  intro m meth c A g ig mk a X hg hsize hdg hW hn hp
  have h1 : (headSpec ws rm).pre.before a A.U = true := atoms_intro fun w hw => hws w hw _ _ X.warmed
  have h2 : (Cond.codeWith y bytes maxL ret hh).before a A.U = true := hws _ hcode _ _ X.warmed
  have h3 : (Cond.initialized y.cls).before a A.U = true := hinit _ _ X.warmed
  have h4 : A.cells + (headSpec ws rm).room.cells ≤ R.cells := by rw [show (headSpec ws rm).room.cells = mc from hrc]; exact hp.1
  have h5 : A.slots + (headSpec ws rm).room.slots ≤ R.slots := by rw [show (headSpec ws rm).room.slots = ms from hrs]; exact hp.2.1
  have hPc : Pc a (A.U.calling g mk a) := hblind _ _ _ _ hp.2.2
  obtain ⟨U, Ls, c0, s0⟩ := A
  dsimp only [Pt.U, Pt.locs, Pt.cells, Pt.slots] at h1 h2 h3 h4 h5 X hn hPc ⊢
  obtain ⟨m9, methY, cY, hn9, hmY, hcY, -, hlY, -⟩ := Cond.codeWith_spec h2
  cases Option.some.inj (hn9.symm.trans hn)
  obtain ⟨kY, hkY, -⟩ := className_of_methodNamed hn
  have hinitY : kY.init = .initialized := Cond.initialized_spec (findClass_of_methodNamed hn) hkY h3
  have h : At U g.method c below := by rw [hg]; exact X.here
  have hlocals9 : W9 + (maxL + 11) + (headSpec ws rm).room.locals ≤ R.locals := hlocals
  have happ : (headSpec ws rm).appliesLoose y e.platform (U.calling g mk a) = true :=
    Spec.appliesLoose_calling (g := g) h hdg hn hkY hinitY
      (X.room_calling (g := g) (R' := (headSpec ws rm).room) hsize hmY hcY hframes (by rw [hlY]; omega) h4 h5) h1
  obtain ⟨mid, hmid⟩ := h.above
  have hfr : (U.setTop g).frames = (.java g :: mid) ++ below := by rw [State.frames_setTop' g h.top, hmid]; rfl
  obtain ⟨o, s₂, hsteps, -, hend, hq⟩ := Steps.callFree hM p X.admits X.cas X.clock (acts := []) hfr happ hPc trivial
  have hq' : vx_Q Qc XC mc ms free a (U.calling g mk a) o s₂ := hq
  rw [State.frames_setTop' g h.top] at hend
  obtain ⟨g₀, hg0⟩ := Option.isSome_iff_exists.mp h.top
  obtain ⟨r, hr⟩ := State.topJava?_eq_some.mp hg0
  have hr' : (({ U with heap := s₂.heap, slotsUsed := s₂.slotsUsed } : State).setVm s₂.vm).frames = .java g₀ :: r := hr
  rcases hq' with ⟨hqc, L, hfe, hL⟩ | ⟨q, rfl, E, ce, L, hx, hce, hcv, hcl, hW₂, hsm, hL⟩
  · obtain ⟨⟨v, rfl⟩, hW₂, e2, q2, q3, q4, q5, q6⟩ := id hfe
    have e3 : s₂ = ({ (U.calling g mk a).setFrames s₂.frames with heap := s₂.heap, slotsUsed := s₂.slotsUsed } : State).setVm s₂.vm := by
      have : s₂ = ({ s₂ with vm := (U.calling g mk a).vm } : State).setVm s₂.vm := rfl
      rw [e2] at this
      exact this
    obtain ⟨c₂, i₂, len₂, hc₂, hd₂, hf₂⟩ := hend
    have hW' : U.WarmedH s₂.vm := hW₂
    have hcc : c₂ = c := by
      have h1 : s₂.code? g.method = U.code? g.method := by
        rw [State.code?_eq, State.code?_eq, hW'.alike.method?]
      exact Option.some.inj (hc₂.symm.trans (h1.trans h.code))
    subst hcc
    have hlen : len₂ = len := by rw [hdg] at hd₂; cases hd₂; rfl
    subst hlen
    have hs₂ : s₂ = (({ U with heap := s₂.heap, slotsUsed := s₂.slotsUsed } : State).setVm s₂.vm).setTop { g with pc := g.pc + len₂, stack := v.toList ++ g.stack } := by
      refine e3.trans ?_
      rw [hf₂, State.calling_eq h.top, State.setFrames_setFrames, State.setTop_of_frames _ hr', hr]
      rfl
    have hsame : U.sameButNew ({ U with heap := s₂.heap, slotsUsed := s₂.slotsUsed } : State) L mc ms := by
      refine ⟨?_, q2, q3, q4, q5, q6⟩
      obtain ⟨t, ht, -⟩ := State.frames_cons hr
      show ({ U with heap := s₂.heap, slotsUsed := s₂.slotsUsed } : State) = { U.setFrames U.frames with heap := s₂.heap, slotsUsed := s₂.slotsUsed }
      rw [State.setFrames_self ht]
    subst hg
    refine Or.inl ⟨v, ⟨(({ U with heap := s₂.heap, slotsUsed := s₂.slotsUsed } : State).setVm s₂.vm), Ls ++ L, c0 + mc, s0 + ms⟩,
      ⟨X.admits, X.cas, X.clock, X.frames, X.room, X.hears, X.method, X.code, (X.here.setHeapUsed s₂.heap s₂.slotsUsed).setVm hW'.alike, X.tail, State.WarmedH.trans X.warmed hW', X.limits, X.bytes, X.same.trans (hsame.setVm s.vm)⟩,
      ⟨g, mk, s₂, L, rfl, rfl, hqc, rfl, hL, rfl, rfl⟩, ?_⟩
    show Steps p.tables e below _ ((({ U with heap := s₂.heap, slotsUsed := s₂.slotsUsed } : State).setVm s₂.vm).setTop { g with pc := g.pc + len₂, stack := v.toList ++ g.stack })
    rw [← hs₂]
    exact hsteps
  · obtain ⟨e2, q2, q3, q4, q5, q6⟩ := id hsm
    have e3 : s₂ = ({ (U.calling g mk a).setFrames s₂.frames with heap := s₂.heap, slotsUsed := s₂.slotsUsed } : State).setVm s₂.vm := by
      have : s₂ = ({ s₂ with vm := (U.calling g mk a).vm } : State).setVm s₂.vm := rfl
      rw [e2] at this
      exact this
    have hf₂ : s₂.frames = .throwing q :: .java g :: U.frames.tail := hend
    have hW' : U.WarmedH s₂.vm := hW₂
    have hs₂ : s₂ = ((({ U with heap := s₂.heap, slotsUsed := s₂.slotsUsed } : State).setVm s₂.vm).setTop g).pushFrame (.throwing q) := by
      refine e3.trans ?_
      rw [hf₂, State.calling_eq h.top, State.setFrames_setFrames, State.pushFrame, State.frames_setTop _ hr', State.setTop_of_frames _ hr', State.setFrames_setFrames, hr]
      rfl
    have hsame : U.sameButNew ({ U with heap := s₂.heap, slotsUsed := s₂.slotsUsed } : State) L mc ms := by
      refine ⟨?_, q2, q3, q4, q5, q6⟩
      obtain ⟨t, ht, -⟩ := State.frames_cons hr
      show ({ U with heap := s₂.heap, slotsUsed := s₂.slotsUsed } : State) = { U.setFrames U.frames with heap := s₂.heap, slotsUsed := s₂.slotsUsed }
      rw [State.setFrames_self ht]
    subst hg
    refine Or.inr ⟨q, ⟨(({ U with heap := s₂.heap, slotsUsed := s₂.slotsUsed } : State).setVm s₂.vm), Ls ++ L, c0 + mc, s0 + ms⟩,
      ⟨X.admits, X.cas, X.clock, X.frames, X.room, X.hears, X.method, X.code, (X.here.setHeapUsed s₂.heap s₂.slotsUsed).setVm hW'.alike, X.tail, State.WarmedH.trans X.warmed hW', X.limits, X.bytes, X.same.trans (hsame.setVm s.vm)⟩,
      ⟨g, mk, s₂, L, E, ce, rfl, rfl, hx, hce, hcv, hcl, rfl, hL, rfl, rfl⟩, ?_⟩
    show Steps p.tables e below _ (((({ U with heap := s₂.heap, slotsUsed := s₂.slotsUsed } : State).setVm s₂.vm).setTop g).pushFrame (.throwing q))
    rw [← hs₂]
    exact hsteps
end
variable {p : Program} {l : Launch} {e : Env} {R : Room} {s : State} {m : MethodId} {args : Array Value} {below : List Frame} {meth : Method} {c : Code} {T : State} {H : Heap} {locs : List Loc} {cells slots : Nat}
theorem vx_callVX (X : Stand p l e R s m args below meth c T locs cells slots) (hexec : p.tables.exec = Jvm.exec) {own C : String} {index : Nat} {y : MethodName} {bytes : ByteArray} {maxL : Nat} {ret : Option FieldType} {hh : List (Nat × Nat × Nat × Nat)}
    (hown : s.vm.findClass own = some m.cls) (hlink : (Cond.methodLink own index y).before args s = true) (hinst : (Cond.instanceMethod y).before args s = true) (hsel : (Cond.selects C y y).before args s = true)
    (hcode : (Cond.codeWith y bytes maxL ret hh).before args s = true) (hy : y.cls ≠ "java/lang/invoke/MethodHandle" ∧ y.cls ≠ "java/lang/invoke/VarHandle")
    {W9 : Nat} {Pre : Pt → Array Value → Prop} {Post : Pt → Array Value → Option Value → Pt → Prop} {PostX : Pt → Array Value → Addr → Pt → Prop} (hK : vx_Back l R p e below s args y 3 W9 Pre Post PostX)
    {b : Addr} {cellB : Cell} (hcell : T.heap[b]? = some cellB) (hobj : cellB.vm.isStatics = false) (hcls : s.vm.findClass C = some cellB.cls)
    {g : JFrame} (hg : g.method = m) (hsize : g.locals.size = c.maxLocals) {argsL rest : List Value} (hlen : ∀ sig, parseMethodDescriptor y.desc = some sig → argsL.length = sig.parameters.length)
    (hstack : g.stack = argsL.reverse ++ .ref b :: rest) (hW : 2 * g.monitorRoom + (rest.map fun v => v.category).sum ≤ W9) (hdg : decode c.code g.pc = .ok (.invokevirtual index, 3))
    (hpre : ∀ vm₁, s.WarmedH vm₁ → Pre ⟨T.setVm vm₁, locs, cells, slots⟩ (Value.ref b :: argsL).toArray) :
    (∃ (v : Option Value) (vm₁ : Vm) (B : Pt), s.WarmedH vm₁ ∧ Stand p l e R s m args below meth c B.U B.locs B.cells B.slots ∧ Post ⟨T.setVm vm₁, locs, cells, slots⟩ (Value.ref b :: argsL).toArray v B ∧
      ∀ target, Steps p.tables e below (B.U.setTop { g with pc := g.pc + 3, stack := v.toList ++ rest }) target → Steps p.tables e below (T.setTop g) target) ∨
    (∃ (q : Addr) (vm₁ : Vm) (B : Pt), s.WarmedH vm₁ ∧ Stand p l e R s m args below meth c B.U B.locs B.cells B.slots ∧ PostX ⟨T.setVm vm₁, locs, cells, slots⟩ (Value.ref b :: argsL).toArray q B ∧
      Steps p.tables e below (T.setTop g) ((B.U.setTop { g with stack := rest }).pushFrame (.throwing q))) := by
  obtain ⟨mk, methM, hnamed, hmethM, hstM, habM⟩ := Cond.instanceMethod_spec hinst
  obtain ⟨m8, methM', cM, hn8, hmethM', -, -, -, -, -, -, hsigM⟩ := Cond.codeWith_spec hcode
  cases Option.some.inj (hn8.symm.trans hnamed)
  cases hmethM.symm.trans hmethM'
  obtain ⟨c2, r2, m2, q1, q2, q3, q4, kP, hkP, hkPi⟩ := Cond.selects_spec hsel
  cases hcls.symm.trans q1
  cases (State.methodFound?_of_named hnamed hy).symm.trans q2
  cases hnamed.symm.trans q3
  have hselP : selectMethod e.platform s.vm cellB.cls mk = .method mk := by rw [Launch.admits_selectMethod X.admits]; exact q4
  obtain ⟨vm₁, X₁, hstep₁⟩ := X.invokevirtual hexec hown hlink hnamed hmethM hstM hkP hkPi hy (a := b) (cell := cellB) hcell
    (fun z h => by rw [h] at hobj; cases hobj) hselP hmethM habM hkP hkPi (g := g) hg (argsL := argsL) (rest := rest) (hlen _ hsigM) hstack hdg
  rcases hK m meth c ⟨T.setVm vm₁, locs, cells, slots⟩ { g with stack := rest } (.invokevirtual index) mk (Value.ref b :: argsL).toArray X₁ hg hsize hdg hW (X₁.named hnamed) (hpre vm₁ X₁.warmed) with ⟨v, B, X', hpost, hsteps⟩ | ⟨q, B, X', hpost, hsteps⟩
  · exact Or.inl ⟨v, vm₁, B, X₁.warmed, X', hpost, fun target h => hstep₁ _ fun acts => by rw [doInvoke_state]; exact hsteps.trans h⟩
  · exact Or.inr ⟨q, vm₁, B, X₁.warmed, X', hpost, hstep₁ _ fun acts => by rw [doInvoke_state]; exact hsteps⟩
theorem vx_callSX (X : Stand p l e R s m args below meth c T locs cells slots) (hexec : p.tables.exec = Jvm.exec) {own : String} {index : Nat} {y : MethodName} {bytes : ByteArray} {maxL : Nat} {ret : Option FieldType} {hh : List (Nat × Nat × Nat × Nat)}
    (hown : s.vm.findClass own = some m.cls) (hlink : (Cond.methodLink own index y).before args s = true) (hstat : (Cond.static y).before args s = true) (hinit : (Cond.initialized y.cls).before args s = true)
    (hcode : (Cond.codeWith y bytes maxL ret hh).before args s = true) (hy : y.cls ≠ "java/lang/invoke/MethodHandle" ∧ y.cls ≠ "java/lang/invoke/VarHandle")
    {W9 : Nat} {Pre : Pt → Array Value → Prop} {Post : Pt → Array Value → Option Value → Pt → Prop} {PostX : Pt → Array Value → Addr → Pt → Prop} (hK : vx_Back l R p e below s args y 3 W9 Pre Post PostX)
    {g : JFrame} (hg : g.method = m) (hsize : g.locals.size = c.maxLocals) {argsL rest : List Value} (hlen : ∀ sig, parseMethodDescriptor y.desc = some sig → argsL.length = sig.parameters.length)
    (hstack : g.stack = argsL.reverse ++ rest) (hW : 2 * g.monitorRoom + (rest.map fun v => v.category).sum ≤ W9) (hdg : decode c.code g.pc = .ok (.invokestatic index, 3))
    (hpre : ∀ vm₁, s.WarmedH vm₁ → Pre ⟨T.setVm vm₁, locs, cells, slots⟩ argsL.toArray) :
    (∃ (v : Option Value) (vm₁ : Vm) (B : Pt), s.WarmedH vm₁ ∧ Stand p l e R s m args below meth c B.U B.locs B.cells B.slots ∧ Post ⟨T.setVm vm₁, locs, cells, slots⟩ argsL.toArray v B ∧
      ∀ target, Steps p.tables e below (B.U.setTop { g with pc := g.pc + 3, stack := v.toList ++ rest }) target → Steps p.tables e below (T.setTop g) target) ∨
    (∃ (q : Addr) (vm₁ : Vm) (B : Pt), s.WarmedH vm₁ ∧ Stand p l e R s m args below meth c B.U B.locs B.cells B.slots ∧ PostX ⟨T.setVm vm₁, locs, cells, slots⟩ argsL.toArray q B ∧
      Steps p.tables e below (T.setTop g) ((B.U.setTop { g with stack := rest }).pushFrame (.throwing q))) := by
  obtain ⟨mk, methM, cM, hnamed, hmethM, -, -, -, -, -, -, hsigM⟩ := Cond.codeWith_spec hcode
  have hstatic : methM.isStatic = true := Cond.static_spec hnamed hmethM hstat
  obtain ⟨kP, hkP, -⟩ := className_of_methodNamed hnamed
  have hinitP : kP.init = .initialized := Cond.initialized_spec (findClass_of_methodNamed hnamed) hkP hinit
  obtain ⟨vm₁, X₁, hstep₁⟩ := X.invokestatic hexec hown hlink hnamed hmethM hstatic hkP hinitP hy (g := g) hg (argsL := argsL) (rest := rest) (hlen _ hsigM) hstack hdg
  rcases hK m meth c ⟨T.setVm vm₁, locs, cells, slots⟩ { g with stack := rest } (.invokestatic index) mk argsL.toArray X₁ hg hsize hdg hW (X₁.named hnamed) (hpre vm₁ X₁.warmed) with ⟨v, B, X', hpost, hsteps⟩ | ⟨q, B, X', hpost, hsteps⟩
  · exact Or.inl ⟨v, vm₁, B, X₁.warmed, X', hpost, fun target h => hstep₁ _ fun acts => by rw [doInvoke_state]; exact hsteps.trans h⟩
  · exact Or.inr ⟨q, vm₁, B, X₁.warmed, X', hpost, hstep₁ _ fun acts => by rw [doInvoke_state]; exact hsteps⟩
theorem vx_callVW (X : Stand p l e R s m args below meth c T locs cells slots) (hexec : p.tables.exec = Jvm.exec) {own C : String} {index : Nat} {y : MethodName} {bytes : ByteArray} {maxL : Nat} {ret : Option FieldType} {hh : List (Nat × Nat × Nat × Nat)}
    (hown : s.vm.findClass own = some m.cls) (hlink : (Cond.methodLink own index y).before args s = true) (hinst : (Cond.instanceMethod y).before args s = true) (hsel : (Cond.selects C y y).before args s = true)
    (hcode : (Cond.codeWith y bytes maxL ret hh).before args s = true) (hy : y.cls ≠ "java/lang/invoke/MethodHandle" ∧ y.cls ≠ "java/lang/invoke/VarHandle")
    {W9 : Nat} {Pre : Pt → Array Value → Prop} {Post : Pt → Array Value → Option Value → Pt → Prop} (hK : Back l R p e below s args y 3 W9 Pre Post)
    {b : Addr} {cellB : Cell} (hcell : T.heap[b]? = some cellB) (hobj : cellB.vm.isStatics = false) (hcls : s.vm.findClass C = some cellB.cls)
    {g : JFrame} (hg : g.method = m) (hsize : g.locals.size = c.maxLocals) {argsL rest : List Value} (hlen : ∀ sig, parseMethodDescriptor y.desc = some sig → argsL.length = sig.parameters.length)
    (hstack : g.stack = argsL.reverse ++ .ref b :: rest) (hW : 2 * g.monitorRoom + (rest.map fun v => v.category).sum ≤ W9) (hdg : decode c.code g.pc = .ok (.invokevirtual index, 3))
    (hpre : ∀ vm₁, s.WarmedH vm₁ → Pre ⟨T.setVm vm₁, locs, cells, slots⟩ (Value.ref b :: argsL).toArray) :
    ∃ (v : Option Value) (vm₁ : Vm) (B : Pt), s.WarmedH vm₁ ∧ Stand p l e R s m args below meth c B.U B.locs B.cells B.slots ∧ Post ⟨T.setVm vm₁, locs, cells, slots⟩ (Value.ref b :: argsL).toArray v B ∧
      ∀ target, Steps p.tables e below (B.U.setTop { g with pc := g.pc + 3, stack := v.toList ++ rest }) target → Steps p.tables e below (T.setTop g) target := by
  obtain ⟨mk, methM, hnamed, hmethM, hstM, habM⟩ := Cond.instanceMethod_spec hinst
  obtain ⟨m8, methM', cM, hn8, hmethM', -, -, -, -, -, -, hsigM⟩ := Cond.codeWith_spec hcode
  cases Option.some.inj (hn8.symm.trans hnamed)
  cases hmethM.symm.trans hmethM'
  obtain ⟨c2, r2, m2, q1, q2, q3, q4, kP, hkP, hkPi⟩ := Cond.selects_spec hsel
  cases hcls.symm.trans q1
  cases (State.methodFound?_of_named hnamed hy).symm.trans q2
  cases hnamed.symm.trans q3
  have hselP : selectMethod e.platform s.vm cellB.cls mk = .method mk := by rw [Launch.admits_selectMethod X.admits]; exact q4
  obtain ⟨vm₁, X₁, hstep₁⟩ := X.invokevirtual hexec hown hlink hnamed hmethM hstM hkP hkPi hy (a := b) (cell := cellB) hcell
    (fun z h => by rw [h] at hobj; cases hobj) hselP hmethM habM hkP hkPi (g := g) hg (argsL := argsL) (rest := rest) (hlen _ hsigM) hstack hdg
  obtain ⟨v, B, X', hpost, hsteps⟩ := hK m meth c ⟨T.setVm vm₁, locs, cells, slots⟩ { g with stack := rest } (.invokevirtual index) mk (Value.ref b :: argsL).toArray X₁ hg hsize hdg hW (X₁.named hnamed) (hpre vm₁ X₁.warmed)
  exact ⟨v, vm₁, B, X₁.warmed, X', hpost, fun target h => hstep₁ _ fun acts => by rw [doInvoke_state]; exact hsteps.trans h⟩
abbrev vx_CVW (R : Room) (s : State) (args : Array Value) (own C : String) (index : Nat) (y : MethodName) (bytes : ByteArray) (maxL : Nat) (ret : Option FieldType) (hh : List (Nat × Nat × Nat × Nat)) (ws : List Cond) (rm : Room) (mc ms n : Nat) : Prop :=
  (rm.cells = mc ∧ rm.slots = ms ∧ rm.frames + 1 ≤ R.frames ∧ 8 + (maxL + 11) + rm.locals ≤ R.locals ∧ (∀ w ∈ ws, ∀ (a' : Array Value) (U : State), s.WarmedH U.vm → w.before a' U = true) ∧ Cond.codeWith y bytes maxL ret hh ∈ ws) ∧
  (Cond.codeWith y bytes maxL ret hh).before args s = true ∧ (Cond.initialized y.cls).before args s = true ∧ (y.cls ≠ "java/lang/invoke/MethodHandle" ∧ y.cls ≠ "java/lang/invoke/VarHandle") ∧
  (∀ sig, parseMethodDescriptor y.desc = some sig → n = sig.parameters.length) ∧ (Cond.methodLink own index y).before args s = true ∧ (Cond.instanceMethod y).before args s = true ∧ (Cond.selects C y y).before args s = true
theorem vx_cwVW {own C : String} {index maxL mc ms : Nat} {y : MethodName} {bytes : ByteArray} {ret : Option FieldType} {hh : List (Nat × Nat × Nat × Nat)} {Ts ws ws' : List Cond} {rm : Room} (n : Nat) (ht : ∀ w ∈ Ts, w.before args s = true) (hT : GoodIn Ts (wsV own index C y ws)) (hw : ws = Cond.codeWith y bytes maxL ret hh :: ws') (hrc : rm.cells = mc) (hrs : rm.slots = ms)
    (hd : y.cls = C ∧ y.cls ≠ "java/lang/invoke/MethodHandle" ∧ y.cls ≠ "java/lang/invoke/VarHandle" ∧ (parseMethodDescriptor y.desc).map (fun d => d.parameters.length) = some n) (hR : rm.frames + 1 ≤ R.frames ∧ 8 + (maxL + 11) + rm.locals ≤ R.locals) :
    vx_CVW R s args own C index y bytes maxL ret hh ws rm mc ms n := by
  obtain ⟨hC, hd⟩ := hd
  subst hC
  have ok : ∀ w ∈ wsV own index y.cls y ws, w.before args s = true := fun w h => ht w (hT w h).1
  have hG : GoodIn Ts ws := fun w h => hT w (by unfold wsV; exact List.mem_append_right _ h)
  have hc : Cond.codeWith y bytes maxL ret hh ∈ ws := by rw [hw]; exact List.mem_cons_self
  refine ⟨⟨hrc, hrs, hR.1, hR.2, pay_in ht hG, hc⟩, ht _ (hG _ hc).1, ok _ (by simp [wsV]), ⟨hd.1, hd.2.1⟩, fun sig h => ?_, ok _ (by simp [wsV]), ok _ (by simp [wsV]), ok _ (by simp [wsV])⟩
  have h2 := hd.2.2
  rw [h] at h2
  exact (Option.some.inj h2).symm
theorem vx_runVW {y : MethodName} {bytes cc : ByteArray} {maxL nL mc ms n index : Nat} {ret : Option FieldType} {hh : List (Nat × Nat × Nat × Nat)} {ws : List Cond} {rm : Room} {Pc : Array Value → State → Prop} {Qc : Array Value → State → Outcome → State → Prop} {free : Addr → Prop} {Ts : List Cond} {own C : String} {b : Addr} {As rest : List Value} {g : JFrame}
    (S : CallFix p m c cc nL s args Ts own) (hM : Met l y ws rm Pc Qc mc ms free) (cw : vx_CVW R s args own C index y bytes maxL ret hh ws rm mc ms n) (hp : PreV s H C b Pc As)
    (hg : g.method = m) (hn : As.length = n) (hsize : g.locals.size = nL) (hstack : g.stack = As.reverse ++ .ref b :: rest) (hW : 2 * g.monitorRoom + (rest.map fun v => v.category).sum ≤ 8) (hdg : decode cc g.pc = .ok (.invokevirtual index, 3)) (hf : cells + mc ≤ R.cells ∧ slots + ms ≤ R.slots) :
    va_Run p l e R s m args below meth c H locs cells slots mc ms g rest (Qc (Value.ref b :: As).toArray) free := by
  obtain ⟨⟨hrc, hrs, hfr, hlo, hws, hcw⟩, hcode, hini, hy, hlen, hl, hin, hse⟩ := cw
  have hK : Back l R p e below s args y 3 8 (PreOf R mc ms Pc) (PostOf Qc mc ms free) := va_backW (hh := hh) (bytes := bytes) (maxL := maxL) (ret := ret) hM hp.1 hrc hrs hfr hlo hws hcw (fun a' U hW => word_at hW (Or.inl (by first | rfl | simp [Cond.onTables, Cond.keeps, Cond.steady])) hini)
  obtain ⟨hx, hb, hml, ho, -⟩ := S
  obtain ⟨-, ⟨cellB, hcB, hoB, hclB⟩, hPc⟩ := hp
  intro T hT X
  obtain ⟨v, vm₁, ⟨U', l2, c2, s2⟩, hW₁, X', ⟨g', mk, t, L, e1, e2, hq, h1, hL, h2, h3⟩, st⟩ := vx_callVW X hx (C := C) (hh := hh) (bytes := bytes) (maxL := maxL) (ret := ret) ho hl hin hse hcode hy hK (by rw [hT]; exact hcB) hoB hclB hg (hsize.trans hml.symm) (argsL := As) (rest := rest) (fun sig h => hn.trans (hlen sig h)) hstack hW (by rw [hb]; exact hdg)
    (fun vm₁ hW₁ => ⟨hf.1, hf.2, hPc (T.setVm vm₁) hT hW₁⟩)
  dsimp only [Pt.U, Pt.locs, Pt.cells, Pt.slots] at X' e1 e2 h1 h2 h3 st
  subst h1; subst h2; subst h3
  exact ⟨v, (T.setVm vm₁).calling g' mk (Value.ref b :: As).toArray, t, U', L, hT, X', hL, e1, e2, hq, st⟩
section
variable {y : MethodName} {bytes cc : ByteArray} {maxL nL mc ms n index : Nat} {ret : Option FieldType} {ws : List Cond} {rm : Room} {Pc : Array Value → State → Prop} {Qc : Array Value → State → Outcome → State → Prop} {XC : String → State → State → Prop} {free : Addr → Prop} {Ts : List Cond} {own C : String} {b : Addr} {As rest : List Value} {g : JFrame}
theorem vx_runVX {hh : List (Nat × Nat × Nat × Nat)} (S : CallFix p m c cc nL s args Ts own) (hM : vx_Met l y ws rm Pc Qc XC mc ms free) (cw : vx_CVW R s args own C index y bytes maxL ret hh ws rm mc ms n) (hp : PreV s H C b Pc As)
    (hg : g.method = m) (hn : As.length = n) (hsize : g.locals.size = nL) (hstack : g.stack = As.reverse ++ .ref b :: rest) (hW : 2 * g.monitorRoom + (rest.map fun v => v.category).sum ≤ 8) (hdg : decode cc g.pc = .ok (.invokevirtual index, 3)) (hf : cells + mc ≤ R.cells ∧ slots + ms ≤ R.slots) :
    vx_Run p l e R s m args below meth c H locs cells slots mc ms g rest (Qc (Value.ref b :: As).toArray) XC free := by
  obtain ⟨⟨hrc, hrs, hfr, hlo, hws, hcw⟩, hcode, hini, hy, hlen, hl, hin, hse⟩ := cw
  have hK : vx_Back l R p e below s args y 3 8 (PreOf R mc ms Pc) (PostOf Qc mc ms free) (vx_Post XC mc ms free) := vx_backW (hh := hh) (bytes := bytes) (maxL := maxL) (ret := ret) hM hp.1 hrc hrs hfr hlo hws hcw (fun a' U hW => word_at hW (Or.inl (by first | rfl | simp [Cond.onTables, Cond.keeps, Cond.steady])) hini)
  obtain ⟨hx, hb, hml, ho, -⟩ := S
  obtain ⟨-, ⟨cellB, hcB, hoB, hclB⟩, hPc⟩ := hp
  intro T hT X
  rcases vx_callVX X hx (C := C) (hh := hh) (bytes := bytes) (maxL := maxL) (ret := ret) ho hl hin hse hcode hy hK (by rw [hT]; exact hcB) hoB hclB hg (hsize.trans hml.symm) (argsL := As) (rest := rest) (fun sig h => hn.trans (hlen sig h)) hstack hW (by rw [hb]; exact hdg)
    (fun vm₁ hW₁ => ⟨hf.1, hf.2, hPc (T.setVm vm₁) hT hW₁⟩) with ⟨v, vm₁, ⟨U', l2, c2, s2⟩, hW₁, X', ⟨g', mk, t, L, e1, e2, hq, h1, hL, h2, h3⟩, st⟩ | ⟨q, vm₁, ⟨U', l2, c2, s2⟩, hW₁, X', ⟨g', mk, t, L, E, ce, e1, e2, hq, hce, hcv, hcl, h1, hL, h2, h3⟩, st⟩
  · dsimp only [Pt.U, Pt.locs, Pt.cells, Pt.slots] at X' e1 e2 h1 h2 h3 st
    subst h1; subst h2; subst h3
    exact Or.inl ⟨v, (T.setVm vm₁).calling g' mk (Value.ref b :: As).toArray, t, U', L, hT, X', hL, e1, e2, hq, st⟩
  · dsimp only [Pt.U, Pt.locs, Pt.cells, Pt.slots] at X' e1 e2 h1 h2 h3 st hcl
    subst h1; subst h2; subst h3
    exact Or.inr ⟨q, (T.setVm vm₁).calling g' mk (Value.ref b :: As).toArray, t, U', L, E, ce, hT, X', hL, e1, e2, hq, hce, hcv, vx_cls hW₁ hcl, st⟩
theorem vx_runSX {hh : List (Nat × Nat × Nat × Nat)} (S : CallFix p m c cc nL s args Ts own) (hM : vx_Met l y ws rm Pc Qc XC mc ms free) (cw : vx_CSW R s args own index y bytes maxL ret hh ws rm mc ms n) (hp : PreS s H Pc As)
    (hg : g.method = m) (hn : As.length = n) (hsize : g.locals.size = nL) (hstack : g.stack = As.reverse ++ rest) (hW : 2 * g.monitorRoom + (rest.map fun v => v.category).sum ≤ 8) (hdg : decode cc g.pc = .ok (.invokestatic index, 3)) (hf : cells + mc ≤ R.cells ∧ slots + ms ≤ R.slots) :
    vx_Run p l e R s m args below meth c H locs cells slots mc ms g rest (Qc As.toArray) XC free := by
  obtain ⟨⟨hrc, hrs, hfr, hlo, hws, hcw⟩, hcode, hini, hy, hlen, hl, hstt⟩ := cw
  have hK : vx_Back l R p e below s args y 3 8 (PreOf R mc ms Pc) (PostOf Qc mc ms free) (vx_Post XC mc ms free) := vx_backW (hh := hh) (bytes := bytes) (maxL := maxL) (ret := ret) hM hp.1 hrc hrs hfr hlo hws hcw (fun a' U hW => word_at hW (Or.inl (by first | rfl | simp [Cond.onTables, Cond.keeps, Cond.steady])) hini)
  obtain ⟨hx, hb, hml, ho, -⟩ := S
  intro T hT X
  rcases vx_callSX X hx (hh := hh) (bytes := bytes) (maxL := maxL) (ret := ret) ho hl hstt hini hcode hy hK hg (hsize.trans hml.symm) (argsL := As) (rest := rest) (fun sig h => hn.trans (hlen sig h)) hstack hW (by rw [hb]; exact hdg)
    (fun vm₁ hW₁ => ⟨hf.1, hf.2, hp.2 (T.setVm vm₁) hT hW₁⟩) with ⟨v, vm₁, ⟨U', l2, c2, s2⟩, hW₁, X', ⟨g', mk, t, L, e1, e2, hq, h1, hL, h2, h3⟩, st⟩ | ⟨q, vm₁, ⟨U', l2, c2, s2⟩, hW₁, X', ⟨g', mk, t, L, E, ce, e1, e2, hq, hce, hcv, hcl, h1, hL, h2, h3⟩, st⟩
  · dsimp only [Pt.U, Pt.locs, Pt.cells, Pt.slots] at X' e1 e2 h1 h2 h3 st
    subst h1; subst h2; subst h3
    exact Or.inl ⟨v, (T.setVm vm₁).calling g' mk As.toArray, t, U', L, hT, X', hL, e1, e2, hq, st⟩
  · dsimp only [Pt.U, Pt.locs, Pt.cells, Pt.slots] at X' e1 e2 h1 h2 h3 st hcl
    subst h1; subst h2; subst h3
    exact Or.inr ⟨q, (T.setVm vm₁).calling g' mk As.toArray, t, U', L, E, ce, hT, X', hL, e1, e2, hq, hce, hcv, vx_cls hW₁ hcl, st⟩
end
end VXH
theorem vx_ofWH {l : Launch} {y : MethodName} {ws ws' : List Cond} {rm : Room} {Pc : Array Value → State → Prop} {Qc : Array Value → State → Outcome → State → Prop} {XC : String → State → State → Prop} {mc ms : Nat} {free : Addr → Prop} {cc : ByteArray} {maxL : Nat} {ret : Option FieldType} {hh : List (Nat × Nat × Nat × Nat)}
    (hy : plainName y.cls = true) (hw : ws = Cond.codeWith y cc maxL ret hh :: ws')
    (body : ∀ p e s m args below meth c s₁, BodyLoose p l y (headSpec ws rm) cc maxL ret e s m args below meth c s₁ → c.maxLocals = maxL → Pc args s →
      W p l e (headSpec ws rm).room s m args below meth c s.heap [] 0 0 (vx_MQ below Qc XC args s mc ms free) (entryFrame m args maxL)) : vx_Met l y ws rm Pc Qc XC mc ms free := by
  refine MetFree.of_bodyS (code := cc) (maxLocals := maxL) (ret := ret) hy ?_ ?_
  · intro args s m h hn
    obtain ⟨m9, meth, c, hn9, h1, h2, h3, h4, -, h5, h6, -⟩ := Cond.codeWith_spec (atoms_spec (ws := ws) h _ (by rw [hw]; exact List.mem_cons_self))
    cases hn.symm.trans hn9
    exact ⟨meth, c, h1, h2, h3, h4, h5, h6⟩
  · intro p e s m args below meth c s₁ B hml hP _
    have hh0 : s₁.heap = s.heap := by rw [B.state]; rfl
    obtain ⟨t, a1, o, b1, b2, b3⟩ := body p e s m args below meth c s₁ B hml hP s₁ hh0 (Stand.of_body B)
    exact ⟨t, o, a1, b1, b2, b3⟩
/-! ===== END ===== -/
end
section
/-! ===== numbers and bits: sets of small numbers as Nats ===== -/
theorem zb_and (a b : Nat) : nI a &&& nI b = nI (a &&& b) := by
  apply Int32.toBitVec_inj.1
  show BitVec.ofNat 32 a &&& BitVec.ofNat 32 b = BitVec.ofNat 32 (a &&& b)
  apply BitVec.eq_of_getLsbD_eq
  intro i hi
  simp [hi]
theorem zb_or (a b : Nat) : nI a ||| nI b = nI (a ||| b) := by
  apply Int32.toBitVec_inj.1
  show BitVec.ofNat 32 a ||| BitVec.ofNat 32 b = BitVec.ofNat 32 (a ||| b)
  apply BitVec.eq_of_getLsbD_eq
  intro i hi
  simp [hi]
/-- the bits of a that b has not -/
def zd (a b : Nat) : Nat := a ^^^ (a &&& b)
theorem zd_bit (a b i : Nat) : (zd a b).testBit i = (a.testBit i && !b.testBit i) := by
  unfold zd
  rw [Nat.testBit_xor, Nat.testBit_and]
  cases a.testBit i <;> cases b.testBit i <;> rfl
theorem zb_m1 : ∀ i, i < 32 → (-1 : Int32).toBitVec.getLsbD i = true := by decide +kernel
theorem zb_nand (a b : Nat) : nI a &&& (nI b ^^^ (-1)) = nI (zd a b) := by
  apply Int32.toBitVec_inj.1
  apply BitVec.eq_of_getLsbD_eq
  intro i hi
  rw [Int32.toBitVec_and, Int32.toBitVec_xor, BitVec.getLsbD_and, BitVec.getLsbD_xor, zb_m1 i hi]
  show ((BitVec.ofNat 32 a).getLsbD i && ((BitVec.ofNat 32 b).getLsbD i ^^ true)) = (BitVec.ofNat 32 (zd a b)).getLsbD i
  rw [BitVec.getLsbD_ofNat, BitVec.getLsbD_ofNat, BitVec.getLsbD_ofNat, zd_bit]
  simp [hi]
theorem zb_not (b : Nat) : (nI b ^^^ (-1)) = nI (zd 4294967295 b) := by
  rw [← zb_nand]
  apply Int32.toBitVec_inj.1
  apply BitVec.eq_of_getLsbD_eq
  intro i hi
  have h1 : (nI 4294967295).toBitVec.getLsbD i = true := (by decide +kernel : ∀ i, i < 32 → (nI 4294967295).toBitVec.getLsbD i = true) i hi
  rw [Int32.toBitVec_and, BitVec.getLsbD_and, h1, Bool.true_and]
theorem zb_shl1 : ∀ j, j < 31 → (1 : Int32) <<< (nI j &&& 31) = nI (2 ^ j) := by decide +kernel
theorem zb_sl : ∀ n, n < 32 → ((nI n &&& 31).toBitVec.smod 32).toNat = n := by decide +kernel
theorem zb_bit {a j : Nat} (ha : a < 2 ^ 31) (hj : j < 32) : (nI a >>> (nI j &&& 31)) &&& 1 = 0 ↔ a.testBit j = false := by
  rw [pk_shrN ha _ j (zb_sl j hj), show (1 : Int32) = nI 1 from rfl, zb_and, Nat.and_one_is_mod, ← nI_0, nI_eq (by omega) (by omega), Nat.testBit_eq_decide_div_mod_eq, decide_eq_false_iff_not]
  generalize a / 2 ^ j = z
  omega
theorem zb_eq0 {a : Nat} (ha : a < 2 ^ 31) : nI a = 0 ↔ a = 0 := by
  rw [← nI_0, nI_eq ha (by omega)]
theorem zb_low : ∀ s, s < 256 → nI s &&& (-nI s) = nI (s &&& (256 - s)) := by decide +kernel
theorem zb_or_lt {a b k : Nat} (ha : a < 2 ^ k) (hb : b < 2 ^ k) : a ||| b < 2 ^ k := Nat.or_lt_two_pow ha hb
theorem zd_le (a b : Nat) : zd a b ≤ a := by
  have h : zd a b = zd a b &&& a := by
    apply Nat.eq_of_testBit_eq
    intro i
    rw [Nat.testBit_and, zd_bit]
    cases a.testBit i <;> simp
  rw [h]
  exact Nat.and_le_right
theorem zd_eq0 {a b : Nat} : zd a b = 0 ↔ ∀ i, a.testBit i = true → b.testBit i = true := by
  constructor
  · intro h i ha
    have h1 := zd_bit a b i
    rw [h, Nat.zero_testBit, ha] at h1
    cases hb : b.testBit i with
    | true => rfl
    | false => rw [hb] at h1; simp at h1
  · intro h
    apply Nat.eq_of_testBit_eq
    intro i
    rw [zd_bit, Nat.zero_testBit]
    cases ha : a.testBit i with
    | true => rw [h i ha]; rfl
    | false => rfl
/-- the numbers below n that P holds of, as bits -/
def zset (P : Nat → Bool) : Nat → Nat
  | 0 => 0
  | n + 1 => bif P n then zset P n ||| 2 ^ n else zset P n
theorem zset_bit (P : Nat → Bool) : ∀ n i, (zset P n).testBit i = (decide (i < n) && P i)
  | 0, i => by simp [zset]
  | n + 1, i => by
    unfold zset
    cases hp : P n with
    | true =>
      rw [cond_true, Nat.testBit_or, zset_bit P n i, Nat.testBit_two_pow]
      by_cases h : n = i
      · subst h; simp [hp]
      · have h1 : decide (i < n) = decide (i < n + 1) := by simp; omega
        simp [h, h1]
    | false =>
      rw [cond_false, zset_bit P n i]
      by_cases h : n = i
      · subst h; simp [hp]
      · have h1 : decide (i < n) = decide (i < n + 1) := by simp; omega
        rw [h1]
theorem zset_lt (P : Nat → Bool) : ∀ n, zset P n < 2 ^ n
  | 0 => by simp [zset]
  | n + 1 => by
    unfold zset
    have h := zset_lt P n
    have h2 : 2 ^ (n + 1) = 2 * 2 ^ n := by rw [Nat.pow_succ]; omega
    cases P n with
    | true => exact Nat.or_lt_two_pow (by omega) (by omega)
    | false => show zset P n < _; omega
theorem zset_cg {P P2 : Nat → Bool} : ∀ n, (∀ j, j < n → P j = P2 j) → zset P n = zset P2 n
  | 0, _ => rfl
  | n + 1, h => by
    unfold zset
    rw [h n (by omega), zset_cg n (fun j hj => h j (by omega))]
/-- the sum over the numbers below n that are bits of a -/
def zsum (f : Nat → Nat) (a : Nat) : Nat → Nat
  | 0 => 0
  | n + 1 => bif a.testBit n then zsum f a n + f n else zsum f a n
theorem zsum_le {f : Nat → Nat} {M : Nat} (a : Nat) : ∀ n, (∀ j, j < n → f j ≤ M) → zsum f a n ≤ n * M
  | 0, _ => by simp [zsum]
  | n + 1, h => by
    unfold zsum
    have h1 := zsum_le (f := f) (M := M) a n (fun j hj => h j (by omega))
    have h2 := h n (by omega)
    rw [Nat.succ_mul]
    cases a.testBit n with
    | true => exact Nat.add_le_add h1 h2
    | false => exact Nat.le_trans h1 (Nat.le_add_right _ _)
/-- the bits of the f j of the numbers below n that are bits of a, one for one -/
def zuni (f : Nat → Nat) (a : Nat) : Nat → Nat
  | 0 => 0
  | n + 1 => bif a.testBit n then zuni f a n ||| f n else zuni f a n
theorem zuni_lt {f : Nat → Nat} {k : Nat} (a : Nat) : ∀ n, (∀ j, j < n → f j < 2 ^ k) → zuni f a n < 2 ^ k
  | 0, _ => by simpa [zuni] using Nat.two_pow_pos k
  | n + 1, h => by
    unfold zuni
    have h1 := zuni_lt (f := f) (k := k) a n (fun j hj => h j (by omega))
    cases a.testBit n with
    | true => exact Nat.or_lt_two_pow h1 (h n (by omega))
    | false => exact h1
/-- whether one below n has P -/
def zany (P : Nat → Bool) : Nat → Bool
  | 0 => false
  | n + 1 => zany P n || P n
theorem zany_iff (P : Nat → Bool) : ∀ n, zany P n = true ↔ ∃ j, j < n ∧ P j = true
  | 0 => by simp [zany]
  | n + 1 => by
    unfold zany
    rw [Bool.or_eq_true, zany_iff P n]
    constructor
    · rintro (⟨j, h1, h2⟩ | h)
      · exact ⟨j, by omega, h2⟩
      · exact ⟨n, by omega, h⟩
    · rintro ⟨j, h1, h2⟩
      by_cases hj : j = n
      · subst hj; exact Or.inr h2
      · exact Or.inl ⟨j, by omega, h2⟩
theorem zany_f {P : Nat → Bool} {n : Nat} (h : ∀ j, j < n → P j = false) : zany P n = false := by
  cases hz : zany P n with
  | false => rfl
  | true =>
    obtain ⟨j, h1, h2⟩ := (zany_iff P n).mp hz
    rw [h j h1] at h2
    cases h2
theorem zany_t {P : Nat → Bool} {n j : Nat} (h : j < n) (hj : P j = true) : zany P n = true := (zany_iff P n).mpr ⟨j, h, hj⟩
/-- a store, by numbers -/
def zu (f : Nat → Nat) (k v : Nat) : Nat → Nat := fun j => if j = k then v else f j
theorem zu_s {f : Nat → Nat} {k v : Nat} : zu f k v k = v := if_pos rfl
theorem zu_n {f : Nat → Nat} {k v j : Nat} (h : j ≠ k) : zu f k v j = f j := if_neg h
theorem zu_upd (f : Nat → Nat) (k v : Nat) : upd (fun j => nI (f j)) k (nI v) = fun j => nI (zu f k v j) := by
  funext j
  unfold upd zu
  by_cases h : j = k
  · rw [if_pos h, if_pos h]
  · rw [if_neg h, if_neg h]
end
section
/-! ===== the z layer: one judgement for a walk, over pictures ===== -/
/-- looking a local up -/
def zl : List (Nat × Value) → Nat → Option Value
  | [], _ => none
  | q :: t, i => bif Nat.beq q.1 i then some q.2 else zl t i
theorem zl_mem : ∀ (lv : List (Nat × Value)) (i : Nat) (v : Value), zl lv i = some v → (i, v) ∈ lv
  | [], _, _, h => by cases h
  | q :: t, i, v, h => by
    unfold zl at h
    cases hb : Nat.beq q.1 i with
    | true =>
      rw [hb] at h
      have e1 : q.1 = i := Nat.eq_of_beq_eq_true hb
      have e2 : q.2 = v := Option.some.inj h
      rw [← e1, ← e2]
      exact List.mem_cons_self
    | false =>
      rw [hb] at h
      exact List.mem_cons_of_mem _ (zl_mem t i v h)
/-- storing a local -/
def zs (i : Nat) (v : Value) (lv : List (Nat × Value)) : List (Nat × Value) := (i, v) :: lv.filter (fun q => !(q.1 == i) && !(q.1 + 1 == i && q.2.category == 2))
/-- what a state says beside the picture (nest words, constants): it stays while nothing outside A is written -/
def zGok (G : State → (Nat → Prop) → Prop) : Prop := ∀ (u U : State) (A B : Nat → Prop), u.WarmedH U.vm → (∀ q : Nat, q < u.heap.size → ¬ A q → U.heap[q]? = u.heap[q]?) → (∀ q, B q → A q) → G u A → G U B
/-- what stays through a method's walk -/
def zF (p : Program) (s : State) (m : MethodId) (args : Array Value) (c : Code) (cc : ByteArray) (nL : Nat) (Ts : List Cond) (own : String) (D : va_G) (cl : List vw_C) (tys : List (ClassId × FieldType)) (A : Nat → Prop) (G : State → (Nat → Prop) → Prop) : Prop :=
  p.tables.exec = Jvm.exec ∧ c.code = cc ∧ c.maxLocals = nL ∧ s.vm.findClass own = some m.cls ∧ (∀ w ∈ Ts, w.before args s = true) ∧ va_K D cl tys s ∧ (∀ q, s.heap.size ≤ q → A q) ∧ G s A ∧ zGok G
/-- the machine at pc, whatever heap holds the picture ws -/
def zW (p : Program) (l : Launch) (e : Env) (R : Room) (s : State) (m : MethodId) (args : Array Value) (below : List Frame) (meth : Method) (c : Code) (nL : Nat) (D : va_G) (cl : List vw_C) (A : Nat → Prop) (cells slots : Nat) (Q : State → Prop) (ws : va_W) (lv : List (Nat × Value)) (pc : Nat) (st : List Value) : Prop :=
  ∀ (H : Heap) (locs : List Loc) (ls : Array Slot), va_P D cl ws H → va_D A ws → va_S A s.heap H locs → lv_has ls nL lv → W p l e R s m args below meth c H locs cells slots Q (F0 m pc ls st)
def zPre (D : va_G) (cl : List vw_C) (tys : List (ClassId × FieldType)) (G : State → (Nat → Prop) → Prop) (w : va_W) (sz : Nat) (U : State) : Prop := U.heap.size = sz ∧ va_P D cl w U.heap ∧ va_K D cl tys U ∧ va_D (fun _ => True) w ∧ G U (va_A w sz) ∧ zGok G
def zEnd (D : va_G) (cl : List vw_C) (A : Nat → Prop) (w : va_W) (t : State) : Prop := va_P D cl w t.heap ∧ va_D A w
/-- contracts: from the picture w with arguments av; the answer and the new picture are as post says -/
def zMi (l : Launch) (y : MethodName) (wsy : List Cond) (rm : Room) (D : va_G) (cl : List vw_C) (tys : List (ClassId × FieldType)) (G : State → (Nat → Prop) → Prop) (av : List Value) (w : va_W) (post : Int32 → va_W → Prop) (mc ms : Nat) : Prop :=
  ∀ sz : Nat, Met l y wsy rm (va_Pc av (zPre D cl tys G w sz)) (va_Qi post (zEnd D cl (va_A w sz)) (va_A w sz)) mc ms (va_A w sz)
def zMv (l : Launch) (y : MethodName) (wsy : List Cond) (rm : Room) (D : va_G) (cl : List vw_C) (tys : List (ClassId × FieldType)) (G : State → (Nat → Prop) → Prop) (av : List Value) (w : va_W) (post : va_W → Prop) (mc ms : Nat) : Prop :=
  ∀ sz : Nat, Met l y wsy rm (va_Pc av (zPre D cl tys G w sz)) (va_Qv post (zEnd D cl (va_A w sz)) (va_A w sz)) mc ms (va_A w sz)
/-- a picture by its members -/
theorem zP_mem {D : va_G} {cl : List vw_C} {w : va_W} {H : Heap} : va_P D cl w H ↔ ∀ q ∈ w, va_at D cl q H := by
  constructor
  · intro h q hq
    obtain ⟨k, hk⟩ := List.getElem?_of_mem hq
    exact h k q hk
  · intro h k q hk
    exact h q (List.mem_of_getElem? hk)
theorem zD_A {A : Nat → Prop} {w : va_W} (h : va_D A w) : ∀ q ∈ w, A q.1 := fun q hq => by
  obtain ⟨k, hk⟩ := List.getElem?_of_mem hq
  exact h.2 k q hk
theorem zA_mem {w : va_W} {sz q : Nat} : va_A w sz q ↔ (∃ x ∈ w, x.1 = q) ∨ sz ≤ q := by
  constructor
  · rintro (⟨k, e, h⟩ | h)
    · exact Or.inl ⟨(q, e), List.mem_of_getElem? h, rfl⟩
    · exact Or.inr h
  · rintro (⟨⟨a, e⟩, h, rfl⟩ | h)
    · obtain ⟨k, hk⟩ := List.getElem?_of_mem h
      exact Or.inl ⟨k, e, hk⟩
    · exact Or.inr h
theorem zD_mid {A : Nat → Prop} {w1 w2 w3 : va_W} (h : va_D A (w1 ++ (w2 ++ w3))) : va_D A w2 := by
  have key : ∀ (k : Nat) (q : Nat × va_E), w2[k]? = some q → (w1 ++ (w2 ++ w3))[w1.length + k]? = some q := by
    intro k q hk
    have hl : k < w2.length := (List.getElem?_eq_some_iff.mp hk).1
    rw [List.getElem?_append_right (by omega), show w1.length + k - w1.length = k by omega, List.getElem?_append_left hl]
    exact hk
  refine ⟨fun i j x y hi hj hxy => ?_, fun k q hk => h.2 _ q (key k q hk)⟩
  have := h.1 _ _ x y (key i x hi) (key j y hj) hxy
  omega
theorem zP_mid {D : va_G} {cl : List vw_C} {w1 w2 w3 : va_W} {H : Heap} (h : va_P D cl (w1 ++ (w2 ++ w3)) H) : va_P D cl w2 H := by
  rw [zP_mem] at h ⊢
  exact fun q hq => h q (List.mem_append_right _ (List.mem_append_left _ hq))
theorem zD_fst {A : Nat → Prop} {w1 w2 w3 : va_W} (h : va_D A (w1 ++ (w2 ++ w3))) : va_D A w1 := by
  have key : ∀ (k : Nat) (q : Nat × va_E), w1[k]? = some q → (w1 ++ (w2 ++ w3))[k]? = some q := by
    intro k q hk
    have hl : k < w1.length := (List.getElem?_eq_some_iff.mp hk).1
    rw [List.getElem?_append_left hl]
    exact hk
  exact ⟨fun i j x y hi hj hxy => h.1 _ _ x y (key i x hi) (key j y hj) hxy, fun k q hk => h.2 _ q (key k q hk)⟩
theorem zD_trd {A : Nat → Prop} {w1 w2 w3 : va_W} (h : va_D A (w1 ++ (w2 ++ w3))) : va_D A w3 := by
  have key : ∀ (k : Nat) (q : Nat × va_E), w3[k]? = some q → (w1 ++ (w2 ++ w3))[w1.length + (w2.length + k)]? = some q := by
    intro k q hk
    rw [List.getElem?_append_right (by omega), List.getElem?_append_right (by omega), show w1.length + (w2.length + k) - w1.length - w2.length = k by omega]
    exact hk
  refine ⟨fun i j x y hi hj hxy => ?_, fun k q hk => h.2 _ q (key k q hk)⟩
  have := h.1 _ _ x y (key i x hi) (key j y hj) hxy
  omega
theorem zD_ne {A : Nat → Prop} {w1 w2 : va_W} (h : va_D A (w1 ++ w2)) : ∀ x ∈ w1, ∀ y ∈ w2, x.1 ≠ y.1 := by
  intro x hx y hy hxy
  obtain ⟨i, hi⟩ := List.getElem?_of_mem hx
  obtain ⟨j, hj⟩ := List.getElem?_of_mem hy
  have hl : i < w1.length := (List.getElem?_eq_some_iff.mp hi).1
  have h1 : (w1 ++ w2)[i]? = some x := by rw [List.getElem?_append_left hl]; exact hi
  have h2 : (w1 ++ w2)[w1.length + j]? = some y := by rw [List.getElem?_append_right (by omega), show w1.length + j - w1.length = j by omega]; exact hj
  have := h.1 _ _ x y h1 h2 hxy
  omega
theorem zD_snd {A : Nat → Prop} {w1 w2 : va_W} (h : va_D A (w1 ++ w2)) : va_D A w2 := by
  have key : ∀ (k : Nat) (q : Nat × va_E), w2[k]? = some q → (w1 ++ w2)[w1.length + k]? = some q := by
    intro k q hk
    rw [List.getElem?_append_right (by omega), show w1.length + k - w1.length = k by omega]
    exact hk
  refine ⟨fun i j x y hi hj hxy => ?_, fun k q hk => h.2 _ q (key k q hk)⟩
  have := h.1 _ _ x y (key i x hi) (key j y hj) hxy
  omega
/-- behind a call: the middle is new, the rest as it was -/
theorem z_join {A : Nat → Prop} {D : va_G} {cl : List vw_C} {w1 w2 w2' w3 : va_W} {H H1 : Heap} (hP : va_P D cl (w1 ++ (w2 ++ w3)) H) (hD : va_D A (w1 ++ (w2 ++ w3)))
    (hk : ∀ q : Nat, q < H.size → ¬ va_A w2 H.size q → H1[q]? = H[q]?) (hF : ∀ q, va_A w2 H.size q → A q) (hP1 : va_P D cl w2' H1) (hD1 : va_D (va_A w2 H.size) w2') :
    va_P D cl (w1 ++ (w2' ++ w3)) H1 ∧ va_D A (w1 ++ (w2' ++ w3)) := by
  have hPm := zP_mem.mp hP
  have lt : ∀ q ∈ w1 ++ (w2 ++ w3), q.1 < H.size := fun q hq => (hPm q hq).lt
  have n1 : ∀ q ∈ w1, ¬ va_A w2 H.size q.1 := by
    intro q hq h
    rcases zA_mem.mp h with ⟨x, hx, e⟩ | h
    · exact zD_ne hD q hq x (List.mem_append_left _ hx) e.symm
    · have := lt q (List.mem_append_left _ hq)
      omega
  have n3 : ∀ q ∈ w3, ¬ va_A w2 H.size q.1 := by
    intro q hq h
    rcases zA_mem.mp h with ⟨x, hx, e⟩ | h
    · exact zD_ne (zD_snd hD) x hx q hq e
    · have := lt q (List.mem_append_right _ (List.mem_append_right _ hq))
      omega
  have hP1m := zP_mem.mp hP1
  refine ⟨zP_mem.mpr fun q hq => ?_, ?_⟩
  · rcases List.mem_append.mp hq with h | h
    · exact (hPm q (List.mem_append_left _ h)).kept (hk _ (lt q (List.mem_append_left _ h)) (n1 q h))
    · rcases List.mem_append.mp h with h | h
      · exact hP1m q h
      · exact (hPm q (List.mem_append_right _ (List.mem_append_right _ h))).kept (hk _ (lt q (List.mem_append_right _ (List.mem_append_right _ h))) (n3 q h))
  · have hD1' : va_D A w2' := hD1.weaken (fun _ q _ h => hF q.1 h)
    refine va_D.app (zD_fst hD) (va_D.app hD1' (zD_trd hD) ?_) ?_
    · intro i j x y hx hy hxy
      have h1 : va_A w2 H.size x.1 := hD1.2 i x hx
      exact n3 y (List.mem_of_getElem? hy) (hxy ▸ h1)
    · intro i j x y hx hy hxy
      rcases List.mem_append.mp (List.mem_of_getElem? hy) with h | h
      · obtain ⟨k, hk2⟩ := List.getElem?_of_mem h
        have h1 : va_A w2 H.size y.1 := hD1.2 k y hk2
        exact n1 x (List.mem_of_getElem? hx) (hxy ▸ h1)
      · exact zD_ne hD x (List.mem_of_getElem? hx) y (List.mem_append_right _ h) hxy
theorem z_free {A : Nat → Prop} {w1 w2 w3 : va_W} {H0 H : Heap} {locs : List Loc} (hD : va_D A (w1 ++ (w2 ++ w3))) (hS : va_S A H0 H locs) (hA : ∀ q, H0.size ≤ q → A q) : ∀ q, va_A w2 H.size q → A q := by
  intro q h
  rcases zA_mem.mp h with ⟨x, hx, e⟩ | h
  · rw [← e]
    exact zD_A hD x (List.mem_append_right _ (List.mem_append_left _ hx))
  · exact hA q (Nat.le_trans hS.1 h)
section ZR
variable {p : Program} {l : Launch} {e : Env} {R : Room} {s : State} {m : MethodId} {args : Array Value} {below : List Frame} {meth : Method} {c : Code} {Q : State → Prop}
variable {cc : ByteArray} {nL cells slots pc : Nat} {D : va_G} {cl : List vw_C} {A : Nat → Prop} {tys : List (ClassId × FieldType)} {Ts : List Cond} {own : String} {G : State → (Nat → Prop) → Prop}
variable {ws : va_W} {lv : List (Nat × Value)} {st : List Value}
theorem z_eq {ws2 : va_W} {lv2 : List (Nat × Value)} {pc2 : Nat} {st2 : List Value} (h1 : ws = ws2) (h2 : lv = lv2) (h3 : pc = pc2) (h4 : st = st2) (k : zW p l e R s m args below meth c nL D cl A cells slots Q ws2 (lv2) (pc2) (st2)) : zW p l e R s m args below meth c nL D cl A cells slots Q ws (lv) (pc) (st) := by
  subst h1; subst h2; subst h3; subst h4; exact k
theorem z_lv {lv2 : List (Nat × Value)} (h : lv2.map (fun q => zl lv q.1) = lv2.map (fun q => some q.2)) (k : zW p l e R s m args below meth c nL D cl A cells slots Q ws (lv2) (pc) (st)) : zW p l e R s m args below meth c nL D cl A cells slots Q ws (lv) (pc) (st) := by
  intro H locs ls hP hD hS hh
  refine k H locs ls hP hD hS ⟨hh.1, hh.2.1, fun q hq => ?_⟩
  have h2 : zl lv q.1 = some q.2 := List.map_inj_left.mp h q hq
  exact hh.2.2 (q.1, q.2) (zl_mem _ _ _ h2)
theorem z_widen {k n : Nat} (h1 : cells ≤ k) (h2 : slots ≤ n) (kk : zW p l e R s m args below meth c nL D cl A k n Q ws (lv) (pc) (st)) : zW p l e R s m args below meth c nL D cl A cells slots Q ws (lv) (pc) (st) := fun H locs ls hP hD hS hh => W.widen h1 h2 (kk H locs ls hP hD hS hh)
theorem z_iconst (F : zF p s m args c cc nL Ts own D cl tys A G) {n : Int} {v : Int32} (hd : decode cc pc = .ok (.iconst n, 1)) (hv : Int32.ofInt n = v) (k : zW p l e R s m args below meth c nL D cl A cells slots Q ws (lv) (pc + 1) (.int v :: st)) : zW p l e R s m args below meth c nL D cl A cells slots Q ws (lv) (pc) (st) := fun H locs ls hP hD hS hh => lv_iconst F.1 F.2.1 hd hv (k H locs ls hP hD hS hh)
theorem z_bipush (F : zF p s m args c cc nL Ts own D cl tys A G) {n : Int} {v : Int32} (hd : decode cc pc = .ok (.bipush n, 2)) (hv : (Int8.ofInt n).toInt32 = v) (k : zW p l e R s m args below meth c nL D cl A cells slots Q ws (lv) (pc + 2) (.int v :: st)) : zW p l e R s m args below meth c nL D cl A cells slots Q ws (lv) (pc) (st) := fun H locs ls hP hD hS hh => lv_bipush F.1 F.2.1 hd hv (k H locs ls hP hD hS hh)
theorem z_sipush (F : zF p s m args c cc nL Ts own D cl tys A G) {n : Int} {v : Int32} (hd : decode cc pc = .ok (.sipush n, 3)) (hv : (Int16.ofInt n).toInt32 = v) (k : zW p l e R s m args below meth c nL D cl A cells slots Q ws (lv) (pc + 3) (.int v :: st)) : zW p l e R s m args below meth c nL D cl A cells slots Q ws (lv) (pc) (st) := fun H locs ls hP hD hS hh => lv_sipush F.1 F.2.1 hd hv (k H locs ls hP hD hS hh)
theorem z_lconst (F : zF p s m args c cc nL Ts own D cl tys A G) {n : Fin 2} {v : Int64} (hd : decode cc pc = .ok (.lconst n, 1)) (hv : Int64.ofNat (n : Nat) = v) (k : zW p l e R s m args below meth c nL D cl A cells slots Q ws (lv) (pc + 1) (.long v :: st)) : zW p l e R s m args below meth c nL D cl A cells slots Q ws (lv) (pc) (st) := fun H locs ls hP hD hS hh => lv_lconst F.1 F.2.1 hd hv (k H locs ls hP hD hS hh)
theorem z_iload (F : zF p s m args c cc nL Ts own D cl tys A G) {i : Nat} {x : Int32} (hd : decode cc pc = .ok (.iload i, 2)) (hl : zl lv i = some (.int x)) (k : zW p l e R s m args below meth c nL D cl A cells slots Q ws (lv) (pc + 2) (.int x :: st)) : zW p l e R s m args below meth c nL D cl A cells slots Q ws (lv) (pc) (st) := fun H locs ls hP hD hS hh => lv_iload F.1 F.2.1 hd (hh.2.2 _ (zl_mem _ _ _ hl)) (k H locs ls hP hD hS hh)
theorem z_iload_n (F : zF p s m args c cc nL Ts own D cl tys A G) {i : Fin 4} {x : Int32} (hd : decode cc pc = .ok (.iload_n i, 1)) (hl : zl lv i.val = some (.int x)) (k : zW p l e R s m args below meth c nL D cl A cells slots Q ws (lv) (pc + 1) (.int x :: st)) : zW p l e R s m args below meth c nL D cl A cells slots Q ws (lv) (pc) (st) := fun H locs ls hP hD hS hh => lv_iload_n F.1 F.2.1 hd rfl (hh.2.2 _ (zl_mem _ _ _ hl)) (k H locs ls hP hD hS hh)
theorem z_aload (F : zF p s m args c cc nL Ts own D cl tys A G) {i x : Nat} (hd : decode cc pc = .ok (.aload i, 2)) (hl : zl lv i = some (.ref x)) (k : zW p l e R s m args below meth c nL D cl A cells slots Q ws (lv) (pc + 2) (.ref x :: st)) : zW p l e R s m args below meth c nL D cl A cells slots Q ws (lv) (pc) (st) := fun H locs ls hP hD hS hh => lv_aload F.1 F.2.1 hd (hh.2.2 _ (zl_mem _ _ _ hl)) (k H locs ls hP hD hS hh)
theorem z_aload_n (F : zF p s m args c cc nL Ts own D cl tys A G) {i : Fin 4} {x : Nat} (hd : decode cc pc = .ok (.aload_n i, 1)) (hl : zl lv i.val = some (.ref x)) (k : zW p l e R s m args below meth c nL D cl A cells slots Q ws (lv) (pc + 1) (.ref x :: st)) : zW p l e R s m args below meth c nL D cl A cells slots Q ws (lv) (pc) (st) := fun H locs ls hP hD hS hh => lv_aload_n F.1 F.2.1 hd rfl (hh.2.2 _ (zl_mem _ _ _ hl)) (k H locs ls hP hD hS hh)
theorem z_istore (F : zF p s m args c cc nL Ts own D cl tys A G) {i : Nat} {x : Int32} (hd : decode cc pc = .ok (.istore i, 2)) (hn : i < nL) (k : zW p l e R s m args below meth c nL D cl A cells slots Q ws (zs i (.int x) lv) (pc + 2) (st)) : zW p l e R s m args below meth c nL D cl A cells slots Q ws (lv) (pc) (.int x :: st) := fun H locs ls hP hD hS hh => lv_istore F.1 F.2.1 hd hh hn rfl (fun ls2 hh2 => k H locs ls2 hP hD hS hh2)
theorem z_istore_n (F : zF p s m args c cc nL Ts own D cl tys A G) {i : Fin 4} {x : Int32} (hd : decode cc pc = .ok (.istore_n i, 1)) (hn : i.val < nL) (k : zW p l e R s m args below meth c nL D cl A cells slots Q ws (zs i.val (.int x) lv) (pc + 1) (st)) : zW p l e R s m args below meth c nL D cl A cells slots Q ws (lv) (pc) (.int x :: st) := fun H locs ls hP hD hS hh => lv_istore_n F.1 F.2.1 hd rfl hh hn rfl (fun ls2 hh2 => k H locs ls2 hP hD hS hh2)
theorem z_astore (F : zF p s m args c cc nL Ts own D cl tys A G) {i : Nat} {x : Nat} (hd : decode cc pc = .ok (.astore i, 2)) (hn : i < nL) (k : zW p l e R s m args below meth c nL D cl A cells slots Q ws (zs i (.ref x) lv) (pc + 2) (st)) : zW p l e R s m args below meth c nL D cl A cells slots Q ws (lv) (pc) (.ref x :: st) := fun H locs ls hP hD hS hh => lv_astore F.1 F.2.1 hd hh hn rfl (fun ls2 hh2 => k H locs ls2 hP hD hS hh2)
theorem z_astore_n (F : zF p s m args c cc nL Ts own D cl tys A G) {i : Fin 4} {x : Nat} (hd : decode cc pc = .ok (.astore_n i, 1)) (hn : i.val < nL) (k : zW p l e R s m args below meth c nL D cl A cells slots Q ws (zs i.val (.ref x) lv) (pc + 1) (st)) : zW p l e R s m args below meth c nL D cl A cells slots Q ws (lv) (pc) (.ref x :: st) := fun H locs ls hP hD hS hh => lv_astore_n F.1 F.2.1 hd rfl hh hn rfl (fun ls2 hh2 => k H locs ls2 hP hD hS hh2)
theorem z_iinc (F : zF p s m args c cc nL Ts own D cl tys A G) {i : Nat} {n : Int} {x v : Int32} (hd : decode cc pc = .ok (.iinc i n, 3)) (hl : zl lv i = some (.int x)) (hv : x + Int32.ofInt n = v) (hn : i < nL) (k : zW p l e R s m args below meth c nL D cl A cells slots Q ws (zs i (.int v) lv) (pc + 3) (st)) : zW p l e R s m args below meth c nL D cl A cells slots Q ws (lv) (pc) (st) := by
  intro H locs ls hP hD hS hh
  obtain ⟨j, hj⟩ := List.getElem?_of_mem (zl_mem _ _ _ hl)
  exact lv_iinc F.1 F.2.1 hd hh hj hv hn rfl (fun ls2 hh2 => k H locs ls2 hP hD hS hh2)
theorem z_iadd (F : zF p s m args c cc nL Ts own D cl tys A G) {x y : Int32} (hd : decode cc pc = .ok (.iadd, 1)) (k : zW p l e R s m args below meth c nL D cl A cells slots Q ws (lv) (pc + 1) (.int (x + y) :: st)) : zW p l e R s m args below meth c nL D cl A cells slots Q ws (lv) (pc) (.int y :: .int x :: st) := fun H locs ls hP hD hS hh => lv_iadd F.1 F.2.1 hd (k H locs ls hP hD hS hh)
theorem z_isub (F : zF p s m args c cc nL Ts own D cl tys A G) {x y : Int32} (hd : decode cc pc = .ok (.isub, 1)) (k : zW p l e R s m args below meth c nL D cl A cells slots Q ws (lv) (pc + 1) (.int (x - y) :: st)) : zW p l e R s m args below meth c nL D cl A cells slots Q ws (lv) (pc) (.int y :: .int x :: st) := fun H locs ls hP hD hS hh => lv_isub F.1 F.2.1 hd (k H locs ls hP hD hS hh)
theorem z_imul (F : zF p s m args c cc nL Ts own D cl tys A G) {x y : Int32} (hd : decode cc pc = .ok (.imul, 1)) (k : zW p l e R s m args below meth c nL D cl A cells slots Q ws (lv) (pc + 1) (.int (x * y) :: st)) : zW p l e R s m args below meth c nL D cl A cells slots Q ws (lv) (pc) (.int y :: .int x :: st) := fun H locs ls hP hD hS hh => lv_imul F.1 F.2.1 hd (k H locs ls hP hD hS hh)
theorem z_iand (F : zF p s m args c cc nL Ts own D cl tys A G) {x y : Int32} (hd : decode cc pc = .ok (.iand, 1)) (k : zW p l e R s m args below meth c nL D cl A cells slots Q ws (lv) (pc + 1) (.int (x &&& y) :: st)) : zW p l e R s m args below meth c nL D cl A cells slots Q ws (lv) (pc) (.int y :: .int x :: st) := fun H locs ls hP hD hS hh => lv_iand F.1 F.2.1 hd (k H locs ls hP hD hS hh)
theorem z_ior (F : zF p s m args c cc nL Ts own D cl tys A G) {x y : Int32} (hd : decode cc pc = .ok (.ior, 1)) (k : zW p l e R s m args below meth c nL D cl A cells slots Q ws (lv) (pc + 1) (.int (x ||| y) :: st)) : zW p l e R s m args below meth c nL D cl A cells slots Q ws (lv) (pc) (.int y :: .int x :: st) := fun H locs ls hP hD hS hh => lv_ior F.1 F.2.1 hd (k H locs ls hP hD hS hh)
theorem z_ixor (F : zF p s m args c cc nL Ts own D cl tys A G) {x y : Int32} (hd : decode cc pc = .ok (.ixor, 1)) (k : zW p l e R s m args below meth c nL D cl A cells slots Q ws (lv) (pc + 1) (.int (x ^^^ y) :: st)) : zW p l e R s m args below meth c nL D cl A cells slots Q ws (lv) (pc) (.int y :: .int x :: st) := fun H locs ls hP hD hS hh => lv_ixor F.1 F.2.1 hd (k H locs ls hP hD hS hh)
theorem z_ishl (F : zF p s m args c cc nL Ts own D cl tys A G) {x y : Int32} (hd : decode cc pc = .ok (.ishl, 1)) (k : zW p l e R s m args below meth c nL D cl A cells slots Q ws (lv) (pc + 1) (.int (x <<< (y &&& 31)) :: st)) : zW p l e R s m args below meth c nL D cl A cells slots Q ws (lv) (pc) (.int y :: .int x :: st) := fun H locs ls hP hD hS hh => lv_ishl F.1 F.2.1 hd (k H locs ls hP hD hS hh)
theorem z_ishr (F : zF p s m args c cc nL Ts own D cl tys A G) {x y : Int32} (hd : decode cc pc = .ok (.ishr, 1)) (k : zW p l e R s m args below meth c nL D cl A cells slots Q ws (lv) (pc + 1) (.int (x >>> (y &&& 31)) :: st)) : zW p l e R s m args below meth c nL D cl A cells slots Q ws (lv) (pc) (.int y :: .int x :: st) := fun H locs ls hP hD hS hh => lv_ishr F.1 F.2.1 hd (k H locs ls hP hD hS hh)
theorem z_idiv (F : zF p s m args c cc nL Ts own D cl tys A G) {x y : Int32} (hd : decode cc pc = .ok (.idiv, 1)) (hne : ¬ y = 0) (k : zW p l e R s m args below meth c nL D cl A cells slots Q ws (lv) (pc + 1) (.int (x / y) :: st)) : zW p l e R s m args below meth c nL D cl A cells slots Q ws (lv) (pc) (.int y :: .int x :: st) := fun H locs ls hP hD hS hh => lv_idiv F.1 F.2.1 hd hne (k H locs ls hP hD hS hh)
theorem z_irem (F : zF p s m args c cc nL Ts own D cl tys A G) {x y : Int32} (hd : decode cc pc = .ok (.irem, 1)) (hne : ¬ y = 0) (k : zW p l e R s m args below meth c nL D cl A cells slots Q ws (lv) (pc + 1) (.int (x - x / y * y) :: st)) : zW p l e R s m args below meth c nL D cl A cells slots Q ws (lv) (pc) (.int y :: .int x :: st) := fun H locs ls hP hD hS hh => lv_irem F.1 F.2.1 hd hne (k H locs ls hP hD hS hh)
theorem z_ineg (F : zF p s m args c cc nL Ts own D cl tys A G) {x : Int32} (hd : decode cc pc = .ok (.ineg, 1)) (k : zW p l e R s m args below meth c nL D cl A cells slots Q ws (lv) (pc + 1) (.int (-x) :: st)) : zW p l e R s m args below meth c nL D cl A cells slots Q ws (lv) (pc) (.int x :: st) := fun H locs ls hP hD hS hh => lv_ineg F.1 F.2.1 hd (k H locs ls hP hD hS hh)
theorem z_i2l (F : zF p s m args c cc nL Ts own D cl tys A G) {x : Int32} (hd : decode cc pc = .ok (.i2l, 1)) (k : zW p l e R s m args below meth c nL D cl A cells slots Q ws (lv) (pc + 1) (.long x.toInt64 :: st)) : zW p l e R s m args below meth c nL D cl A cells slots Q ws (lv) (pc) (.int x :: st) := fun H locs ls hP hD hS hh => lv_i2l F.1 F.2.1 hd rfl (k H locs ls hP hD hS hh)
theorem z_lcmp (F : zF p s m args c cc nL Ts own D cl tys A G) {x y : Int64} (hd : decode cc pc = .ok (.lcmp, 1)) (k : zW p l e R s m args below meth c nL D cl A cells slots Q ws (lv) (pc + 1) (.int (lg_cmp x y) :: st)) : zW p l e R s m args below meth c nL D cl A cells slots Q ws (lv) (pc) (.long y :: .long x :: st) := fun H locs ls hP hD hS hh => W.lcmp F.1 F.2.1 hd (k H locs ls hP hD hS hh)
theorem z_dup (F : zF p s m args c cc nL Ts own D cl tys A G) {va : Value} (hd : decode cc pc = .ok (.dup, 1)) (hva : va.category = 1) (k : zW p l e R s m args below meth c nL D cl A cells slots Q ws (lv) (pc + 1) (va :: va :: st)) : zW p l e R s m args below meth c nL D cl A cells slots Q ws (lv) (pc) (va :: st) := fun H locs ls hP hD hS hh => lv_dup F.1 F.2.1 hd hva (k H locs ls hP hD hS hh)
theorem z_pop (F : zF p s m args c cc nL Ts own D cl tys A G) {va : Value} (hd : decode cc pc = .ok (.pop, 1)) (hva : va.category = 1) (k : zW p l e R s m args below meth c nL D cl A cells slots Q ws (lv) (pc + 1) (st)) : zW p l e R s m args below meth c nL D cl A cells slots Q ws (lv) (pc) (va :: st) := fun H locs ls hP hD hS hh => lv_pop F.1 F.2.1 hd hva (k H locs ls hP hD hS hh)
theorem z_dup2 (F : zF p s m args c cc nL Ts own D cl tys A G) {va vb : Value} (hd : decode cc pc = .ok (.dup2, 1)) (hva : va.category = 1) (hvb : vb.category = 1) (k : zW p l e R s m args below meth c nL D cl A cells slots Q ws (lv) (pc + 1) (va :: vb :: va :: vb :: st)) : zW p l e R s m args below meth c nL D cl A cells slots Q ws (lv) (pc) (va :: vb :: st) := fun H locs ls hP hD hS hh => lv_dup2_11 F.1 F.2.1 hd hva hvb (k H locs ls hP hD hS hh)
theorem z_goto (F : zF p s m args c cc nL Ts own D cl tys A G) {off : Int} {tgt : Nat} (hd : decode cc pc = .ok (.goto off, 3)) (ht : (pc : Int) + off = (tgt : Int)) (k : zW p l e R s m args below meth c nL D cl A cells slots Q ws (lv) (tgt) (st)) : zW p l e R s m args below meth c nL D cl A cells slots Q ws (lv) (pc) (st) := fun H locs ls hP hD hS hh => lv_goto F.1 F.2.1 hd ht (k H locs ls hP hD hS hh)
theorem z_ifnonnull (F : zF p s m args c cc nL Ts own D cl tys A G) {off : Int} {tgt x : Nat} (hd : decode cc pc = .ok (.ifnonnull off, 3)) (ht : (pc : Int) + off = (tgt : Int)) (k : zW p l e R s m args below meth c nL D cl A cells slots Q ws (lv) (tgt) (st)) : zW p l e R s m args below meth c nL D cl A cells slots Q ws (lv) (pc) (.ref x :: st) := fun H locs ls hP hD hS hh => lv_ifnonnull F.1 F.2.1 hd ht (k H locs ls hP hD hS hh)
theorem z_if_eq (F : zF p s m args c cc nL Ts own D cl tys A G) {x : Int32} {off : Int} {tgt : Nat} (hd : decode cc pc = .ok (.ifCond .eq off, 3)) (ht : (pc : Int) + off = (tgt : Int)) (kt : x = 0 → zW p l e R s m args below meth c nL D cl A cells slots Q ws (lv) (tgt) (st)) (kf : ¬ x = 0 → zW p l e R s m args below meth c nL D cl A cells slots Q ws (lv) (pc + 3) (st)) : zW p l e R s m args below meth c nL D cl A cells slots Q ws (lv) (pc) (.int x :: st) := fun H locs ls hP hD hS hh => lv_if_eq F.1 F.2.1 hd ht (fun q => kt q H locs ls hP hD hS hh) (fun q => kf q H locs ls hP hD hS hh)
theorem z_icmp_eq (F : zF p s m args c cc nL Ts own D cl tys A G) {x y : Int32} {off : Int} {tgt : Nat} (hd : decode cc pc = .ok (.if_icmp .eq off, 3)) (ht : (pc : Int) + off = (tgt : Int)) (kt : x = y → zW p l e R s m args below meth c nL D cl A cells slots Q ws (lv) (tgt) (st)) (kf : ¬ x = y → zW p l e R s m args below meth c nL D cl A cells slots Q ws (lv) (pc + 3) (st)) : zW p l e R s m args below meth c nL D cl A cells slots Q ws (lv) (pc) (.int y :: .int x :: st) := fun H locs ls hP hD hS hh => lv_icmp_eq F.1 F.2.1 hd ht (fun q => kt q H locs ls hP hD hS hh) (fun q => kf q H locs ls hP hD hS hh)
theorem z_if_ne (F : zF p s m args c cc nL Ts own D cl tys A G) {x : Int32} {off : Int} {tgt : Nat} (hd : decode cc pc = .ok (.ifCond .ne off, 3)) (ht : (pc : Int) + off = (tgt : Int)) (kt : ¬ x = 0 → zW p l e R s m args below meth c nL D cl A cells slots Q ws (lv) (tgt) (st)) (kf : x = 0 → zW p l e R s m args below meth c nL D cl A cells slots Q ws (lv) (pc + 3) (st)) : zW p l e R s m args below meth c nL D cl A cells slots Q ws (lv) (pc) (.int x :: st) := fun H locs ls hP hD hS hh => lv_if_ne F.1 F.2.1 hd ht (fun q => kt q H locs ls hP hD hS hh) (fun q => kf q H locs ls hP hD hS hh)
theorem z_icmp_ne (F : zF p s m args c cc nL Ts own D cl tys A G) {x y : Int32} {off : Int} {tgt : Nat} (hd : decode cc pc = .ok (.if_icmp .ne off, 3)) (ht : (pc : Int) + off = (tgt : Int)) (kt : ¬ x = y → zW p l e R s m args below meth c nL D cl A cells slots Q ws (lv) (tgt) (st)) (kf : x = y → zW p l e R s m args below meth c nL D cl A cells slots Q ws (lv) (pc + 3) (st)) : zW p l e R s m args below meth c nL D cl A cells slots Q ws (lv) (pc) (.int y :: .int x :: st) := fun H locs ls hP hD hS hh => lv_icmp_ne F.1 F.2.1 hd ht (fun q => kt q H locs ls hP hD hS hh) (fun q => kf q H locs ls hP hD hS hh)
theorem z_if_lt (F : zF p s m args c cc nL Ts own D cl tys A G) {x : Int32} {off : Int} {tgt : Nat} (hd : decode cc pc = .ok (.ifCond .lt off, 3)) (ht : (pc : Int) + off = (tgt : Int)) (kt : x < 0 → zW p l e R s m args below meth c nL D cl A cells slots Q ws (lv) (tgt) (st)) (kf : ¬ x < 0 → zW p l e R s m args below meth c nL D cl A cells slots Q ws (lv) (pc + 3) (st)) : zW p l e R s m args below meth c nL D cl A cells slots Q ws (lv) (pc) (.int x :: st) := fun H locs ls hP hD hS hh => lv_if_lt F.1 F.2.1 hd ht (fun q => kt q H locs ls hP hD hS hh) (fun q => kf q H locs ls hP hD hS hh)
theorem z_icmp_lt (F : zF p s m args c cc nL Ts own D cl tys A G) {x y : Int32} {off : Int} {tgt : Nat} (hd : decode cc pc = .ok (.if_icmp .lt off, 3)) (ht : (pc : Int) + off = (tgt : Int)) (kt : x < y → zW p l e R s m args below meth c nL D cl A cells slots Q ws (lv) (tgt) (st)) (kf : ¬ x < y → zW p l e R s m args below meth c nL D cl A cells slots Q ws (lv) (pc + 3) (st)) : zW p l e R s m args below meth c nL D cl A cells slots Q ws (lv) (pc) (.int y :: .int x :: st) := fun H locs ls hP hD hS hh => lv_icmp_lt F.1 F.2.1 hd ht (fun q => kt q H locs ls hP hD hS hh) (fun q => kf q H locs ls hP hD hS hh)
theorem z_if_ge (F : zF p s m args c cc nL Ts own D cl tys A G) {x : Int32} {off : Int} {tgt : Nat} (hd : decode cc pc = .ok (.ifCond .ge off, 3)) (ht : (pc : Int) + off = (tgt : Int)) (kt : 0 ≤ x → zW p l e R s m args below meth c nL D cl A cells slots Q ws (lv) (tgt) (st)) (kf : ¬ 0 ≤ x → zW p l e R s m args below meth c nL D cl A cells slots Q ws (lv) (pc + 3) (st)) : zW p l e R s m args below meth c nL D cl A cells slots Q ws (lv) (pc) (.int x :: st) := fun H locs ls hP hD hS hh => lv_if_ge F.1 F.2.1 hd ht (fun q => kt q H locs ls hP hD hS hh) (fun q => kf q H locs ls hP hD hS hh)
theorem z_icmp_ge (F : zF p s m args c cc nL Ts own D cl tys A G) {x y : Int32} {off : Int} {tgt : Nat} (hd : decode cc pc = .ok (.if_icmp .ge off, 3)) (ht : (pc : Int) + off = (tgt : Int)) (kt : y ≤ x → zW p l e R s m args below meth c nL D cl A cells slots Q ws (lv) (tgt) (st)) (kf : ¬ y ≤ x → zW p l e R s m args below meth c nL D cl A cells slots Q ws (lv) (pc + 3) (st)) : zW p l e R s m args below meth c nL D cl A cells slots Q ws (lv) (pc) (.int y :: .int x :: st) := fun H locs ls hP hD hS hh => lv_icmp_ge F.1 F.2.1 hd ht (fun q => kt q H locs ls hP hD hS hh) (fun q => kf q H locs ls hP hD hS hh)
theorem z_if_gt (F : zF p s m args c cc nL Ts own D cl tys A G) {x : Int32} {off : Int} {tgt : Nat} (hd : decode cc pc = .ok (.ifCond .gt off, 3)) (ht : (pc : Int) + off = (tgt : Int)) (kt : 0 < x → zW p l e R s m args below meth c nL D cl A cells slots Q ws (lv) (tgt) (st)) (kf : ¬ 0 < x → zW p l e R s m args below meth c nL D cl A cells slots Q ws (lv) (pc + 3) (st)) : zW p l e R s m args below meth c nL D cl A cells slots Q ws (lv) (pc) (.int x :: st) := fun H locs ls hP hD hS hh => lv_if_gt F.1 F.2.1 hd ht (fun q => kt q H locs ls hP hD hS hh) (fun q => kf q H locs ls hP hD hS hh)
theorem z_icmp_gt (F : zF p s m args c cc nL Ts own D cl tys A G) {x y : Int32} {off : Int} {tgt : Nat} (hd : decode cc pc = .ok (.if_icmp .gt off, 3)) (ht : (pc : Int) + off = (tgt : Int)) (kt : y < x → zW p l e R s m args below meth c nL D cl A cells slots Q ws (lv) (tgt) (st)) (kf : ¬ y < x → zW p l e R s m args below meth c nL D cl A cells slots Q ws (lv) (pc + 3) (st)) : zW p l e R s m args below meth c nL D cl A cells slots Q ws (lv) (pc) (.int y :: .int x :: st) := fun H locs ls hP hD hS hh => lv_icmp_gt F.1 F.2.1 hd ht (fun q => kt q H locs ls hP hD hS hh) (fun q => kf q H locs ls hP hD hS hh)
theorem z_if_le (F : zF p s m args c cc nL Ts own D cl tys A G) {x : Int32} {off : Int} {tgt : Nat} (hd : decode cc pc = .ok (.ifCond .le off, 3)) (ht : (pc : Int) + off = (tgt : Int)) (kt : x ≤ 0 → zW p l e R s m args below meth c nL D cl A cells slots Q ws (lv) (tgt) (st)) (kf : ¬ x ≤ 0 → zW p l e R s m args below meth c nL D cl A cells slots Q ws (lv) (pc + 3) (st)) : zW p l e R s m args below meth c nL D cl A cells slots Q ws (lv) (pc) (.int x :: st) := fun H locs ls hP hD hS hh => lv_if_le F.1 F.2.1 hd ht (fun q => kt q H locs ls hP hD hS hh) (fun q => kf q H locs ls hP hD hS hh)
theorem z_icmp_le (F : zF p s m args c cc nL Ts own D cl tys A G) {x y : Int32} {off : Int} {tgt : Nat} (hd : decode cc pc = .ok (.if_icmp .le off, 3)) (ht : (pc : Int) + off = (tgt : Int)) (kt : x ≤ y → zW p l e R s m args below meth c nL D cl A cells slots Q ws (lv) (tgt) (st)) (kf : ¬ x ≤ y → zW p l e R s m args below meth c nL D cl A cells slots Q ws (lv) (pc + 3) (st)) : zW p l e R s m args below meth c nL D cl A cells slots Q ws (lv) (pc) (.int y :: .int x :: st) := fun H locs ls hP hD hS hh => lv_icmp_le F.1 F.2.1 hd ht (fun q => kt q H locs ls hP hD hS hh) (fun q => kf q H locs ls hP hD hS hh)
theorem z_tableIn (F : zF p s m args c cc nL Ts own D cl tys A G) {dflt lo hi off : Int} {offs : Array Int} {len tgt : Nat} {x : Int32} (hd : decode cc pc = .ok (.tableswitch dflt lo hi offs, len)) (h1 : ¬ x.toInt < lo) (h2 : ¬ hi < x.toInt) (ho : offs[(x.toInt - lo).toNat]? = some off) (ht : (pc : Int) + off = (tgt : Int)) (k : zW p l e R s m args below meth c nL D cl A cells slots Q ws (lv) (tgt) (st)) : zW p l e R s m args below meth c nL D cl A cells slots Q ws (lv) (pc) (.int x :: st) := fun H locs ls hP hD hS hh => lv_tableIn F.1 F.2.1 hd h1 h2 ho ht (k H locs ls hP hD hS hh)
theorem z_tableOut (F : zF p s m args c cc nL Ts own D cl tys A G) {dflt lo hi : Int} {offs : Array Int} {len tgt : Nat} {x : Int32} (hd : decode cc pc = .ok (.tableswitch dflt lo hi offs, len)) (h : x.toInt < lo ∨ hi < x.toInt) (ht : (pc : Int) + dflt = (tgt : Int)) (k : zW p l e R s m args below meth c nL D cl A cells slots Q ws (lv) (tgt) (st)) : zW p l e R s m args below meth c nL D cl A cells slots Q ws (lv) (pc) (.int x :: st) := fun H locs ls hP hD hS hh => lv_tableOut F.1 F.2.1 hd h ht (k H locs ls hP hD hS hh)
theorem z_get (F : zF p s m args c cc nL Ts own D cl tys A G) (q0 : Nat) (k : Nat) {a ci N : Nat} {fs : List Value} {T : u_T} {C ref : String} {index : Nat} {v : Value} (hd : decode cc pc = .ok (.getfield index, 3)) (hin : ∀ w ∈ u_ws C T N, w ∈ Ts) (hlink : Cond.fieldLink own index ref (T k).2.1 (T k).2.2.1 ∈ Ts) (hrf : (T k).1 = ref) (he : ws[q0]? = some (a, .inr (ci, fs))) (hc : cl[ci]? = some (C, T, N)) (hk : k < N) (hv : fs[k]? = some v) (kk : zW p l e R s m args below meth c nL D cl A cells slots Q ws (lv) (pc + 3) (v :: st)) : zW p l e R s m args below meth c nL D cl A cells slots Q ws (lv) (pc) (.ref a :: st) := fun H locs ls hP hD hS hh => va_get F.1 F.2.1 F.2.2.2.2.1 hin F.2.2.2.1 F.2.2.2.2.2.1 hP q0 he hc k hk (F.2.2.2.2.1 _ hlink) (fun _ h => by rw [← hrf]; exact h) hv hd (kk H locs ls hP hD hS hh)
theorem z_getN (F : zF p s m args c cc nL Ts own D cl tys A G) (q0 : Nat) (k : Nat) {a ci N : Nat} {fs : List Value} {T : u_T} {C ref : String} {index : Nat} {v : Value} {host : String} (hd : decode cc pc = .ok (.getfield index, 3)) (hin : ∀ w ∈ u_ws C T N, w ∈ Ts) (hlink : va_Nw (.fieldLinkNest own index ref (T k).2.1 (T k).2.2.1 host) s) (hrf : (T k).1 = ref) (he : ws[q0]? = some (a, .inr (ci, fs))) (hc : cl[ci]? = some (C, T, N)) (hk : k < N) (hv : fs[k]? = some v) (kk : zW p l e R s m args below meth c nL D cl A cells slots Q ws (lv) (pc + 3) (v :: st)) : zW p l e R s m args below meth c nL D cl A cells slots Q ws (lv) (pc) (.ref a :: st) := fun H locs ls hP hD hS hh => va_getN F.1 F.2.1 F.2.2.2.2.1 hin F.2.2.2.1 F.2.2.2.2.2.1 hP q0 he hc k hk (va_Nw.use rfl hlink) (fun _ h => by rw [← hrf]; exact h) hv hd (kk H locs ls hP hD hS hh)
theorem z_put (F : zF p s m args c cc nL Ts own D cl tys A G) (q0 : Nat) (k : Nat) {a ci N : Nat} {fs : List Value} {T : u_T} {C ref : String} {index : Nat} {v : Value} (hd : decode cc pc = .ok (.putfield index, 3)) (hin : ∀ w ∈ u_ws C T N, w ∈ Ts) (ty0 : Nat → FieldType) (hty : ∀ k, k < N → parseFieldDescriptor (T k).2.2.1 = some (ty0 k)) (hnm : ∀ a, a < N → ∀ b, b < N → a ≠ b → (T a).2.1 ≠ (T b).2.1) (hlink : Cond.fieldLink own index ref (T k).2.1 (T k).2.2.1 ∈ Ts) (hrf : (T k).1 = ref) (he : ws[q0]? = some (a, .inr (ci, fs))) (hc : cl[ci]? = some (C, T, N)) (hk : k < N) (hfin : (T k).2.2.2 = false) {ty : FieldType} (hdt : parseFieldDescriptor (T k).2.2.1 = some ty) (hn : narrow ty v = v) (hfit : fits ty v = true) (hl : k < fs.length) (kk : zW p l e R s m args below meth c nL D cl A cells slots Q (ws.set q0 (a, .inr (ci, fs.set k v))) (lv) (pc + 3) (st)) : zW p l e R s m args below meth c nL D cl A cells slots Q ws (lv) (pc) (v :: .ref a :: st) := fun H locs ls hP hD hS hh => va_put F.1 F.2.1 F.2.2.2.2.1 hin ty0 hty hnm F.2.2.2.1 F.2.2.2.2.2.1 hP hD hS q0 he hc k hk (F.2.2.2.2.1 _ hlink) (fun _ h => by rw [← hrf]; exact h) hfin hdt hn hfit hl hd (fun H1 locs1 hP1 hD1 hS1 => kk H1 locs1 ls hP1 hD1 hS1 hh)
theorem z_putN (F : zF p s m args c cc nL Ts own D cl tys A G) (q0 : Nat) (k : Nat) {a ci N : Nat} {fs : List Value} {T : u_T} {C ref : String} {index : Nat} {v : Value} {host : String} (hd : decode cc pc = .ok (.putfield index, 3)) (hin : ∀ w ∈ u_ws C T N, w ∈ Ts) (ty0 : Nat → FieldType) (hty : ∀ k, k < N → parseFieldDescriptor (T k).2.2.1 = some (ty0 k)) (hnm : ∀ a, a < N → ∀ b, b < N → a ≠ b → (T a).2.1 ≠ (T b).2.1) (hlink : va_Nw (.fieldLinkNest own index ref (T k).2.1 (T k).2.2.1 host) s) (hrf : (T k).1 = ref) (he : ws[q0]? = some (a, .inr (ci, fs))) (hc : cl[ci]? = some (C, T, N)) (hk : k < N) (hfin : (T k).2.2.2 = false) {ty : FieldType} (hdt : parseFieldDescriptor (T k).2.2.1 = some ty) (hn : narrow ty v = v) (hfit : fits ty v = true) (hl : k < fs.length) (kk : zW p l e R s m args below meth c nL D cl A cells slots Q (ws.set q0 (a, .inr (ci, fs.set k v))) (lv) (pc + 3) (st)) : zW p l e R s m args below meth c nL D cl A cells slots Q ws (lv) (pc) (v :: .ref a :: st) := fun H locs ls hP hD hS hh => va_putN F.1 F.2.1 F.2.2.2.2.1 hin ty0 hty hnm F.2.2.2.1 F.2.2.2.2.2.1 hP hD hS q0 he hc k hk (va_Nw.use rfl hlink) (fun _ h => by rw [← hrf]; exact h) hfin hdt hn hfit hl hd (fun H1 locs1 hP1 hD1 hS1 => kk H1 locs1 ls hP1 hD1 hS1 hh)
theorem z_putF (F : zF p s m args c cc nL Ts own D cl tys A G) (q0 : Nat) (k : Nat) {a ci N : Nat} {fs : List Value} {T : u_T} {C ref : String} {index : Nat} {v : Value} (hd : decode cc pc = .ok (.putfield index, 3)) (hin : ∀ w ∈ u_ws C T N, w ∈ Ts) (ty0 : Nat → FieldType) (hty : ∀ k, k < N → parseFieldDescriptor (T k).2.2.1 = some (ty0 k)) (hnm : ∀ a, a < N → ∀ b, b < N → a ≠ b → (T a).2.1 ≠ (T b).2.1) (hlink : Cond.fieldLink own index ref (T k).2.1 (T k).2.2.1 ∈ Ts) (hrf : (T k).1 = ref) (he : ws[q0]? = some (a, .inr (ci, fs))) (hc : cl[ci]? = some (C, T, N)) (hk : k < N) (hfin : (T k).2.2.2 = true) (hin2 : meth.name = "<init>") (hdecl : (T k).1 = own) {ty : FieldType} (hdt : parseFieldDescriptor (T k).2.2.1 = some ty) (hn : narrow ty v = v) (hfit : fits ty v = true) (hl : k < fs.length) (kk : zW p l e R s m args below meth c nL D cl A cells slots Q (ws.set q0 (a, .inr (ci, fs.set k v))) (lv) (pc + 3) (st)) : zW p l e R s m args below meth c nL D cl A cells slots Q ws (lv) (pc) (v :: .ref a :: st) := fun H locs ls hP hD hS hh => va_putF F.1 F.2.1 F.2.2.2.2.1 hin ty0 hty hnm F.2.2.2.1 F.2.2.2.2.2.1 hP hD hS q0 he hc k hk (F.2.2.2.2.1 _ hlink) (fun _ h => by rw [← hrf]; exact h) hfin hin2 hdecl hdt hn hfit hl hd (fun H1 locs1 hP1 hD1 hS1 => kk H1 locs1 ls hP1 hD1 hS1 hh)
theorem z_iald (F : zF p s m args c cc nL Ts own D cl tys A G) (q0 t0 : Nat) {a n j : Nat} {cA : ClassId} {f : Nat → Int32} {i : Int32} (hd : decode cc pc = .ok (.iaload, 1)) (he : ws[q0]? = some (a, .inl (cA, n, .inl f))) (ht : tys[t0]? = some (cA, .int)) (hi : i = nI j) (hj : j < n) (hn : n < 2 ^ 31) (kk : zW p l e R s m args below meth c nL D cl A cells slots Q ws (lv) (pc + 1) (.int (f j) :: st)) : zW p l e R s m args below meth c nL D cl A cells slots Q ws (lv) (pc) (.int i :: .ref a :: st) := by
  subst hi
  intro H locs ls hP hD hS hh
  refine va_iald F.1 F.2.1 F.2.2.2.2.2.1 hP q0 t0 he ht (vp_in_nI hj hn) hd ?_
  rw [nI_clamp (Nat.lt_trans hj hn)]
  exact kk H locs ls hP hD hS hh
theorem z_iast (F : zF p s m args c cc nL Ts own D cl tys A G) (q0 t0 : Nat) {a n j : Nat} {cA : ClassId} {f : Nat → Int32} {i : Int32} {x : Int32} (hd : decode cc pc = .ok (.iastore, 1)) (he : ws[q0]? = some (a, .inl (cA, n, .inl f))) (ht : tys[t0]? = some (cA, .int)) (hi : i = nI j) (hj : j < n) (hn : n < 2 ^ 31) (kk : zW p l e R s m args below meth c nL D cl A cells slots Q (ws.set q0 (a, .inl (cA, n, .inl (upd f j x)))) (lv) (pc + 1) (st)) : zW p l e R s m args below meth c nL D cl A cells slots Q ws (lv) (pc) (.int x :: .int i :: .ref a :: st) := by
  subst hi
  intro H locs ls hP hD hS hh
  refine va_iast F.1 F.2.1 F.2.2.2.2.2.1 hP hD hS q0 t0 he ht (vp_in_nI hj hn) hd ?_
  rw [nI_clamp (Nat.lt_trans hj hn)]
  exact fun H1 locs1 hP1 hD1 hS1 => kk H1 locs1 ls hP1 hD1 hS1 hh
theorem z_ialdN (F : zF p s m args c cc nL Ts own D cl tys A G) (q0 t0 : Nat) {a n j : Nat} {cA : ClassId} {f : Nat → Nat} {i : Int32} (hd : decode cc pc = .ok (.iaload, 1)) (he : ws[q0]? = some (a, .inl (cA, n, .inl (fun x => nI (f x))))) (ht : tys[t0]? = some (cA, .int)) (hi : i = nI j) (hj : j < n) (hn : n < 2 ^ 31) (kk : zW p l e R s m args below meth c nL D cl A cells slots Q ws (lv) (pc + 1) (.int (nI (f j)) :: st)) : zW p l e R s m args below meth c nL D cl A cells slots Q ws (lv) (pc) (.int i :: .ref a :: st) := z_iald F q0 t0 hd he ht hi hj hn kk
theorem z_iastN (F : zF p s m args c cc nL Ts own D cl tys A G) (q0 t0 : Nat) {a n j : Nat} {cA : ClassId} {f : Nat → Nat} {i : Int32} {x : Int32} (v : Nat) (hd : decode cc pc = .ok (.iastore, 1)) (he : ws[q0]? = some (a, .inl (cA, n, .inl (fun x => nI (f x))))) (ht : tys[t0]? = some (cA, .int)) (hi : i = nI j) (hj : j < n) (hn : n < 2 ^ 31) (hx : x = nI v) (kk : zW p l e R s m args below meth c nL D cl A cells slots Q (ws.set q0 (a, .inl (cA, n, .inl (fun x => nI (zu f j v x))))) (lv) (pc + 1) (st)) : zW p l e R s m args below meth c nL D cl A cells slots Q ws (lv) (pc) (.int x :: .int i :: .ref a :: st) := by
  subst hx
  refine z_iast F q0 t0 hd he ht hi hj hn ?_
  rw [zu_upd]
  exact kk
theorem z_lald (F : zF p s m args c cc nL Ts own D cl tys A G) (q0 t0 : Nat) {a n j : Nat} {cA : ClassId} {f : Nat → Int64} {i : Int32} (hd : decode cc pc = .ok (.laload, 1)) (he : ws[q0]? = some (a, .inl (cA, n, .inr (.inl f)))) (ht : tys[t0]? = some (cA, .long)) (hi : i = nI j) (hj : j < n) (hn : n < 2 ^ 31) (kk : zW p l e R s m args below meth c nL D cl A cells slots Q ws (lv) (pc + 1) (.long (f j) :: st)) : zW p l e R s m args below meth c nL D cl A cells slots Q ws (lv) (pc) (.int i :: .ref a :: st) := by
  subst hi
  intro H locs ls hP hD hS hh
  refine va_lald F.1 F.2.1 F.2.2.2.2.2.1 hP q0 t0 he ht (vp_in_nI hj hn) hd ?_
  rw [nI_clamp (Nat.lt_trans hj hn)]
  exact kk H locs ls hP hD hS hh
theorem z_last (F : zF p s m args c cc nL Ts own D cl tys A G) (q0 t0 : Nat) {a n j : Nat} {cA : ClassId} {f : Nat → Int64} {i : Int32} {x : Int64} (hd : decode cc pc = .ok (.lastore, 1)) (he : ws[q0]? = some (a, .inl (cA, n, .inr (.inl f)))) (ht : tys[t0]? = some (cA, .long)) (hi : i = nI j) (hj : j < n) (hn : n < 2 ^ 31) (kk : zW p l e R s m args below meth c nL D cl A cells slots Q (ws.set q0 (a, .inl (cA, n, .inr (.inl (vp_updL f j x))))) (lv) (pc + 1) (st)) : zW p l e R s m args below meth c nL D cl A cells slots Q ws (lv) (pc) (.long x :: .int i :: .ref a :: st) := by
  subst hi
  intro H locs ls hP hD hS hh
  refine va_last F.1 F.2.1 F.2.2.2.2.2.1 hP hD hS q0 t0 he ht (vp_in_nI hj hn) hd ?_
  rw [nI_clamp (Nat.lt_trans hj hn)]
  exact fun H1 locs1 hP1 hD1 hS1 => kk H1 locs1 ls hP1 hD1 hS1 hh
theorem z_alen (F : zF p s m args c cc nL Ts own D cl tys A G) (q0 t0 : Nat) {a : Nat} {cA : ClassId} {x : vp_A} {ty : FieldType} {v : Int32} (hd : decode cc pc = .ok (.arraylength, 1)) (he : ws[q0]? = some (a, .inl (cA, x))) (ht : tys[t0]? = some (cA, ty)) (hv : Int32.ofNat x.1 = v) (kk : zW p l e R s m args below meth c nL D cl A cells slots Q ws (lv) (pc + 1) (.int v :: st)) : zW p l e R s m args below meth c nL D cl A cells slots Q ws (lv) (pc) (.ref a :: st) := fun H locs ls hP hD hS hh => va_alen F.1 F.2.1 F.2.2.2.2.2.1 hP q0 t0 he ht hv hd (kk H locs ls hP hD hS hh)
theorem z_new (F : zF p s m args c cc nL Ts own D cl tys A G) {C : String} {T : u_T} {N ci index : Nat} {fs : List Value} (ty : Nat → FieldType) (hd : decode cc pc = .ok (.new index, 3)) (hin : ∀ w ∈ u_ws C T N, w ∈ Ts) (hty : ∀ k, k < N → parseFieldDescriptor (T k).2.2.1 = some (ty k)) (hcl : Cond.classLink own index C ∈ Ts) (hinst : Cond.instantiable C N ∈ Ts) (hini : Cond.initialized C ∈ Ts) (hc : cl[ci]? = some (C, T, N)) (hfs : ∀ j, j < N → defaultValue (ty j) = vp_V fs j) (hcells : cells + 1 ≤ R.cells) (hslots : slots + N ≤ R.slots) (kk : ∀ q : Nat, zW p l e R s m args below meth c nL D cl A (cells + 1) (slots + N) Q (ws ++ [(q, .inr (ci, fs))]) (lv) (pc + 3) (.ref q :: st)) : zW p l e R s m args below meth c nL D cl A cells slots Q ws (lv) (pc) (st) := fun H locs ls hP hD hS hh => va_new F.1 F.2.1 F.2.2.2.2.1 hin ty hty F.2.2.2.1 (F.2.2.2.2.1 _ hcl) (F.2.2.2.2.1 _ hinst) (F.2.2.2.2.1 _ hini) F.2.2.2.2.2.1 hP hD hS F.2.2.2.2.2.2.1 hc hfs hcells hslots hd (fun q H1 hP1 hD1 hS1 => kk q H1 locs ls hP1 hD1 hS1 hh)
theorem z_newi (F : zF p s m args c cc nL Ts own D cl tys A G) (t0 : Nat) {cA : ClassId} {n : Int32} {N : Nat} (hd : decode cc pc = .ok (.newarray .int, 2)) (harr : Cond.arrayClass .int ∈ Ts) (ht : tys[t0]? = some (cA, .int)) (hn : n = nI N) (hb : N ≤ 65536) (hcells : cells + 1 ≤ R.cells) (hslots : slots + N ≤ R.slots) (kk : ∀ q : Nat, zW p l e R s m args below meth c nL D cl A (cells + 1) (slots + N) Q (ws ++ [(q, .inl (cA, N, .inl (fun _ => 0)))]) (lv) (pc + 2) (.ref q :: st)) : zW p l e R s m args below meth c nL D cl A cells slots Q ws (lv) (pc) (.int n :: st) := by
  subst hn
  intro H locs ls hP hD hS hh
  refine va_newa (atype := .int) (ty := .int) (a0 := (N, .inl (fun _ => 0))) (N' := N) F.1 F.2.1 (F.2.2.2.2.1 _ harr) rfl F.2.2.2.2.2.1 hP hD hS F.2.2.2.2.2.2.1 (fun _ => rfl) (nI_pos (by omega)) (nI_clamp (by omega)) (by show N * 4 ≤ 536870912; omega) hcells hslots hd ?_
  intro q cB H1 hK1 hP1 hD1 hS1
  have e1 : s.vm.findClass ("[" ++ (FieldType.int).toString) = some cA := (F.2.2.2.2.2.1.2 t0 _ ht).2
  have e2 : s.vm.findClass ("[" ++ (FieldType.int).toString) = some cB := (hK1.2 tys.length (cB, .int) (by rw [List.getElem?_append_right (Nat.le_refl _), Nat.sub_self]; rfl)).2
  have e3 : cA = cB := Option.some.inj (e1.symm.trans e2)
  subst e3
  exact kk q H1 locs ls hP1 hD1 hS1 hh
theorem z_newl (F : zF p s m args c cc nL Ts own D cl tys A G) (t0 : Nat) {cA : ClassId} {n : Int32} {N : Nat} (hd : decode cc pc = .ok (.newarray .long, 2)) (harr : Cond.arrayClass .long ∈ Ts) (ht : tys[t0]? = some (cA, .long)) (hn : n = nI N) (hb : N ≤ 65536) (hcells : cells + 1 ≤ R.cells) (hslots : slots + N ≤ R.slots) (kk : ∀ q : Nat, zW p l e R s m args below meth c nL D cl A (cells + 1) (slots + N) Q (ws ++ [(q, .inl (cA, N, .inr (.inl (fun _ => 0))))]) (lv) (pc + 2) (.ref q :: st)) : zW p l e R s m args below meth c nL D cl A cells slots Q ws (lv) (pc) (.int n :: st) := by
  subst hn
  intro H locs ls hP hD hS hh
  refine va_newa (atype := .long) (ty := .long) (a0 := (N, .inr (.inl (fun _ => 0)))) (N' := N) F.1 F.2.1 (F.2.2.2.2.1 _ harr) rfl F.2.2.2.2.2.1 hP hD hS F.2.2.2.2.2.2.1 (fun _ => rfl) (nI_pos (by omega)) (nI_clamp (by omega)) (by show N * 8 ≤ 536870912; omega) hcells hslots hd ?_
  intro q cB H1 hK1 hP1 hD1 hS1
  have e1 : s.vm.findClass ("[" ++ (FieldType.long).toString) = some cA := (F.2.2.2.2.2.1.2 t0 _ ht).2
  have e2 : s.vm.findClass ("[" ++ (FieldType.long).toString) = some cB := (hK1.2 tys.length (cB, .long) (by rw [List.getElem?_append_right (Nat.le_refl _), Nat.sub_self]; rfl)).2
  have e3 : cA = cB := Option.some.inj (e1.symm.trans e2)
  subst e3
  exact kk q H1 locs ls hP1 hD1 hS1 hh
theorem z_objInit (F : zF p s m args c cc nL Ts own D cl tys A G) {idx : Nat} {a : Nat} (hd : decode cc pc = .ok (.invokespecial idx, 3)) (hlink : Cond.methodLink own idx objectInit ∈ Ts) (hinst : Cond.instanceMethod objectInit ∈ Ts) (hcode : Cond.code objectInit ⟨#[0xb1]⟩ 1 none ∈ Ts) (hfr : 1 ≤ R.frames) (hlo : (st.map fun v => v.category).sum + 12 ≤ R.locals) (k : zW p l e R s m args below meth c nL D cl A cells slots Q ws (lv) (pc + 3) (st)) : zW p l e R s m args below meth c nL D cl A cells slots Q ws (lv) (pc) (.ref a :: st) := by
  intro H locs ls hP hD hS hh
  exact W.objInit F.1 F.2.1 F.2.2.2.1 (F.2.2.2.2.1 _ hlink) (F.2.2.2.2.1 _ hinst) (F.2.2.2.2.1 _ hcode) rfl (by rw [F.2.2.1]; exact hh.1) rfl hd hfr (by simpa [JFrame.monitorRoom] using hlo) (k H locs ls hP hD hS hh)
theorem z_iret (F : zF p s m args c cc nL Ts own D cl tys A G) {post : Int32 → va_W → Prop} {v : Int32} {mc ms : Nat} {ty : FieldType} (hr : meth.sig.returnType = some ty) (hn : narrow ty (.int v) = .int v) (hlk : meth.locks = false) (hd : decode cc pc = .ok (.ireturn, 1)) (hp : post v ws) (h1 : cells ≤ mc) (h2 : slots ≤ ms) : zW p l e R s m args below meth c nL D cl A cells slots (MQ below (va_Qi post (zEnd D cl A) A) args s mc ms A) ws (lv) (pc) ([.int v]) := by
  intro H locs ls hP hD hS hh
  refine W.widen h1 h2 ?_
  exact W.zret F.1 F.2.1 hr hn (fun t ht _ => ⟨⟨v, ws, rfl, hp, by rw [ht]; exact hP, hD⟩, hS.F ht⟩) hS.2.2 hd hlk
theorem z_vret (F : zF p s m args c cc nL Ts own D cl tys A G) {post : va_W → Prop} {mc ms : Nat} (hr : meth.sig.returnType = none) (hlk : meth.locks = false) (hd : decode cc pc = .ok (.return_, 1)) (hp : post ws) (h1 : cells ≤ mc) (h2 : slots ≤ ms) : zW p l e R s m args below meth c nL D cl A cells slots (MQ below (va_Qv post (zEnd D cl A) A) args s mc ms A) ws (lv) (pc) ([]) := by
  intro H locs ls hP hD hS hh
  refine W.widen h1 h2 ?_
  exact W.vret F.1 F.2.1 hr (fun t ht _ => ⟨⟨ws, rfl, hp, by rw [ht]; exact hP, hD⟩, hS.F ht⟩) hS.2.2 hd hlk
theorem z_callVi (F : zF p s m args c cc nL Ts own D cl tys A G) {y : MethodName} {bytes : ByteArray} {maxL mc ms n index : Nat} {ret : Option FieldType} {wsy : List Cond} {rm : Room} {As rest : List Value} {w1 w2 w3 : va_W} {b : Nat} {C : String} {T : u_T} {N ci : Nat} {fs : List Value} {post : Int32 → va_W → Prop} (hM : zMi l y wsy rm D cl tys G (.ref b :: As) w2 post mc ms) (q0 : Nat) (he : w2[q0]? = some (b, .inr (ci, fs))) (hc : cl[ci]? = some (C, T, N)) (cw : CallW R s args own C index y bytes maxL ret wsy rm mc ms n) (hd : decode cc pc = .ok (.invokevirtual index, 3)) (hws : ws = w1 ++ (w2 ++ w3)) (hst : st = As.reverse ++ .ref b :: rest) (hn : As.length = n) (hro : (rest.map fun v => v.category).sum ≤ 8) (hf : cells + mc ≤ R.cells ∧ slots + ms ≤ R.slots)
    (kk : ∀ (r : Int32) (w2b : va_W), post r w2b → zW p l e R s m args below meth c nL D cl A (cells + mc) (slots + ms) Q (w1 ++ (w2b ++ w3)) (lv) (pc + 3) (.int r :: rest)) : zW p l e R s m args below meth c nL D cl A cells slots Q ws (lv) (pc) (st) := by
  subst hws
  subst hst
  intro H locs ls hP hD hS hh
  have hPc := zP_mid hP
  have hDc := zD_mid hD
  have hFc := z_free hD hS F.2.2.2.2.2.2.1
  refine va_calli (va_runV (As := As) (rest := rest) ⟨F.1, F.2.1, F.2.2.1, F.2.2.2.1, F.2.2.2.2.1⟩ (hM H.size) cw ⟨fun a U g mk q => by
      obtain ⟨q0, q1, qP, qK, qD, qG, qo⟩ := q
      exact ⟨q0, q1, qP, va_K.moved (u := U) (U := U.calling g mk a) (Vm.Alike.refl U.vm) qK, qD, qo U (U.calling g mk a) _ _ (State.WarmedH.refl U) (fun _ _ _ => rfl) (fun _ h => h) qG, qo⟩, va_recv F.2.2.2.2.2.1 hPc hc he, fun U hU hW => ⟨rfl, by rw [hU], by rw [hU]; exact hPc, va_K.moved hW.alike F.2.2.2.2.2.1, hDc.weaken (fun _ _ _ _ => trivial), F.2.2.2.2.2.2.2.2 s U A _ hW (fun q h1 h2 => by rw [hU]; exact hS.2.1 q h1 h2) hFc F.2.2.2.2.2.2.2.1, F.2.2.2.2.2.2.2.2⟩⟩ rfl hn hh.1 rfl (lv_room hro) hd hf) hS (fun q _ h => hFc q h) hFc ?_
  intro r w2b t H1 locs1 ht hvm hpost hB hz hk hS1
  obtain ⟨hP1, hD1⟩ := hB
  rw [ht] at hP1
  obtain ⟨hP2, hD2⟩ := z_join hP hD hk hFc hP1 hD1
  exact kk r w2b hpost H1 locs1 ls hP2 hD2 hS1 hh
theorem z_callVi0 (F : zF p s m args c cc nL Ts own D cl tys A G) {y : MethodName} {bytes : ByteArray} {maxL mc ms n index : Nat} {ret : Option FieldType} {wsy : List Cond} {rm : Room} {As rest : List Value} {b : Nat} {C : String} {T : u_T} {N ci : Nat} {fs : List Value} {post : Int32 → va_W → Prop} (hM : zMi l y wsy rm D cl tys G (.ref b :: As) ws post mc ms) (q0 : Nat) (he : ws[q0]? = some (b, .inr (ci, fs))) (hc : cl[ci]? = some (C, T, N)) (cw : CallW R s args own C index y bytes maxL ret wsy rm mc ms n) (hd : decode cc pc = .ok (.invokevirtual index, 3)) (hst : st = As.reverse ++ .ref b :: rest) (hn : As.length = n) (hro : (rest.map fun v => v.category).sum ≤ 8) (hf : cells + mc ≤ R.cells ∧ slots + ms ≤ R.slots)
    (kk : ∀ (r : Int32) (wb : va_W), post r wb → zW p l e R s m args below meth c nL D cl A (cells + mc) (slots + ms) Q wb (lv) (pc + 3) (.int r :: rest)) : zW p l e R s m args below meth c nL D cl A cells slots Q ws (lv) (pc) (st) := by
  refine z_callVi (w1 := []) (w3 := []) F hM q0 he hc cw hd (by simp) hst hn hro hf ?_
  intro r wb hp
  have := kk r wb hp
  simpa using this
theorem z_callVv (F : zF p s m args c cc nL Ts own D cl tys A G) {y : MethodName} {bytes : ByteArray} {maxL mc ms n index : Nat} {ret : Option FieldType} {wsy : List Cond} {rm : Room} {As rest : List Value} {w1 w2 w3 : va_W} {b : Nat} {C : String} {T : u_T} {N ci : Nat} {fs : List Value} {post : va_W → Prop} (hM : zMv l y wsy rm D cl tys G (.ref b :: As) w2 post mc ms) (q0 : Nat) (he : w2[q0]? = some (b, .inr (ci, fs))) (hc : cl[ci]? = some (C, T, N)) (cw : CallW R s args own C index y bytes maxL ret wsy rm mc ms n) (hd : decode cc pc = .ok (.invokevirtual index, 3)) (hws : ws = w1 ++ (w2 ++ w3)) (hst : st = As.reverse ++ .ref b :: rest) (hn : As.length = n) (hro : (rest.map fun v => v.category).sum ≤ 8) (hf : cells + mc ≤ R.cells ∧ slots + ms ≤ R.slots)
    (kk : ∀ w2b : va_W, post w2b → zW p l e R s m args below meth c nL D cl A (cells + mc) (slots + ms) Q (w1 ++ (w2b ++ w3)) (lv) (pc + 3) (rest)) : zW p l e R s m args below meth c nL D cl A cells slots Q ws (lv) (pc) (st) := by
  subst hws
  subst hst
  intro H locs ls hP hD hS hh
  have hPc := zP_mid hP
  have hDc := zD_mid hD
  have hFc := z_free hD hS F.2.2.2.2.2.2.1
  refine va_callv (va_runV (As := As) (rest := rest) ⟨F.1, F.2.1, F.2.2.1, F.2.2.2.1, F.2.2.2.2.1⟩ (hM H.size) cw ⟨fun a U g mk q => by
      obtain ⟨q0, q1, qP, qK, qD, qG, qo⟩ := q
      exact ⟨q0, q1, qP, va_K.moved (u := U) (U := U.calling g mk a) (Vm.Alike.refl U.vm) qK, qD, qo U (U.calling g mk a) _ _ (State.WarmedH.refl U) (fun _ _ _ => rfl) (fun _ h => h) qG, qo⟩, va_recv F.2.2.2.2.2.1 hPc hc he, fun U hU hW => ⟨rfl, by rw [hU], by rw [hU]; exact hPc, va_K.moved hW.alike F.2.2.2.2.2.1, hDc.weaken (fun _ _ _ _ => trivial), F.2.2.2.2.2.2.2.2 s U A _ hW (fun q h1 h2 => by rw [hU]; exact hS.2.1 q h1 h2) hFc F.2.2.2.2.2.2.2.1, F.2.2.2.2.2.2.2.2⟩⟩ rfl hn hh.1 rfl (lv_room hro) hd hf) hS (fun q _ h => hFc q h) hFc ?_
  intro w2b t H1 locs1 ht hvm hpost hB hz hk hS1
  obtain ⟨hP1, hD1⟩ := hB
  rw [ht] at hP1
  obtain ⟨hP2, hD2⟩ := z_join hP hD hk hFc hP1 hD1
  exact kk w2b hpost H1 locs1 ls hP2 hD2 hS1 hh
theorem z_callVv0 (F : zF p s m args c cc nL Ts own D cl tys A G) {y : MethodName} {bytes : ByteArray} {maxL mc ms n index : Nat} {ret : Option FieldType} {wsy : List Cond} {rm : Room} {As rest : List Value} {b : Nat} {C : String} {T : u_T} {N ci : Nat} {fs : List Value} {post : va_W → Prop} (hM : zMv l y wsy rm D cl tys G (.ref b :: As) ws post mc ms) (q0 : Nat) (he : ws[q0]? = some (b, .inr (ci, fs))) (hc : cl[ci]? = some (C, T, N)) (cw : CallW R s args own C index y bytes maxL ret wsy rm mc ms n) (hd : decode cc pc = .ok (.invokevirtual index, 3)) (hst : st = As.reverse ++ .ref b :: rest) (hn : As.length = n) (hro : (rest.map fun v => v.category).sum ≤ 8) (hf : cells + mc ≤ R.cells ∧ slots + ms ≤ R.slots)
    (kk : ∀ wb : va_W, post wb → zW p l e R s m args below meth c nL D cl A (cells + mc) (slots + ms) Q wb (lv) (pc + 3) (rest)) : zW p l e R s m args below meth c nL D cl A cells slots Q ws (lv) (pc) (st) := by
  refine z_callVv (w1 := []) (w3 := []) F hM q0 he hc cw hd (by simp) hst hn hro hf ?_
  intro wb hp
  have := kk wb hp
  simpa using this
theorem z_callSi (F : zF p s m args c cc nL Ts own D cl tys A G) {y : MethodName} {bytes : ByteArray} {maxL mc ms n index : Nat} {ret : Option FieldType} {wsy : List Cond} {rm : Room} {As rest : List Value} {w1 w2 w3 : va_W} {post : Int32 → va_W → Prop} (hM : zMi l y wsy rm D cl tys G As w2 post mc ms)  (cw : CallB R s args own index y bytes maxL ret wsy rm mc ms n ∧ (Cond.static y).before args s = true) (hd : decode cc pc = .ok (.invokestatic index, 3)) (hws : ws = w1 ++ (w2 ++ w3)) (hst : st = As.reverse ++ rest) (hn : As.length = n) (hro : (rest.map fun v => v.category).sum ≤ 8) (hf : cells + mc ≤ R.cells ∧ slots + ms ≤ R.slots)
    (kk : ∀ (r : Int32) (w2b : va_W), post r w2b → zW p l e R s m args below meth c nL D cl A (cells + mc) (slots + ms) Q (w1 ++ (w2b ++ w3)) (lv) (pc + 3) (.int r :: rest)) : zW p l e R s m args below meth c nL D cl A cells slots Q ws (lv) (pc) (st) := by
  subst hws
  subst hst
  intro H locs ls hP hD hS hh
  have hPc := zP_mid hP
  have hDc := zD_mid hD
  have hFc := z_free hD hS F.2.2.2.2.2.2.1
  refine va_calli (va_runS (As := As) (rest := rest) ⟨F.1, F.2.1, F.2.2.1, F.2.2.2.1, F.2.2.2.2.1⟩ (hM H.size) cw ⟨fun a U g mk q => by
      obtain ⟨q0, q1, qP, qK, qD, qG, qo⟩ := q
      exact ⟨q0, q1, qP, va_K.moved (u := U) (U := U.calling g mk a) (Vm.Alike.refl U.vm) qK, qD, qo U (U.calling g mk a) _ _ (State.WarmedH.refl U) (fun _ _ _ => rfl) (fun _ h => h) qG, qo⟩, fun U hU hW => ⟨rfl, by rw [hU], by rw [hU]; exact hPc, va_K.moved hW.alike F.2.2.2.2.2.1, hDc.weaken (fun _ _ _ _ => trivial), F.2.2.2.2.2.2.2.2 s U A _ hW (fun q h1 h2 => by rw [hU]; exact hS.2.1 q h1 h2) hFc F.2.2.2.2.2.2.2.1, F.2.2.2.2.2.2.2.2⟩⟩ rfl hn hh.1 rfl (lv_room hro) hd hf) hS (fun q _ h => hFc q h) hFc ?_
  intro r w2b t H1 locs1 ht hvm hpost hB hz hk hS1
  obtain ⟨hP1, hD1⟩ := hB
  rw [ht] at hP1
  obtain ⟨hP2, hD2⟩ := z_join hP hD hk hFc hP1 hD1
  exact kk r w2b hpost H1 locs1 ls hP2 hD2 hS1 hh
theorem z_callSi0 (F : zF p s m args c cc nL Ts own D cl tys A G) {y : MethodName} {bytes : ByteArray} {maxL mc ms n index : Nat} {ret : Option FieldType} {wsy : List Cond} {rm : Room} {As rest : List Value} {post : Int32 → va_W → Prop} (hM : zMi l y wsy rm D cl tys G As ws post mc ms)  (cw : CallB R s args own index y bytes maxL ret wsy rm mc ms n ∧ (Cond.static y).before args s = true) (hd : decode cc pc = .ok (.invokestatic index, 3)) (hst : st = As.reverse ++ rest) (hn : As.length = n) (hro : (rest.map fun v => v.category).sum ≤ 8) (hf : cells + mc ≤ R.cells ∧ slots + ms ≤ R.slots)
    (kk : ∀ (r : Int32) (wb : va_W), post r wb → zW p l e R s m args below meth c nL D cl A (cells + mc) (slots + ms) Q wb (lv) (pc + 3) (.int r :: rest)) : zW p l e R s m args below meth c nL D cl A cells slots Q ws (lv) (pc) (st) := by
  refine z_callSi (w1 := []) (w3 := []) F hM  cw hd (by simp) hst hn hro hf ?_
  intro r wb hp
  have := kk r wb hp
  simpa using this
theorem z_callSv (F : zF p s m args c cc nL Ts own D cl tys A G) {y : MethodName} {bytes : ByteArray} {maxL mc ms n index : Nat} {ret : Option FieldType} {wsy : List Cond} {rm : Room} {As rest : List Value} {w1 w2 w3 : va_W} {post : va_W → Prop} (hM : zMv l y wsy rm D cl tys G As w2 post mc ms)  (cw : CallB R s args own index y bytes maxL ret wsy rm mc ms n ∧ (Cond.static y).before args s = true) (hd : decode cc pc = .ok (.invokestatic index, 3)) (hws : ws = w1 ++ (w2 ++ w3)) (hst : st = As.reverse ++ rest) (hn : As.length = n) (hro : (rest.map fun v => v.category).sum ≤ 8) (hf : cells + mc ≤ R.cells ∧ slots + ms ≤ R.slots)
    (kk : ∀ w2b : va_W, post w2b → zW p l e R s m args below meth c nL D cl A (cells + mc) (slots + ms) Q (w1 ++ (w2b ++ w3)) (lv) (pc + 3) (rest)) : zW p l e R s m args below meth c nL D cl A cells slots Q ws (lv) (pc) (st) := by
  subst hws
  subst hst
  intro H locs ls hP hD hS hh
  have hPc := zP_mid hP
  have hDc := zD_mid hD
  have hFc := z_free hD hS F.2.2.2.2.2.2.1
  refine va_callv (va_runS (As := As) (rest := rest) ⟨F.1, F.2.1, F.2.2.1, F.2.2.2.1, F.2.2.2.2.1⟩ (hM H.size) cw ⟨fun a U g mk q => by
      obtain ⟨q0, q1, qP, qK, qD, qG, qo⟩ := q
      exact ⟨q0, q1, qP, va_K.moved (u := U) (U := U.calling g mk a) (Vm.Alike.refl U.vm) qK, qD, qo U (U.calling g mk a) _ _ (State.WarmedH.refl U) (fun _ _ _ => rfl) (fun _ h => h) qG, qo⟩, fun U hU hW => ⟨rfl, by rw [hU], by rw [hU]; exact hPc, va_K.moved hW.alike F.2.2.2.2.2.1, hDc.weaken (fun _ _ _ _ => trivial), F.2.2.2.2.2.2.2.2 s U A _ hW (fun q h1 h2 => by rw [hU]; exact hS.2.1 q h1 h2) hFc F.2.2.2.2.2.2.2.1, F.2.2.2.2.2.2.2.2⟩⟩ rfl hn hh.1 rfl (lv_room hro) hd hf) hS (fun q _ h => hFc q h) hFc ?_
  intro w2b t H1 locs1 ht hvm hpost hB hz hk hS1
  obtain ⟨hP1, hD1⟩ := hB
  rw [ht] at hP1
  obtain ⟨hP2, hD2⟩ := z_join hP hD hk hFc hP1 hD1
  exact kk w2b hpost H1 locs1 ls hP2 hD2 hS1 hh
theorem z_callSv0 (F : zF p s m args c cc nL Ts own D cl tys A G) {y : MethodName} {bytes : ByteArray} {maxL mc ms n index : Nat} {ret : Option FieldType} {wsy : List Cond} {rm : Room} {As rest : List Value} {post : va_W → Prop} (hM : zMv l y wsy rm D cl tys G As ws post mc ms)  (cw : CallB R s args own index y bytes maxL ret wsy rm mc ms n ∧ (Cond.static y).before args s = true) (hd : decode cc pc = .ok (.invokestatic index, 3)) (hst : st = As.reverse ++ rest) (hn : As.length = n) (hro : (rest.map fun v => v.category).sum ≤ 8) (hf : cells + mc ≤ R.cells ∧ slots + ms ≤ R.slots)
    (kk : ∀ wb : va_W, post wb → zW p l e R s m args below meth c nL D cl A (cells + mc) (slots + ms) Q wb (lv) (pc + 3) (rest)) : zW p l e R s m args below meth c nL D cl A cells slots Q ws (lv) (pc) (st) := by
  refine z_callSv (w1 := []) (w3 := []) F hM  cw hd (by simp) hst hn hro hf ?_
  intro wb hp
  have := kk wb hp
  simpa using this
theorem z_callIv (F : zF p s m args c cc nL Ts own D cl tys A G) {y : MethodName} {bytes : ByteArray} {maxL mc ms n index : Nat} {ret : Option FieldType} {wsy : List Cond} {rm : Room} {As rest : List Value} {w1 w2 w3 : va_W} {b : Nat} {post : va_W → Prop} (hM : zMv l y wsy rm D cl tys G (.ref b :: As) w2 post mc ms)  (cw : CallB R s args own index y bytes maxL none wsy rm mc ms n ∧ y.name = "<init>" ∧ (Cond.instanceMethod y).before args s = true) (hd : decode cc pc = .ok (.invokespecial index, 3)) (hws : ws = w1 ++ (w2 ++ w3)) (hst : st = As.reverse ++ .ref b :: rest) (hn : As.length = n) (hro : (rest.map fun v => v.category).sum ≤ 8) (hf : cells + mc ≤ R.cells ∧ slots + ms ≤ R.slots)
    (kk : ∀ w2b : va_W, post w2b → zW p l e R s m args below meth c nL D cl A (cells + mc) (slots + ms) Q (w1 ++ (w2b ++ w3)) (lv) (pc + 3) (rest)) : zW p l e R s m args below meth c nL D cl A cells slots Q ws (lv) (pc) (st) := by
  subst hws
  subst hst
  intro H locs ls hP hD hS hh
  have hPc := zP_mid hP
  have hDc := zD_mid hD
  have hFc := z_free hD hS F.2.2.2.2.2.2.1
  refine va_callv (va_runI (As := As) (rest := rest) ⟨F.1, F.2.1, F.2.2.1, F.2.2.2.1, F.2.2.2.2.1⟩ (hM H.size) cw ⟨fun a U g mk q => by
      obtain ⟨q0, q1, qP, qK, qD, qG, qo⟩ := q
      exact ⟨q0, q1, qP, va_K.moved (u := U) (U := U.calling g mk a) (Vm.Alike.refl U.vm) qK, qD, qo U (U.calling g mk a) _ _ (State.WarmedH.refl U) (fun _ _ _ => rfl) (fun _ h => h) qG, qo⟩, fun U hU hW => ⟨rfl, by rw [hU], by rw [hU]; exact hPc, va_K.moved hW.alike F.2.2.2.2.2.1, hDc.weaken (fun _ _ _ _ => trivial), F.2.2.2.2.2.2.2.2 s U A _ hW (fun q h1 h2 => by rw [hU]; exact hS.2.1 q h1 h2) hFc F.2.2.2.2.2.2.2.1, F.2.2.2.2.2.2.2.2⟩⟩ rfl hn hh.1 rfl (lv_room hro) hd hf) hS (fun q _ h => hFc q h) hFc ?_
  intro w2b t H1 locs1 ht hvm hpost hB hz hk hS1
  obtain ⟨hP1, hD1⟩ := hB
  rw [ht] at hP1
  obtain ⟨hP2, hD2⟩ := z_join hP hD hk hFc hP1 hD1
  exact kk w2b hpost H1 locs1 ls hP2 hD2 hS1 hh
theorem z_callVNi (F : zF p s m args c cc nL Ts own D cl tys A G) {y : MethodName} {bytes : ByteArray} {maxL mc ms n index : Nat} {ret : Option FieldType} {wsy : List Cond} {rm : Room} {As rest : List Value} {w1 w2 w3 : va_W} {b : Nat} {host : String} {C : String} {T : u_T} {N ci : Nat} {fs : List Value} {post : Int32 → va_W → Prop} (hM : zMi l y wsy rm D cl tys G (.ref b :: As) w2 post mc ms) (q0 : Nat) (he : w2[q0]? = some (b, .inr (ci, fs))) (hc : cl[ci]? = some (C, T, N)) (cw : va_CN R s args own index y host bytes maxL ret wsy rm mc ms n ∧ (Cond.instanceMethod y).before args s = true ∧ (Cond.selects C y y).before args s = true) (hd : decode cc pc = .ok (.invokevirtual index, 3)) (hws : ws = w1 ++ (w2 ++ w3)) (hst : st = As.reverse ++ .ref b :: rest) (hn : As.length = n) (hro : (rest.map fun v => v.category).sum ≤ 8) (hf : cells + mc ≤ R.cells ∧ slots + ms ≤ R.slots)
    (kk : ∀ (r : Int32) (w2b : va_W), post r w2b → zW p l e R s m args below meth c nL D cl A (cells + mc) (slots + ms) Q (w1 ++ (w2b ++ w3)) (lv) (pc + 3) (.int r :: rest)) : zW p l e R s m args below meth c nL D cl A cells slots Q ws (lv) (pc) (st) := by
  subst hws
  subst hst
  intro H locs ls hP hD hS hh
  have hPc := zP_mid hP
  have hDc := zD_mid hD
  have hFc := z_free hD hS F.2.2.2.2.2.2.1
  refine va_calli (va_runVN (As := As) (rest := rest) ⟨F.1, F.2.1, F.2.2.1, F.2.2.2.1, F.2.2.2.2.1⟩ (hM H.size) cw ⟨fun a U g mk q => by
      obtain ⟨q0, q1, qP, qK, qD, qG, qo⟩ := q
      exact ⟨q0, q1, qP, va_K.moved (u := U) (U := U.calling g mk a) (Vm.Alike.refl U.vm) qK, qD, qo U (U.calling g mk a) _ _ (State.WarmedH.refl U) (fun _ _ _ => rfl) (fun _ h => h) qG, qo⟩, va_recv F.2.2.2.2.2.1 hPc hc he, fun U hU hW => ⟨rfl, by rw [hU], by rw [hU]; exact hPc, va_K.moved hW.alike F.2.2.2.2.2.1, hDc.weaken (fun _ _ _ _ => trivial), F.2.2.2.2.2.2.2.2 s U A _ hW (fun q h1 h2 => by rw [hU]; exact hS.2.1 q h1 h2) hFc F.2.2.2.2.2.2.2.1, F.2.2.2.2.2.2.2.2⟩⟩ rfl hn hh.1 rfl (lv_room hro) hd hf) hS (fun q _ h => hFc q h) hFc ?_
  intro r w2b t H1 locs1 ht hvm hpost hB hz hk hS1
  obtain ⟨hP1, hD1⟩ := hB
  rw [ht] at hP1
  obtain ⟨hP2, hD2⟩ := z_join hP hD hk hFc hP1 hD1
  exact kk r w2b hpost H1 locs1 ls hP2 hD2 hS1 hh
theorem z_callVNi0 (F : zF p s m args c cc nL Ts own D cl tys A G) {y : MethodName} {bytes : ByteArray} {maxL mc ms n index : Nat} {ret : Option FieldType} {wsy : List Cond} {rm : Room} {As rest : List Value} {b : Nat} {host : String} {C : String} {T : u_T} {N ci : Nat} {fs : List Value} {post : Int32 → va_W → Prop} (hM : zMi l y wsy rm D cl tys G (.ref b :: As) ws post mc ms) (q0 : Nat) (he : ws[q0]? = some (b, .inr (ci, fs))) (hc : cl[ci]? = some (C, T, N)) (cw : va_CN R s args own index y host bytes maxL ret wsy rm mc ms n ∧ (Cond.instanceMethod y).before args s = true ∧ (Cond.selects C y y).before args s = true) (hd : decode cc pc = .ok (.invokevirtual index, 3)) (hst : st = As.reverse ++ .ref b :: rest) (hn : As.length = n) (hro : (rest.map fun v => v.category).sum ≤ 8) (hf : cells + mc ≤ R.cells ∧ slots + ms ≤ R.slots)
    (kk : ∀ (r : Int32) (wb : va_W), post r wb → zW p l e R s m args below meth c nL D cl A (cells + mc) (slots + ms) Q wb (lv) (pc + 3) (.int r :: rest)) : zW p l e R s m args below meth c nL D cl A cells slots Q ws (lv) (pc) (st) := by
  refine z_callVNi (w1 := []) (w3 := []) F hM q0 he hc cw hd (by simp) hst hn hro hf ?_
  intro r wb hp
  have := kk r wb hp
  simpa using this
theorem z_callVNv (F : zF p s m args c cc nL Ts own D cl tys A G) {y : MethodName} {bytes : ByteArray} {maxL mc ms n index : Nat} {ret : Option FieldType} {wsy : List Cond} {rm : Room} {As rest : List Value} {w1 w2 w3 : va_W} {b : Nat} {host : String} {C : String} {T : u_T} {N ci : Nat} {fs : List Value} {post : va_W → Prop} (hM : zMv l y wsy rm D cl tys G (.ref b :: As) w2 post mc ms) (q0 : Nat) (he : w2[q0]? = some (b, .inr (ci, fs))) (hc : cl[ci]? = some (C, T, N)) (cw : va_CN R s args own index y host bytes maxL ret wsy rm mc ms n ∧ (Cond.instanceMethod y).before args s = true ∧ (Cond.selects C y y).before args s = true) (hd : decode cc pc = .ok (.invokevirtual index, 3)) (hws : ws = w1 ++ (w2 ++ w3)) (hst : st = As.reverse ++ .ref b :: rest) (hn : As.length = n) (hro : (rest.map fun v => v.category).sum ≤ 8) (hf : cells + mc ≤ R.cells ∧ slots + ms ≤ R.slots)
    (kk : ∀ w2b : va_W, post w2b → zW p l e R s m args below meth c nL D cl A (cells + mc) (slots + ms) Q (w1 ++ (w2b ++ w3)) (lv) (pc + 3) (rest)) : zW p l e R s m args below meth c nL D cl A cells slots Q ws (lv) (pc) (st) := by
  subst hws
  subst hst
  intro H locs ls hP hD hS hh
  have hPc := zP_mid hP
  have hDc := zD_mid hD
  have hFc := z_free hD hS F.2.2.2.2.2.2.1
  refine va_callv (va_runVN (As := As) (rest := rest) ⟨F.1, F.2.1, F.2.2.1, F.2.2.2.1, F.2.2.2.2.1⟩ (hM H.size) cw ⟨fun a U g mk q => by
      obtain ⟨q0, q1, qP, qK, qD, qG, qo⟩ := q
      exact ⟨q0, q1, qP, va_K.moved (u := U) (U := U.calling g mk a) (Vm.Alike.refl U.vm) qK, qD, qo U (U.calling g mk a) _ _ (State.WarmedH.refl U) (fun _ _ _ => rfl) (fun _ h => h) qG, qo⟩, va_recv F.2.2.2.2.2.1 hPc hc he, fun U hU hW => ⟨rfl, by rw [hU], by rw [hU]; exact hPc, va_K.moved hW.alike F.2.2.2.2.2.1, hDc.weaken (fun _ _ _ _ => trivial), F.2.2.2.2.2.2.2.2 s U A _ hW (fun q h1 h2 => by rw [hU]; exact hS.2.1 q h1 h2) hFc F.2.2.2.2.2.2.2.1, F.2.2.2.2.2.2.2.2⟩⟩ rfl hn hh.1 rfl (lv_room hro) hd hf) hS (fun q _ h => hFc q h) hFc ?_
  intro w2b t H1 locs1 ht hvm hpost hB hz hk hS1
  obtain ⟨hP1, hD1⟩ := hB
  rw [ht] at hP1
  obtain ⟨hP2, hD2⟩ := z_join hP hD hk hFc hP1 hD1
  exact kk w2b hpost H1 locs1 ls hP2 hD2 hS1 hh
theorem z_callVNv0 (F : zF p s m args c cc nL Ts own D cl tys A G) {y : MethodName} {bytes : ByteArray} {maxL mc ms n index : Nat} {ret : Option FieldType} {wsy : List Cond} {rm : Room} {As rest : List Value} {b : Nat} {host : String} {C : String} {T : u_T} {N ci : Nat} {fs : List Value} {post : va_W → Prop} (hM : zMv l y wsy rm D cl tys G (.ref b :: As) ws post mc ms) (q0 : Nat) (he : ws[q0]? = some (b, .inr (ci, fs))) (hc : cl[ci]? = some (C, T, N)) (cw : va_CN R s args own index y host bytes maxL ret wsy rm mc ms n ∧ (Cond.instanceMethod y).before args s = true ∧ (Cond.selects C y y).before args s = true) (hd : decode cc pc = .ok (.invokevirtual index, 3)) (hst : st = As.reverse ++ .ref b :: rest) (hn : As.length = n) (hro : (rest.map fun v => v.category).sum ≤ 8) (hf : cells + mc ≤ R.cells ∧ slots + ms ≤ R.slots)
    (kk : ∀ wb : va_W, post wb → zW p l e R s m args below meth c nL D cl A (cells + mc) (slots + ms) Q wb (lv) (pc + 3) (rest)) : zW p l e R s m args below meth c nL D cl A cells slots Q ws (lv) (pc) (st) := by
  refine z_callVNv (w1 := []) (w3 := []) F hM q0 he hc cw hd (by simp) hst hn hro hf ?_
  intro wb hp
  have := kk wb hp
  simpa using this
theorem z_callSNi (F : zF p s m args c cc nL Ts own D cl tys A G) {y : MethodName} {bytes : ByteArray} {maxL mc ms n index : Nat} {ret : Option FieldType} {wsy : List Cond} {rm : Room} {As rest : List Value} {w1 w2 w3 : va_W} {host : String} {post : Int32 → va_W → Prop} (hM : zMi l y wsy rm D cl tys G As w2 post mc ms)  (cw : va_CN R s args own index y host bytes maxL ret wsy rm mc ms n ∧ (Cond.static y).before args s = true ∧ True) (hd : decode cc pc = .ok (.invokestatic index, 3)) (hws : ws = w1 ++ (w2 ++ w3)) (hst : st = As.reverse ++ rest) (hn : As.length = n) (hro : (rest.map fun v => v.category).sum ≤ 8) (hf : cells + mc ≤ R.cells ∧ slots + ms ≤ R.slots)
    (kk : ∀ (r : Int32) (w2b : va_W), post r w2b → zW p l e R s m args below meth c nL D cl A (cells + mc) (slots + ms) Q (w1 ++ (w2b ++ w3)) (lv) (pc + 3) (.int r :: rest)) : zW p l e R s m args below meth c nL D cl A cells slots Q ws (lv) (pc) (st) := by
  subst hws
  subst hst
  intro H locs ls hP hD hS hh
  have hPc := zP_mid hP
  have hDc := zD_mid hD
  have hFc := z_free hD hS F.2.2.2.2.2.2.1
  refine va_calli (va_runSN (As := As) (rest := rest) ⟨F.1, F.2.1, F.2.2.1, F.2.2.2.1, F.2.2.2.2.1⟩ (hM H.size) cw ⟨fun a U g mk q => by
      obtain ⟨q0, q1, qP, qK, qD, qG, qo⟩ := q
      exact ⟨q0, q1, qP, va_K.moved (u := U) (U := U.calling g mk a) (Vm.Alike.refl U.vm) qK, qD, qo U (U.calling g mk a) _ _ (State.WarmedH.refl U) (fun _ _ _ => rfl) (fun _ h => h) qG, qo⟩, fun U hU hW => ⟨rfl, by rw [hU], by rw [hU]; exact hPc, va_K.moved hW.alike F.2.2.2.2.2.1, hDc.weaken (fun _ _ _ _ => trivial), F.2.2.2.2.2.2.2.2 s U A _ hW (fun q h1 h2 => by rw [hU]; exact hS.2.1 q h1 h2) hFc F.2.2.2.2.2.2.2.1, F.2.2.2.2.2.2.2.2⟩⟩ rfl hn hh.1 rfl (lv_room hro) hd hf) hS (fun q _ h => hFc q h) hFc ?_
  intro r w2b t H1 locs1 ht hvm hpost hB hz hk hS1
  obtain ⟨hP1, hD1⟩ := hB
  rw [ht] at hP1
  obtain ⟨hP2, hD2⟩ := z_join hP hD hk hFc hP1 hD1
  exact kk r w2b hpost H1 locs1 ls hP2 hD2 hS1 hh
theorem z_callSNi0 (F : zF p s m args c cc nL Ts own D cl tys A G) {y : MethodName} {bytes : ByteArray} {maxL mc ms n index : Nat} {ret : Option FieldType} {wsy : List Cond} {rm : Room} {As rest : List Value} {host : String} {post : Int32 → va_W → Prop} (hM : zMi l y wsy rm D cl tys G As ws post mc ms)  (cw : va_CN R s args own index y host bytes maxL ret wsy rm mc ms n ∧ (Cond.static y).before args s = true ∧ True) (hd : decode cc pc = .ok (.invokestatic index, 3)) (hst : st = As.reverse ++ rest) (hn : As.length = n) (hro : (rest.map fun v => v.category).sum ≤ 8) (hf : cells + mc ≤ R.cells ∧ slots + ms ≤ R.slots)
    (kk : ∀ (r : Int32) (wb : va_W), post r wb → zW p l e R s m args below meth c nL D cl A (cells + mc) (slots + ms) Q wb (lv) (pc + 3) (.int r :: rest)) : zW p l e R s m args below meth c nL D cl A cells slots Q ws (lv) (pc) (st) := by
  refine z_callSNi (w1 := []) (w3 := []) F hM  cw hd (by simp) hst hn hro hf ?_
  intro r wb hp
  have := kk r wb hp
  simpa using this
theorem z_callSNv (F : zF p s m args c cc nL Ts own D cl tys A G) {y : MethodName} {bytes : ByteArray} {maxL mc ms n index : Nat} {ret : Option FieldType} {wsy : List Cond} {rm : Room} {As rest : List Value} {w1 w2 w3 : va_W} {host : String} {post : va_W → Prop} (hM : zMv l y wsy rm D cl tys G As w2 post mc ms)  (cw : va_CN R s args own index y host bytes maxL ret wsy rm mc ms n ∧ (Cond.static y).before args s = true ∧ True) (hd : decode cc pc = .ok (.invokestatic index, 3)) (hws : ws = w1 ++ (w2 ++ w3)) (hst : st = As.reverse ++ rest) (hn : As.length = n) (hro : (rest.map fun v => v.category).sum ≤ 8) (hf : cells + mc ≤ R.cells ∧ slots + ms ≤ R.slots)
    (kk : ∀ w2b : va_W, post w2b → zW p l e R s m args below meth c nL D cl A (cells + mc) (slots + ms) Q (w1 ++ (w2b ++ w3)) (lv) (pc + 3) (rest)) : zW p l e R s m args below meth c nL D cl A cells slots Q ws (lv) (pc) (st) := by
  subst hws
  subst hst
  intro H locs ls hP hD hS hh
  have hPc := zP_mid hP
  have hDc := zD_mid hD
  have hFc := z_free hD hS F.2.2.2.2.2.2.1
  refine va_callv (va_runSN (As := As) (rest := rest) ⟨F.1, F.2.1, F.2.2.1, F.2.2.2.1, F.2.2.2.2.1⟩ (hM H.size) cw ⟨fun a U g mk q => by
      obtain ⟨q0, q1, qP, qK, qD, qG, qo⟩ := q
      exact ⟨q0, q1, qP, va_K.moved (u := U) (U := U.calling g mk a) (Vm.Alike.refl U.vm) qK, qD, qo U (U.calling g mk a) _ _ (State.WarmedH.refl U) (fun _ _ _ => rfl) (fun _ h => h) qG, qo⟩, fun U hU hW => ⟨rfl, by rw [hU], by rw [hU]; exact hPc, va_K.moved hW.alike F.2.2.2.2.2.1, hDc.weaken (fun _ _ _ _ => trivial), F.2.2.2.2.2.2.2.2 s U A _ hW (fun q h1 h2 => by rw [hU]; exact hS.2.1 q h1 h2) hFc F.2.2.2.2.2.2.2.1, F.2.2.2.2.2.2.2.2⟩⟩ rfl hn hh.1 rfl (lv_room hro) hd hf) hS (fun q _ h => hFc q h) hFc ?_
  intro w2b t H1 locs1 ht hvm hpost hB hz hk hS1
  obtain ⟨hP1, hD1⟩ := hB
  rw [ht] at hP1
  obtain ⟨hP2, hD2⟩ := z_join hP hD hk hFc hP1 hD1
  exact kk w2b hpost H1 locs1 ls hP2 hD2 hS1 hh
theorem z_callSNv0 (F : zF p s m args c cc nL Ts own D cl tys A G) {y : MethodName} {bytes : ByteArray} {maxL mc ms n index : Nat} {ret : Option FieldType} {wsy : List Cond} {rm : Room} {As rest : List Value} {host : String} {post : va_W → Prop} (hM : zMv l y wsy rm D cl tys G As ws post mc ms)  (cw : va_CN R s args own index y host bytes maxL ret wsy rm mc ms n ∧ (Cond.static y).before args s = true ∧ True) (hd : decode cc pc = .ok (.invokestatic index, 3)) (hst : st = As.reverse ++ rest) (hn : As.length = n) (hro : (rest.map fun v => v.category).sum ≤ 8) (hf : cells + mc ≤ R.cells ∧ slots + ms ≤ R.slots)
    (kk : ∀ wb : va_W, post wb → zW p l e R s m args below meth c nL D cl A (cells + mc) (slots + ms) Q wb (lv) (pc + 3) (rest)) : zW p l e R s m args below meth c nL D cl A cells slots Q ws (lv) (pc) (st) := by
  refine z_callSNv (w1 := []) (w3 := []) F hM  cw hd (by simp) hst hn hro hf ?_
  intro wb hp
  have := kk wb hp
  simpa using this
theorem z_callINv (F : zF p s m args c cc nL Ts own D cl tys A G) {y : MethodName} {bytes : ByteArray} {maxL mc ms n index : Nat} {ret : Option FieldType} {wsy : List Cond} {rm : Room} {As rest : List Value} {w1 w2 w3 : va_W} {b : Nat} {host : String} {post : va_W → Prop} (hM : zMv l y wsy rm D cl tys G (.ref b :: As) w2 post mc ms)  (cw : va_CN R s args own index y host bytes maxL none wsy rm mc ms n ∧ y.name = "<init>" ∧ (Cond.instanceMethod y).before args s = true) (hd : decode cc pc = .ok (.invokespecial index, 3)) (hws : ws = w1 ++ (w2 ++ w3)) (hst : st = As.reverse ++ .ref b :: rest) (hn : As.length = n) (hro : (rest.map fun v => v.category).sum ≤ 8) (hf : cells + mc ≤ R.cells ∧ slots + ms ≤ R.slots)
    (kk : ∀ w2b : va_W, post w2b → zW p l e R s m args below meth c nL D cl A (cells + mc) (slots + ms) Q (w1 ++ (w2b ++ w3)) (lv) (pc + 3) (rest)) : zW p l e R s m args below meth c nL D cl A cells slots Q ws (lv) (pc) (st) := by
  subst hws
  subst hst
  intro H locs ls hP hD hS hh
  have hPc := zP_mid hP
  have hDc := zD_mid hD
  have hFc := z_free hD hS F.2.2.2.2.2.2.1
  refine va_callv (va_runIN (As := As) (rest := rest) ⟨F.1, F.2.1, F.2.2.1, F.2.2.2.1, F.2.2.2.2.1⟩ (hM H.size) cw ⟨fun a U g mk q => by
      obtain ⟨q0, q1, qP, qK, qD, qG, qo⟩ := q
      exact ⟨q0, q1, qP, va_K.moved (u := U) (U := U.calling g mk a) (Vm.Alike.refl U.vm) qK, qD, qo U (U.calling g mk a) _ _ (State.WarmedH.refl U) (fun _ _ _ => rfl) (fun _ h => h) qG, qo⟩, fun U hU hW => ⟨rfl, by rw [hU], by rw [hU]; exact hPc, va_K.moved hW.alike F.2.2.2.2.2.1, hDc.weaken (fun _ _ _ _ => trivial), F.2.2.2.2.2.2.2.2 s U A _ hW (fun q h1 h2 => by rw [hU]; exact hS.2.1 q h1 h2) hFc F.2.2.2.2.2.2.2.1, F.2.2.2.2.2.2.2.2⟩⟩ rfl hn hh.1 rfl (lv_room hro) hd hf) hS (fun q _ h => hFc q h) hFc ?_
  intro w2b t H1 locs1 ht hvm hpost hB hz hk hS1
  obtain ⟨hP1, hD1⟩ := hB
  rw [ht] at hP1
  obtain ⟨hP2, hD2⟩ := z_join hP hD hk hFc hP1 hD1
  exact kk w2b hpost H1 locs1 ls hP2 hD2 hS1 hh
theorem z_ofi {y : MethodName} {wsy ws' : List Cond} {rm : Room} {av : List Value} {w : va_W} {post : Int32 → va_W → Prop} {mc ms maxL : Nat} {ret : Option FieldType} (hy : plainName y.cls = true) (hw : wsy = Cond.code y cc maxL ret :: ws') (hlen : (lg_sl av).length ≤ maxL)
    (body : ∀ (p : Program) (e : Env) (s : State) (m : MethodId) (below : List Frame) (meth : Method) (c : Code) (A : Nat → Prop), zF p s m av.toArray c cc maxL ws' y.cls D cl tys A G → meth.sig.returnType = ret → meth.locks = false → meth.name = y.name →
      zW p l e (headSpec wsy rm).room s m av.toArray below meth c maxL D cl A 0 0 (MQ below (va_Qi post (zEnd D cl A) A) av.toArray s mc ms A) w (lv_args 0 av) 0 []) : zMi l y wsy rm D cl tys G av w post mc ms := by
  intro sz
  refine Met.ofW (cc := cc) (maxL := maxL) (ret := ret) hy hw ?_
  intro p e s m args below meth c s₁ B hml hv
  obtain ⟨rfl, hsz, hP, hK, hD0, hG, hok⟩ := hv
  subst hsz
  have hts : ∀ w ∈ ws', w.before av.toArray s = true := fun w h => atoms_spec (ws := wsy) B.pre w (by rw [hw]; exact List.mem_cons_of_mem _ h)
  have hl := lv_entry av (n := maxL) hlen
  rw [lg_entry_eq]
  exact body p e s m below meth c (va_A w s.heap.size) ⟨B.exec, B.bytes, hml, findClass_of_methodNamed B.named, hts, hK, fun q h => Or.inr h, hG, hok⟩ B.returns B.notSynchronized (name_of_methodNamed B.named B.method).1 s.heap [] _ hP hD0.self va_S.rf hl
theorem z_ofv {y : MethodName} {wsy ws' : List Cond} {rm : Room} {av : List Value} {w : va_W} {post : va_W → Prop} {mc ms maxL : Nat} {ret : Option FieldType} (hy : plainName y.cls = true) (hw : wsy = Cond.code y cc maxL ret :: ws') (hlen : (lg_sl av).length ≤ maxL)
    (body : ∀ (p : Program) (e : Env) (s : State) (m : MethodId) (below : List Frame) (meth : Method) (c : Code) (A : Nat → Prop), zF p s m av.toArray c cc maxL ws' y.cls D cl tys A G → meth.sig.returnType = ret → meth.locks = false → meth.name = y.name →
      zW p l e (headSpec wsy rm).room s m av.toArray below meth c maxL D cl A 0 0 (MQ below (va_Qv post (zEnd D cl A) A) av.toArray s mc ms A) w (lv_args 0 av) 0 []) : zMv l y wsy rm D cl tys G av w post mc ms := by
  intro sz
  refine Met.ofW (cc := cc) (maxL := maxL) (ret := ret) hy hw ?_
  intro p e s m args below meth c s₁ B hml hv
  obtain ⟨rfl, hsz, hP, hK, hD0, hG, hok⟩ := hv
  subst hsz
  have hts : ∀ w ∈ ws', w.before av.toArray s = true := fun w h => atoms_spec (ws := wsy) B.pre w (by rw [hw]; exact List.mem_cons_of_mem _ h)
  have hl := lv_entry av (n := maxL) hlen
  rw [lg_entry_eq]
  exact body p e s m below meth c (va_A w s.heap.size) ⟨B.exec, B.bytes, hml, findClass_of_methodNamed B.named, hts, hK, fun q h => Or.inr h, hG, hok⟩ B.returns B.notSynchronized (name_of_methodNamed B.named B.method).1 s.heap [] _ hP hD0.self va_S.rf hl
end ZR
end
section
/-! ===== the z layer, of methods that may throw ===== -/
def zXC (D : va_G) (cl : List vw_C) (A : Nat → Prop) (postX : String → va_W → Prop) : String → State → State → Prop := vx_X (fun _ : va_W => True) (fun E w t => postX E w ∧ zEnd D cl A w t) A
def zXi (l : Launch) (y : MethodName) (wsy : List Cond) (rm : Room) (D : va_G) (cl : List vw_C) (tys : List (ClassId × FieldType)) (G : State → (Nat → Prop) → Prop) (av : List Value) (w : va_W) (post : Int32 → va_W → Prop) (postX : String → va_W → Prop) (mc ms : Nat) : Prop :=
  ∀ sz : Nat, vx_Met l y wsy rm (va_Pc av (zPre D cl tys G w sz)) (va_Qi post (zEnd D cl (va_A w sz)) (va_A w sz)) (zXC D cl (va_A w sz) postX) mc ms (va_A w sz)
def zXv (l : Launch) (y : MethodName) (wsy : List Cond) (rm : Room) (D : va_G) (cl : List vw_C) (tys : List (ClassId × FieldType)) (G : State → (Nat → Prop) → Prop) (av : List Value) (w : va_W) (post : va_W → Prop) (postX : String → va_W → Prop) (mc ms : Nat) : Prop :=
  ∀ sz : Nat, vx_Met l y wsy rm (va_Pc av (zPre D cl tys G w sz)) (va_Qv post (zEnd D cl (va_A w sz)) (va_A w sz)) (zXC D cl (va_A w sz) postX) mc ms (va_A w sz)
/-- the frame with an exception of class E thrown over it -/
def zWx (p : Program) (l : Launch) (e : Env) (R : Room) (s : State) (m : MethodId) (args : Array Value) (below : List Frame) (meth : Method) (c : Code) (nL : Nat) (D : va_G) (cl : List vw_C) (A : Nat → Prop) (cells slots : Nat) (Q : State → Prop) (E : String) (ws : va_W) (lv : List (Nat × Value)) (pc : Nat) (st : List Value) : Prop :=
  ∀ (H : Heap) (locs : List Loc) (ls : Array Slot) (q : Addr) (ce : Cell), va_P D cl ws H → va_D A ws → va_S A s.heap H locs → lv_has ls nL lv → H[q]? = some ce → ce.vm = .none → s.vm.findClass E = some ce.cls → vx_W p l e R s m args below meth c H locs cells slots Q (F0 m pc ls st) q
section ZX
variable {p : Program} {l : Launch} {e : Env} {R : Room} {s : State} {m : MethodId} {args : Array Value} {below : List Frame} {meth : Method} {c : Code} {Q : State → Prop}
variable {cc : ByteArray} {nL cells slots pc : Nat} {D : va_G} {cl : List vw_C} {A : Nat → Prop} {tys : List (ClassId × FieldType)} {Ts : List Cond} {own : String} {G : State → (Nat → Prop) → Prop}
variable {ws : va_W} {lv : List (Nat × Value)} {st : List Value}
theorem zx_outi {E : String} {post : Int32 → va_W → Prop} {postX : String → va_W → Prop} {mc ms : Nat} (hout : ∀ x ∈ c.exceptionTable.toList, False) (hlk : meth.locks = false) (hp : postX E ws) (h1 : cells ≤ mc) (h2 : slots ≤ ms) : zWx p l e R s m args below meth c nL D cl A cells slots (vx_MQ below (va_Qi post (zEnd D cl A) A) (zXC D cl A postX) args s mc ms A) E ws (lv) (pc) (st) := by
  intro H locs ls q ce hP hD hS hh hce hv hcl
  exact vx_out (fun x hx => (hout x hx).elim) hlk hce hv hcl (fun t ht _ => ⟨ws, trivial, ⟨hp, by rw [ht]; exact hP, hD⟩, hS.F ht⟩) hS.2.2 h1 h2
theorem zx_outv {E : String} {post : va_W → Prop} {postX : String → va_W → Prop} {mc ms : Nat} (hout : ∀ x ∈ c.exceptionTable.toList, False) (hlk : meth.locks = false) (hp : postX E ws) (h1 : cells ≤ mc) (h2 : slots ≤ ms) : zWx p l e R s m args below meth c nL D cl A cells slots (vx_MQ below (va_Qv post (zEnd D cl A) A) (zXC D cl A postX) args s mc ms A) E ws (lv) (pc) (st) := by
  intro H locs ls q ce hP hD hS hh hce hv hcl
  exact vx_out (fun x hx => (hout x hx).elim) hlk hce hv hcl (fun t ht _ => ⟨ws, trivial, ⟨hp, by rw [ht]; exact hP, hD⟩, hS.F ht⟩) hS.2.2 h1 h2
theorem zx_iret (F : zF p s m args c cc nL Ts own D cl tys A G) {post : Int32 → va_W → Prop} {postX : String → va_W → Prop} {v : Int32} {mc ms : Nat} {ty : FieldType} (hr : meth.sig.returnType = some ty) (hn : narrow ty (.int v) = .int v) (hlk : meth.locks = false) (hd : decode cc pc = .ok (.ireturn, 1)) (hp : post v ws) (h1 : cells ≤ mc) (h2 : slots ≤ ms) : zW p l e R s m args below meth c nL D cl A cells slots (vx_MQ below (va_Qi post (zEnd D cl A) A) (zXC D cl A postX) args s mc ms A) ws (lv) (pc) ([.int v]) :=
  fun H locs ls hP hD hS hh => vx_ret (z_iret F hr hn hlk hd hp h1 h2 H locs ls hP hD hS hh)
theorem zx_vret (F : zF p s m args c cc nL Ts own D cl tys A G) {post : va_W → Prop} {postX : String → va_W → Prop} {mc ms : Nat} (hr : meth.sig.returnType = none) (hlk : meth.locks = false) (hd : decode cc pc = .ok (.return_, 1)) (hp : post ws) (h1 : cells ≤ mc) (h2 : slots ≤ ms) : zW p l e R s m args below meth c nL D cl A cells slots (vx_MQ below (va_Qv post (zEnd D cl A) A) (zXC D cl A postX) args s mc ms A) ws (lv) (pc) ([]) :=
  fun H locs ls hP hD hS hh => vx_ret (z_vret F hr hlk hd hp h1 h2 H locs ls hP hD hS hh)
theorem zx_throwi (F : zF p s m args c cc nL Ts own D cl tys A G) {post : Int32 → va_W → Prop} {postX : String → va_W → Prop} {mc ms : Nat} (hl : l.stackTraces = false) {cls text : String} {names : List String} {ik is ic : Nat} (hcls : Bundle.fit cls = true) (hnames : ∀ n ∈ names, Bundle.fit n = true)
    (hk : (Cond.classLink own ik cls).before args s = true) (hini : (Cond.initialized cls).before args s = true) (hstr : ∃ sa, vk_R own is text sa s) (hat : ∀ w ∈ vx_atS own ic cls names, w.before args s = true)
    (hgood : ∀ w ∈ Cond.classLink own ik cls :: Cond.initialized cls :: vx_atS own ic cls names, vx_ot w = true)
    (hU : vx_Zq Bundle.tN "UNASSIGNED_STACK" Bundle.steD A s s.heap) (hN : vx_Zq Bundle.tN "SUPPRESSED_SENTINEL" Bundle.listD A s s.heap) (hout : ∀ x ∈ c.exceptionTable.toList, False)
    (d0 : decode cc pc = .ok (.new ik, 3)) (d3 : decode cc (pc + 3) = .ok (.dup, 1)) (d4 : decode cc (pc + 4) = .ok (.ldc is, 2)) (d6 : decode cc (pc + 6) = .ok (.invokespecial ic, 3)) (d9 : decode cc (pc + 9) = .ok (.athrow, 1))
    (hRf : names.length + 3 < R.frames) (hRl : (st.map fun v => v.category).sum + (13 * (names.length + 1) + 43) ≤ R.locals) (hRc : cells + 1 ≤ R.cells) (hRs : slots + 6 ≤ R.slots) (hlk : meth.locks = false) (hp : postX cls ws) (h1 : cells + 1 ≤ mc) (h2 : slots + 6 ≤ ms) :
    zW p l e R s m args below meth c nL D cl A cells slots (vx_MQ below (va_Qi post (zEnd D cl A) A) (zXC D cl A postX) args s mc ms A) ws (lv) (pc) (st) := by
  intro H locs ls hP hD hS hh
  obtain ⟨sa, hsa⟩ := hstr
  refine vx_throwS F.1 F.2.1 hl F.2.2.2.1 hcls hnames hk hini hsa hat hgood hU hN hS (by rw [F.2.2.1]; exact hh.1) d0 d3 d4 d6 d9 (fun x hx => (hout x hx).elim) hRf hRl hRc hRs hlk ?_ hS.2.2 h1 h2
  intro t _ hz hkp
  refine ⟨ws, trivial, ⟨hp, hP.kept (fun k q hq => hkp q.1 (hP k q hq).lt), hD⟩, Nat.le_trans hS.1 hz, fun q h1 h2 => ?_⟩
  rw [hkp q (Nat.lt_of_lt_of_le h1 hS.1)]
  exact hS.2.1 q h1 h2
theorem zx_throwv (F : zF p s m args c cc nL Ts own D cl tys A G) {post : va_W → Prop} {postX : String → va_W → Prop} {mc ms : Nat} (hl : l.stackTraces = false) {cls text : String} {names : List String} {ik is ic : Nat} (hcls : Bundle.fit cls = true) (hnames : ∀ n ∈ names, Bundle.fit n = true)
    (hk : (Cond.classLink own ik cls).before args s = true) (hini : (Cond.initialized cls).before args s = true) (hstr : ∃ sa, vk_R own is text sa s) (hat : ∀ w ∈ vx_atS own ic cls names, w.before args s = true)
    (hgood : ∀ w ∈ Cond.classLink own ik cls :: Cond.initialized cls :: vx_atS own ic cls names, vx_ot w = true)
    (hU : vx_Zq Bundle.tN "UNASSIGNED_STACK" Bundle.steD A s s.heap) (hN : vx_Zq Bundle.tN "SUPPRESSED_SENTINEL" Bundle.listD A s s.heap) (hout : ∀ x ∈ c.exceptionTable.toList, False)
    (d0 : decode cc pc = .ok (.new ik, 3)) (d3 : decode cc (pc + 3) = .ok (.dup, 1)) (d4 : decode cc (pc + 4) = .ok (.ldc is, 2)) (d6 : decode cc (pc + 6) = .ok (.invokespecial ic, 3)) (d9 : decode cc (pc + 9) = .ok (.athrow, 1))
    (hRf : names.length + 3 < R.frames) (hRl : (st.map fun v => v.category).sum + (13 * (names.length + 1) + 43) ≤ R.locals) (hRc : cells + 1 ≤ R.cells) (hRs : slots + 6 ≤ R.slots) (hlk : meth.locks = false) (hp : postX cls ws) (h1 : cells + 1 ≤ mc) (h2 : slots + 6 ≤ ms) :
    zW p l e R s m args below meth c nL D cl A cells slots (vx_MQ below (va_Qv post (zEnd D cl A) A) (zXC D cl A postX) args s mc ms A) ws (lv) (pc) (st) := by
  intro H locs ls hP hD hS hh
  obtain ⟨sa, hsa⟩ := hstr
  refine vx_throwS F.1 F.2.1 hl F.2.2.2.1 hcls hnames hk hini hsa hat hgood hU hN hS (by rw [F.2.2.1]; exact hh.1) d0 d3 d4 d6 d9 (fun x hx => (hout x hx).elim) hRf hRl hRc hRs hlk ?_ hS.2.2 h1 h2
  intro t _ hz hkp
  refine ⟨ws, trivial, ⟨hp, hP.kept (fun k q hq => hkp q.1 (hP k q hq).lt), hD⟩, Nat.le_trans hS.1 hz, fun q h1 h2 => ?_⟩
  rw [hkp q (Nat.lt_of_lt_of_le h1 hS.1)]
  exact hS.2.1 q h1 h2
theorem zx_callVi (F : zF p s m args c cc nL Ts own D cl tys A G) {y : MethodName} {bytes : ByteArray} {maxL mc ms n index : Nat} {ret : Option FieldType} {wsy : List Cond} {rm : Room} {As rest : List Value} {w1 w2 w3 : va_W} {b : Nat} {C : String} {T : u_T} {N ci : Nat} {fs : List Value} {post : Int32 → va_W → Prop} {postX : String → va_W → Prop} (hM : zXi l y wsy rm D cl tys G (.ref b :: As) w2 post postX mc ms) (q0 : Nat) (he : w2[q0]? = some (b, .inr (ci, fs))) (hc : cl[ci]? = some (C, T, N)) (cw : CallW R s args own C index y bytes maxL ret wsy rm mc ms n) (hd : decode cc pc = .ok (.invokevirtual index, 3)) (hws : ws = w1 ++ (w2 ++ w3)) (hst : st = As.reverse ++ .ref b :: rest) (hn : As.length = n) (hro : (rest.map fun v => v.category).sum ≤ 8) (hf : cells + mc ≤ R.cells ∧ slots + ms ≤ R.slots)
    (kx : ∀ (E : String) (w2b : va_W), postX E w2b → zWx p l e R s m args below meth c nL D cl A (cells + mc) (slots + ms) Q E (w1 ++ (w2b ++ w3)) (lv) (pc) (rest)) (kk : ∀ (r : Int32) (w2b : va_W), post r w2b → zW p l e R s m args below meth c nL D cl A (cells + mc) (slots + ms) Q (w1 ++ (w2b ++ w3)) (lv) (pc + 3) (.int r :: rest)) : zW p l e R s m args below meth c nL D cl A cells slots Q ws (lv) (pc) (st) := by
  subst hws
  subst hst
  intro H locs ls hP hD hS hh
  have hPc := zP_mid hP
  have hDc := zD_mid hD
  have hFc := z_free hD hS F.2.2.2.2.2.2.1
  refine vx_calli (vx_runV (As := As) (rest := rest) ⟨F.1, F.2.1, F.2.2.1, F.2.2.2.1, F.2.2.2.2.1⟩ (hM H.size) cw ⟨fun a U g mk q => by
      obtain ⟨q0, q1, qP, qK, qD, qG, qo⟩ := q
      exact ⟨q0, q1, qP, va_K.moved (u := U) (U := U.calling g mk a) (Vm.Alike.refl U.vm) qK, qD, qo U (U.calling g mk a) _ _ (State.WarmedH.refl U) (fun _ _ _ => rfl) (fun _ h => h) qG, qo⟩, va_recv F.2.2.2.2.2.1 hPc hc he, fun U hU hW => ⟨rfl, by rw [hU], by rw [hU]; exact hPc, va_K.moved hW.alike F.2.2.2.2.2.1, hDc.weaken (fun _ _ _ _ => trivial), F.2.2.2.2.2.2.2.2 s U A _ hW (fun q h1 h2 => by rw [hU]; exact hS.2.1 q h1 h2) hFc F.2.2.2.2.2.2.2.1, F.2.2.2.2.2.2.2.2⟩⟩ rfl hn hh.1 rfl (lv_room hro) hd hf) hS (fun q _ h => hFc q h) hFc (fun q _ h => hFc q h) ?_ ?_
  · intro E ce q9 w2b t H1 locs1 ht hvm _ hB hz hk hS1 hce hcv hcl
    obtain ⟨hpx, hP1, hD1⟩ := hB
    rw [ht] at hP1
    obtain ⟨hP2, hD2⟩ := z_join hP hD hk hFc hP1 hD1
    exact kx E w2b hpx H1 locs1 ls q9 ce hP2 hD2 hS1 hh hce hcv hcl
  · intro r w2b t H1 locs1 ht hvm hpost hB hz hk hS1
    obtain ⟨hP1, hD1⟩ := hB
    rw [ht] at hP1
    obtain ⟨hP2, hD2⟩ := z_join hP hD hk hFc hP1 hD1
    exact kk r w2b hpost H1 locs1 ls hP2 hD2 hS1 hh
theorem zx_callVv (F : zF p s m args c cc nL Ts own D cl tys A G) {y : MethodName} {bytes : ByteArray} {maxL mc ms n index : Nat} {ret : Option FieldType} {wsy : List Cond} {rm : Room} {As rest : List Value} {w1 w2 w3 : va_W} {b : Nat} {C : String} {T : u_T} {N ci : Nat} {fs : List Value} {post : va_W → Prop} {postX : String → va_W → Prop} (hM : zXv l y wsy rm D cl tys G (.ref b :: As) w2 post postX mc ms) (q0 : Nat) (he : w2[q0]? = some (b, .inr (ci, fs))) (hc : cl[ci]? = some (C, T, N)) (cw : CallW R s args own C index y bytes maxL ret wsy rm mc ms n) (hd : decode cc pc = .ok (.invokevirtual index, 3)) (hws : ws = w1 ++ (w2 ++ w3)) (hst : st = As.reverse ++ .ref b :: rest) (hn : As.length = n) (hro : (rest.map fun v => v.category).sum ≤ 8) (hf : cells + mc ≤ R.cells ∧ slots + ms ≤ R.slots)
    (kx : ∀ (E : String) (w2b : va_W), postX E w2b → zWx p l e R s m args below meth c nL D cl A (cells + mc) (slots + ms) Q E (w1 ++ (w2b ++ w3)) (lv) (pc) (rest)) (kk : ∀ w2b : va_W, post w2b → zW p l e R s m args below meth c nL D cl A (cells + mc) (slots + ms) Q (w1 ++ (w2b ++ w3)) (lv) (pc + 3) (rest)) : zW p l e R s m args below meth c nL D cl A cells slots Q ws (lv) (pc) (st) := by
  subst hws
  subst hst
  intro H locs ls hP hD hS hh
  have hPc := zP_mid hP
  have hDc := zD_mid hD
  have hFc := z_free hD hS F.2.2.2.2.2.2.1
  refine vx_callv (vx_runV (As := As) (rest := rest) ⟨F.1, F.2.1, F.2.2.1, F.2.2.2.1, F.2.2.2.2.1⟩ (hM H.size) cw ⟨fun a U g mk q => by
      obtain ⟨q0, q1, qP, qK, qD, qG, qo⟩ := q
      exact ⟨q0, q1, qP, va_K.moved (u := U) (U := U.calling g mk a) (Vm.Alike.refl U.vm) qK, qD, qo U (U.calling g mk a) _ _ (State.WarmedH.refl U) (fun _ _ _ => rfl) (fun _ h => h) qG, qo⟩, va_recv F.2.2.2.2.2.1 hPc hc he, fun U hU hW => ⟨rfl, by rw [hU], by rw [hU]; exact hPc, va_K.moved hW.alike F.2.2.2.2.2.1, hDc.weaken (fun _ _ _ _ => trivial), F.2.2.2.2.2.2.2.2 s U A _ hW (fun q h1 h2 => by rw [hU]; exact hS.2.1 q h1 h2) hFc F.2.2.2.2.2.2.2.1, F.2.2.2.2.2.2.2.2⟩⟩ rfl hn hh.1 rfl (lv_room hro) hd hf) hS (fun q _ h => hFc q h) hFc (fun q _ h => hFc q h) ?_ ?_
  · intro E ce q9 w2b t H1 locs1 ht hvm _ hB hz hk hS1 hce hcv hcl
    obtain ⟨hpx, hP1, hD1⟩ := hB
    rw [ht] at hP1
    obtain ⟨hP2, hD2⟩ := z_join hP hD hk hFc hP1 hD1
    exact kx E w2b hpx H1 locs1 ls q9 ce hP2 hD2 hS1 hh hce hcv hcl
  · intro w2b t H1 locs1 ht hvm hpost hB hz hk hS1
    obtain ⟨hP1, hD1⟩ := hB
    rw [ht] at hP1
    obtain ⟨hP2, hD2⟩ := z_join hP hD hk hFc hP1 hD1
    exact kk w2b hpost H1 locs1 ls hP2 hD2 hS1 hh
theorem zx_callSi (F : zF p s m args c cc nL Ts own D cl tys A G) {y : MethodName} {bytes : ByteArray} {maxL mc ms n index : Nat} {ret : Option FieldType} {wsy : List Cond} {rm : Room} {As rest : List Value} {w1 w2 w3 : va_W} {post : Int32 → va_W → Prop} {postX : String → va_W → Prop} (hM : zXi l y wsy rm D cl tys G As w2 post postX mc ms)  (cw : CallB R s args own index y bytes maxL ret wsy rm mc ms n ∧ (Cond.static y).before args s = true) (hd : decode cc pc = .ok (.invokestatic index, 3)) (hws : ws = w1 ++ (w2 ++ w3)) (hst : st = As.reverse ++ rest) (hn : As.length = n) (hro : (rest.map fun v => v.category).sum ≤ 8) (hf : cells + mc ≤ R.cells ∧ slots + ms ≤ R.slots)
    (kx : ∀ (E : String) (w2b : va_W), postX E w2b → zWx p l e R s m args below meth c nL D cl A (cells + mc) (slots + ms) Q E (w1 ++ (w2b ++ w3)) (lv) (pc) (rest)) (kk : ∀ (r : Int32) (w2b : va_W), post r w2b → zW p l e R s m args below meth c nL D cl A (cells + mc) (slots + ms) Q (w1 ++ (w2b ++ w3)) (lv) (pc + 3) (.int r :: rest)) : zW p l e R s m args below meth c nL D cl A cells slots Q ws (lv) (pc) (st) := by
  subst hws
  subst hst
  intro H locs ls hP hD hS hh
  have hPc := zP_mid hP
  have hDc := zD_mid hD
  have hFc := z_free hD hS F.2.2.2.2.2.2.1
  refine vx_calli (vx_runS (As := As) (rest := rest) ⟨F.1, F.2.1, F.2.2.1, F.2.2.2.1, F.2.2.2.2.1⟩ (hM H.size) cw ⟨fun a U g mk q => by
      obtain ⟨q0, q1, qP, qK, qD, qG, qo⟩ := q
      exact ⟨q0, q1, qP, va_K.moved (u := U) (U := U.calling g mk a) (Vm.Alike.refl U.vm) qK, qD, qo U (U.calling g mk a) _ _ (State.WarmedH.refl U) (fun _ _ _ => rfl) (fun _ h => h) qG, qo⟩, fun U hU hW => ⟨rfl, by rw [hU], by rw [hU]; exact hPc, va_K.moved hW.alike F.2.2.2.2.2.1, hDc.weaken (fun _ _ _ _ => trivial), F.2.2.2.2.2.2.2.2 s U A _ hW (fun q h1 h2 => by rw [hU]; exact hS.2.1 q h1 h2) hFc F.2.2.2.2.2.2.2.1, F.2.2.2.2.2.2.2.2⟩⟩ rfl hn hh.1 rfl (lv_room hro) hd hf) hS (fun q _ h => hFc q h) hFc (fun q _ h => hFc q h) ?_ ?_
  · intro E ce q9 w2b t H1 locs1 ht hvm _ hB hz hk hS1 hce hcv hcl
    obtain ⟨hpx, hP1, hD1⟩ := hB
    rw [ht] at hP1
    obtain ⟨hP2, hD2⟩ := z_join hP hD hk hFc hP1 hD1
    exact kx E w2b hpx H1 locs1 ls q9 ce hP2 hD2 hS1 hh hce hcv hcl
  · intro r w2b t H1 locs1 ht hvm hpost hB hz hk hS1
    obtain ⟨hP1, hD1⟩ := hB
    rw [ht] at hP1
    obtain ⟨hP2, hD2⟩ := z_join hP hD hk hFc hP1 hD1
    exact kk r w2b hpost H1 locs1 ls hP2 hD2 hS1 hh
theorem zx_callSv (F : zF p s m args c cc nL Ts own D cl tys A G) {y : MethodName} {bytes : ByteArray} {maxL mc ms n index : Nat} {ret : Option FieldType} {wsy : List Cond} {rm : Room} {As rest : List Value} {w1 w2 w3 : va_W} {post : va_W → Prop} {postX : String → va_W → Prop} (hM : zXv l y wsy rm D cl tys G As w2 post postX mc ms)  (cw : CallB R s args own index y bytes maxL ret wsy rm mc ms n ∧ (Cond.static y).before args s = true) (hd : decode cc pc = .ok (.invokestatic index, 3)) (hws : ws = w1 ++ (w2 ++ w3)) (hst : st = As.reverse ++ rest) (hn : As.length = n) (hro : (rest.map fun v => v.category).sum ≤ 8) (hf : cells + mc ≤ R.cells ∧ slots + ms ≤ R.slots)
    (kx : ∀ (E : String) (w2b : va_W), postX E w2b → zWx p l e R s m args below meth c nL D cl A (cells + mc) (slots + ms) Q E (w1 ++ (w2b ++ w3)) (lv) (pc) (rest)) (kk : ∀ w2b : va_W, post w2b → zW p l e R s m args below meth c nL D cl A (cells + mc) (slots + ms) Q (w1 ++ (w2b ++ w3)) (lv) (pc + 3) (rest)) : zW p l e R s m args below meth c nL D cl A cells slots Q ws (lv) (pc) (st) := by
  subst hws
  subst hst
  intro H locs ls hP hD hS hh
  have hPc := zP_mid hP
  have hDc := zD_mid hD
  have hFc := z_free hD hS F.2.2.2.2.2.2.1
  refine vx_callv (vx_runS (As := As) (rest := rest) ⟨F.1, F.2.1, F.2.2.1, F.2.2.2.1, F.2.2.2.2.1⟩ (hM H.size) cw ⟨fun a U g mk q => by
      obtain ⟨q0, q1, qP, qK, qD, qG, qo⟩ := q
      exact ⟨q0, q1, qP, va_K.moved (u := U) (U := U.calling g mk a) (Vm.Alike.refl U.vm) qK, qD, qo U (U.calling g mk a) _ _ (State.WarmedH.refl U) (fun _ _ _ => rfl) (fun _ h => h) qG, qo⟩, fun U hU hW => ⟨rfl, by rw [hU], by rw [hU]; exact hPc, va_K.moved hW.alike F.2.2.2.2.2.1, hDc.weaken (fun _ _ _ _ => trivial), F.2.2.2.2.2.2.2.2 s U A _ hW (fun q h1 h2 => by rw [hU]; exact hS.2.1 q h1 h2) hFc F.2.2.2.2.2.2.2.1, F.2.2.2.2.2.2.2.2⟩⟩ rfl hn hh.1 rfl (lv_room hro) hd hf) hS (fun q _ h => hFc q h) hFc (fun q _ h => hFc q h) ?_ ?_
  · intro E ce q9 w2b t H1 locs1 ht hvm _ hB hz hk hS1 hce hcv hcl
    obtain ⟨hpx, hP1, hD1⟩ := hB
    rw [ht] at hP1
    obtain ⟨hP2, hD2⟩ := z_join hP hD hk hFc hP1 hD1
    exact kx E w2b hpx H1 locs1 ls q9 ce hP2 hD2 hS1 hh hce hcv hcl
  · intro w2b t H1 locs1 ht hvm hpost hB hz hk hS1
    obtain ⟨hP1, hD1⟩ := hB
    rw [ht] at hP1
    obtain ⟨hP2, hD2⟩ := z_join hP hD hk hFc hP1 hD1
    exact kk w2b hpost H1 locs1 ls hP2 hD2 hS1 hh
theorem zx_catch (F : zF p s m args c cc nL Ts own D cl tys A G) {name E : String} (pre : List ExceptionTableEntry) (x : ExceptionTableEntry) (suf : List ExceptionTableEntry) (hsplit : c.exceptionTable.toList = pre ++ x :: suf)
    (hpass : ∀ z ∈ pre, covers z pc = false ∨ (z.catchType ≠ 0 ∧ ∃ nm : String, (Cond.classLink own z.catchType nm).before args s = true ∧ va_Nc E nm s)) (hx : covers x pc = true) (h0 : x.catchType ≠ 0)
    (hlink : (Cond.classLink own x.catchType name).before args s = true) (hcast : (Cond.castable E name).before args s = true) (kk : ∀ q : Nat, zW p l e R s m args below meth c nL D cl A cells slots Q ws (lv) (x.handlerPc) ([.ref q])) : zWx p l e R s m args below meth c nL D cl A cells slots Q E ws (lv) (pc) (st) :=
  fun H locs ls q ce hP hD hS hh hce hv hcl => vx_catch F.2.2.2.1 pre x suf hsplit hpass hx h0 hlink hcast hce hv hcl (kk q H locs ls hP hD hS hh)
theorem zx_ofi {y : MethodName} {wsy ws' : List Cond} {rm : Room} {av : List Value} {w : va_W} {post : Int32 → va_W → Prop} {postX : String → va_W → Prop} {mc ms maxL : Nat} {ret : Option FieldType} (hy : plainName y.cls = true) (hw : wsy = Cond.code y cc maxL ret :: ws') (hlen : (lg_sl av).length ≤ maxL)
    (body : ∀ (p : Program) (e : Env) (s : State) (m : MethodId) (below : List Frame) (meth : Method) (c : Code) (A : Nat → Prop), zF p s m av.toArray c cc maxL ws' y.cls D cl tys A G → meth.sig.returnType = ret → meth.locks = false → meth.name = y.name → (∀ x ∈ c.exceptionTable.toList, False) →
      zW p l e (headSpec wsy rm).room s m av.toArray below meth c maxL D cl A 0 0 (vx_MQ below (va_Qi post (zEnd D cl A) A) (zXC D cl A postX) av.toArray s mc ms A) w (lv_args 0 av) 0 []) : zXi l y wsy rm D cl tys G av w post postX mc ms := by
  intro sz
  refine vx_ofW (cc := cc) (maxL := maxL) (ret := ret) hy hw ?_
  intro p e s m args below meth c s₁ B hml hex hv
  obtain ⟨rfl, hsz, hP, hK, hD0, hG, hok⟩ := hv
  subst hsz
  have hts : ∀ w ∈ ws', w.before av.toArray s = true := fun w h => atoms_spec (ws := wsy) B.pre w (by rw [hw]; exact List.mem_cons_of_mem _ h)
  have hl := lv_entry av (n := maxL) hlen
  rw [lg_entry_eq]
  exact body p e s m below meth c (va_A w s.heap.size) ⟨B.exec, B.bytes, hml, findClass_of_methodNamed B.named, hts, hK, fun q h => Or.inr h, hG, hok⟩ B.returns B.notSynchronized (name_of_methodNamed B.named B.method).1 hex s.heap [] _ hP hD0.self va_S.rf hl
theorem zx_ofv {y : MethodName} {wsy ws' : List Cond} {rm : Room} {av : List Value} {w : va_W} {post : va_W → Prop} {postX : String → va_W → Prop} {mc ms maxL : Nat} {ret : Option FieldType} (hy : plainName y.cls = true) (hw : wsy = Cond.code y cc maxL ret :: ws') (hlen : (lg_sl av).length ≤ maxL)
    (body : ∀ (p : Program) (e : Env) (s : State) (m : MethodId) (below : List Frame) (meth : Method) (c : Code) (A : Nat → Prop), zF p s m av.toArray c cc maxL ws' y.cls D cl tys A G → meth.sig.returnType = ret → meth.locks = false → meth.name = y.name → (∀ x ∈ c.exceptionTable.toList, False) →
      zW p l e (headSpec wsy rm).room s m av.toArray below meth c maxL D cl A 0 0 (vx_MQ below (va_Qv post (zEnd D cl A) A) (zXC D cl A postX) av.toArray s mc ms A) w (lv_args 0 av) 0 []) : zXv l y wsy rm D cl tys G av w post postX mc ms := by
  intro sz
  refine vx_ofW (cc := cc) (maxL := maxL) (ret := ret) hy hw ?_
  intro p e s m args below meth c s₁ B hml hex hv
  obtain ⟨rfl, hsz, hP, hK, hD0, hG, hok⟩ := hv
  subst hsz
  have hts : ∀ w ∈ ws', w.before av.toArray s = true := fun w h => atoms_spec (ws := wsy) B.pre w (by rw [hw]; exact List.mem_cons_of_mem _ h)
  have hl := lv_entry av (n := maxL) hlen
  rw [lg_entry_eq]
  exact body p e s m below meth c (va_A w s.heap.size) ⟨B.exec, B.bytes, hml, findClass_of_methodNamed B.named, hts, hK, fun q h => Or.inr h, hG, hok⟩ B.returns B.notSynchronized (name_of_methodNamed B.named B.method).1 hex s.heap [] _ hP hD0.self va_S.rf hl
end ZX
end
section
-- ===== PART A: goes FIRST, ahead of the names: the tables' words, and 'selects' of the private methods out of them =====
/-- a private method of a class that the tables say can be made, by its rows of tables_1 -/
def lw_okq (q : MethodName × Nat) : Prop := (q.1.cls ≠ "java/lang/invoke/MethodHandle" ∧ q.1.cls ≠ "java/lang/invoke/VarHandle") ∧ Cond.instantiable q.1.cls q.2 ∈ tables_1 ∧ Cond.privateMethod q.1 ∈ tables_1 ∧ Cond.instanceMethod q.1 ∈ tables_1
theorem lw_p0 : lw_okq (⟨"java/lang/Throwable", "fillInStackTrace", "(I)Ljava/lang/Throwable;"⟩, 6) := ⟨⟨by decide +kernel, by decide +kernel⟩, List.mem_of_getElem? (i := 220) (by decide +kernel), List.mem_of_getElem? (i := 218) (by decide +kernel), List.mem_of_getElem? (i := 219) (by decide +kernel)⟩
theorem lw_p1 : lw_okq (⟨"BoxChoice", "needUnit", "(I)V"⟩, 4) := ⟨⟨by decide +kernel, by decide +kernel⟩, List.mem_of_getElem? (i := 16) (by decide +kernel), List.mem_of_getElem? (i := 300) (by decide +kernel), List.mem_of_getElem? (i := 301) (by decide +kernel)⟩
theorem lw_p2 : lw_okq (⟨"BoxChoice$Units", "relateOneWay", "(III)V"⟩, 6) := ⟨⟨by decide +kernel, by decide +kernel⟩, List.mem_of_getElem? (i := 51) (by decide +kernel), List.mem_of_getElem? (i := 327) (by decide +kernel), List.mem_of_getElem? (i := 328) (by decide +kernel)⟩
theorem lw_p3 : lw_okq (⟨"BoxChoice", "putExactly", "()Z"⟩, 4) := ⟨⟨by decide +kernel, by decide +kernel⟩, List.mem_of_getElem? (i := 16) (by decide +kernel), List.mem_of_getElem? (i := 364) (by decide +kernel), List.mem_of_getElem? (i := 365) (by decide +kernel)⟩
theorem lw_p4 : lw_okq (⟨"BoxChoice", "boxesFor", "(I)I"⟩, 4) := ⟨⟨by decide +kernel, by decide +kernel⟩, List.mem_of_getElem? (i := 16) (by decide +kernel), List.mem_of_getElem? (i := 376) (by decide +kernel), List.mem_of_getElem? (i := 377) (by decide +kernel)⟩
theorem lw_p5 : lw_okq (⟨"BoxChoice", "boxesThatCarry", "(I)I"⟩, 4) := ⟨⟨by decide +kernel, by decide +kernel⟩, List.mem_of_getElem? (i := 16) (by decide +kernel), List.mem_of_getElem? (i := 388) (by decide +kernel), List.mem_of_getElem? (i := 389) (by decide +kernel)⟩
theorem lw_p6 : lw_okq (⟨"BoxChoice$Units", "sumOf", "([II)I"⟩, 6) := ⟨⟨by decide +kernel, by decide +kernel⟩, List.mem_of_getElem? (i := 51) (by decide +kernel), List.mem_of_getElem? (i := 404) (by decide +kernel), List.mem_of_getElem? (i := 405) (by decide +kernel)⟩
theorem lw_p7 : lw_okq (⟨"BoxChoice$Catalogue", "withAtLeast", "([II)I"⟩, 6) := ⟨⟨by decide +kernel, by decide +kernel⟩, List.mem_of_getElem? (i := 24) (by decide +kernel), List.mem_of_getElem? (i := 412) (by decide +kernel), List.mem_of_getElem? (i := 413) (by decide +kernel)⟩
theorem lw_p8 : lw_okq (⟨"BoxChoice$ExactSearch", "findBest", "(I)V"⟩, 5) := ⟨⟨by decide +kernel, by decide +kernel⟩, List.mem_of_getElem? (i := 106) (by decide +kernel), List.mem_of_getElem? (i := 446) (by decide +kernel), List.mem_of_getElem? (i := 447) (by decide +kernel)⟩
theorem lw_p9 : lw_okq (⟨"BoxChoice$ExactSearch", "tryFirst", "(II)V"⟩, 5) := ⟨⟨by decide +kernel, by decide +kernel⟩, List.mem_of_getElem? (i := 106) (by decide +kernel), List.mem_of_getElem? (i := 450) (by decide +kernel), List.mem_of_getElem? (i := 451) (by decide +kernel)⟩
theorem lw_p10 : lw_okq (⟨"BoxChoice$ExactSearch", "isBetter", "(IIII)Z"⟩, 5) := ⟨⟨by decide +kernel, by decide +kernel⟩, List.mem_of_getElem? (i := 106) (by decide +kernel), List.mem_of_getElem? (i := 454) (by decide +kernel), List.mem_of_getElem? (i := 455) (by decide +kernel)⟩
theorem lw_p11 : lw_okq (⟨"BoxChoice", "putByRule", "()Z"⟩, 4) := ⟨⟨by decide +kernel, by decide +kernel⟩, List.mem_of_getElem? (i := 16) (by decide +kernel), List.mem_of_getElem? (i := 462) (by decide +kernel), List.mem_of_getElem? (i := 463) (by decide +kernel)⟩
theorem lw_p12 : lw_okq (⟨"BoxChoice", "putCompany", "(I)Z"⟩, 4) := ⟨⟨by decide +kernel, by decide +kernel⟩, List.mem_of_getElem? (i := 16) (by decide +kernel), List.mem_of_getElem? (i := 471) (by decide +kernel), List.mem_of_getElem? (i := 472) (by decide +kernel)⟩
theorem lw_p13 : lw_okq (⟨"BoxChoice", "needBox", "(I)V"⟩, 4) := ⟨⟨by decide +kernel, by decide +kernel⟩, List.mem_of_getElem? (i := 16) (by decide +kernel), List.mem_of_getElem? (i := 532) (by decide +kernel), List.mem_of_getElem? (i := 533) (by decide +kernel)⟩
theorem lw_p14 : lw_okq (⟨"BoxChoiceModel", "isUnit", "(I)Z"⟩, 20) := ⟨⟨by decide +kernel, by decide +kernel⟩, List.mem_of_getElem? (i := 594) (by decide +kernel), List.mem_of_getElem? (i := 680) (by decide +kernel), List.mem_of_getElem? (i := 681) (by decide +kernel)⟩
theorem lw_p15 : lw_okq (⟨"BoxChoiceModel", "exactly", "()V"⟩, 20) := ⟨⟨by decide +kernel, by decide +kernel⟩, List.mem_of_getElem? (i := 594) (by decide +kernel), List.mem_of_getElem? (i := 696) (by decide +kernel), List.mem_of_getElem? (i := 697) (by decide +kernel)⟩
def lw_privs_1 : List (MethodName × Nat) := [(⟨"java/lang/Throwable", "fillInStackTrace", "(I)Ljava/lang/Throwable;"⟩, 6), (⟨"BoxChoice", "needUnit", "(I)V"⟩, 4), (⟨"BoxChoice$Units", "relateOneWay", "(III)V"⟩, 6), (⟨"BoxChoice", "putExactly", "()Z"⟩, 4), (⟨"BoxChoice", "boxesFor", "(I)I"⟩, 4), (⟨"BoxChoice", "boxesThatCarry", "(I)I"⟩, 4), (⟨"BoxChoice$Units", "sumOf", "([II)I"⟩, 6), (⟨"BoxChoice$Catalogue", "withAtLeast", "([II)I"⟩, 6), (⟨"BoxChoice$ExactSearch", "findBest", "(I)V"⟩, 5), (⟨"BoxChoice$ExactSearch", "tryFirst", "(II)V"⟩, 5), (⟨"BoxChoice$ExactSearch", "isBetter", "(IIII)Z"⟩, 5), (⟨"BoxChoice", "putByRule", "()Z"⟩, 4), (⟨"BoxChoice", "putCompany", "(I)Z"⟩, 4), (⟨"BoxChoice", "needBox", "(I)V"⟩, 4), (⟨"BoxChoiceModel", "isUnit", "(I)Z"⟩, 20), (⟨"BoxChoiceModel", "exactly", "()V"⟩, 20)]
theorem lw_r1 : ∀ q ∈ lw_privs_1, lw_okq q := List.forall_mem_cons.mpr ⟨lw_p0, List.forall_mem_cons.mpr ⟨lw_p1, List.forall_mem_cons.mpr ⟨lw_p2, List.forall_mem_cons.mpr ⟨lw_p3, List.forall_mem_cons.mpr ⟨lw_p4, List.forall_mem_cons.mpr ⟨lw_p5, List.forall_mem_cons.mpr ⟨lw_p6, List.forall_mem_cons.mpr ⟨lw_p7, List.forall_mem_cons.mpr ⟨lw_p8, List.forall_mem_cons.mpr ⟨lw_p9, List.forall_mem_cons.mpr ⟨lw_p10, List.forall_mem_cons.mpr ⟨lw_p11, List.forall_mem_cons.mpr ⟨lw_p12, List.forall_mem_cons.mpr ⟨lw_p13, List.forall_mem_cons.mpr ⟨lw_p14, List.forall_mem_cons.mpr ⟨lw_p15, fun _ h => absurd h List.not_mem_nil⟩⟩⟩⟩⟩⟩⟩⟩⟩⟩⟩⟩⟩⟩⟩⟩
theorem lw_p16 : lw_okq (⟨"BoxChoiceModel", "isWay", "()Z"⟩, 20) := ⟨⟨by decide +kernel, by decide +kernel⟩, List.mem_of_getElem? (i := 594) (by decide +kernel), List.mem_of_getElem? (i := 700) (by decide +kernel), List.mem_of_getElem? (i := 701) (by decide +kernel)⟩
theorem lw_p17 : lw_okq (⟨"BoxChoiceModel", "cheapest", "(I)I"⟩, 20) := ⟨⟨by decide +kernel, by decide +kernel⟩, List.mem_of_getElem? (i := 594) (by decide +kernel), List.mem_of_getElem? (i := 704) (by decide +kernel), List.mem_of_getElem? (i := 705) (by decide +kernel)⟩
theorem lw_p18 : lw_okq (⟨"BoxChoiceModel", "fitsSet", "(II)Z"⟩, 20) := ⟨⟨by decide +kernel, by decide +kernel⟩, List.mem_of_getElem? (i := 594) (by decide +kernel), List.mem_of_getElem? (i := 708) (by decide +kernel), List.mem_of_getElem? (i := 709) (by decide +kernel)⟩
theorem lw_p19 : lw_okq (⟨"BoxChoiceModel", "passes", "(III)Z"⟩, 20) := ⟨⟨by decide +kernel, by decide +kernel⟩, List.mem_of_getElem? (i := 594) (by decide +kernel), List.mem_of_getElem? (i := 712) (by decide +kernel), List.mem_of_getElem? (i := 713) (by decide +kernel)⟩
theorem lw_p20 : lw_okq (⟨"BoxChoiceModel", "takesKinds", "(II)Z"⟩, 20) := ⟨⟨by decide +kernel, by decide +kernel⟩, List.mem_of_getElem? (i := 594) (by decide +kernel), List.mem_of_getElem? (i := 716) (by decide +kernel), List.mem_of_getElem? (i := 717) (by decide +kernel)⟩
theorem lw_p21 : lw_okq (⟨"BoxChoiceModel", "sizes", "(I)I"⟩, 20) := ⟨⟨by decide +kernel, by decide +kernel⟩, List.mem_of_getElem? (i := 594) (by decide +kernel), List.mem_of_getElem? (i := 723) (by decide +kernel), List.mem_of_getElem? (i := 724) (by decide +kernel)⟩
theorem lw_p22 : lw_okq (⟨"BoxChoiceModel", "weights", "(I)I"⟩, 20) := ⟨⟨by decide +kernel, by decide +kernel⟩, List.mem_of_getElem? (i := 594) (by decide +kernel), List.mem_of_getElem? (i := 727) (by decide +kernel), List.mem_of_getElem? (i := 728) (by decide +kernel)⟩
theorem lw_p23 : lw_okq (⟨"BoxChoiceModel", "hasApart", "(I)Z"⟩, 20) := ⟨⟨by decide +kernel, by decide +kernel⟩, List.mem_of_getElem? (i := 594) (by decide +kernel), List.mem_of_getElem? (i := 731) (by decide +kernel), List.mem_of_getElem? (i := 732) (by decide +kernel)⟩
theorem lw_p24 : lw_okq (⟨"BoxChoiceModel", "isWhole", "(I)Z"⟩, 20) := ⟨⟨by decide +kernel, by decide +kernel⟩, List.mem_of_getElem? (i := 594) (by decide +kernel), List.mem_of_getElem? (i := 735) (by decide +kernel), List.mem_of_getElem? (i := 736) (by decide +kernel)⟩
theorem lw_p25 : lw_okq (⟨"BoxChoiceModel", "isBetter", "()Z"⟩, 20) := ⟨⟨by decide +kernel, by decide +kernel⟩, List.mem_of_getElem? (i := 594) (by decide +kernel), List.mem_of_getElem? (i := 739) (by decide +kernel), List.mem_of_getElem? (i := 740) (by decide +kernel)⟩
theorem lw_p26 : lw_okq (⟨"BoxChoiceModel", "costOf", "([II)I"⟩, 20) := ⟨⟨by decide +kernel, by decide +kernel⟩, List.mem_of_getElem? (i := 594) (by decide +kernel), List.mem_of_getElem? (i := 743) (by decide +kernel), List.mem_of_getElem? (i := 744) (by decide +kernel)⟩
theorem lw_p27 : lw_okq (⟨"BoxChoiceModel", "keep", "()V"⟩, 20) := ⟨⟨by decide +kernel, by decide +kernel⟩, List.mem_of_getElem? (i := 594) (by decide +kernel), List.mem_of_getElem? (i := 747) (by decide +kernel), List.mem_of_getElem? (i := 748) (by decide +kernel)⟩
theorem lw_p28 : lw_okq (⟨"BoxChoiceModel", "next", "()Z"⟩, 20) := ⟨⟨by decide +kernel, by decide +kernel⟩, List.mem_of_getElem? (i := 594) (by decide +kernel), List.mem_of_getElem? (i := 751) (by decide +kernel), List.mem_of_getElem? (i := 752) (by decide +kernel)⟩
theorem lw_p29 : lw_okq (⟨"BoxChoiceModel", "byRule", "()V"⟩, 20) := ⟨⟨by decide +kernel, by decide +kernel⟩, List.mem_of_getElem? (i := 594) (by decide +kernel), List.mem_of_getElem? (i := 755) (by decide +kernel), List.mem_of_getElem? (i := 756) (by decide +kernel)⟩
theorem lw_p30 : lw_okq (⟨"BoxChoiceModel", "wholeOf", "(I)I"⟩, 20) := ⟨⟨by decide +kernel, by decide +kernel⟩, List.mem_of_getElem? (i := 594) (by decide +kernel), List.mem_of_getElem? (i := 759) (by decide +kernel), List.mem_of_getElem? (i := 760) (by decide +kernel)⟩
theorem lw_p31 : lw_okq (⟨"BoxChoiceModel", "isBox", "(I)Z"⟩, 20) := ⟨⟨by decide +kernel, by decide +kernel⟩, List.mem_of_getElem? (i := 594) (by decide +kernel), List.mem_of_getElem? (i := 787) (by decide +kernel), List.mem_of_getElem? (i := 788) (by decide +kernel)⟩
def lw_privs_2 : List (MethodName × Nat) := [(⟨"BoxChoiceModel", "isWay", "()Z"⟩, 20), (⟨"BoxChoiceModel", "cheapest", "(I)I"⟩, 20), (⟨"BoxChoiceModel", "fitsSet", "(II)Z"⟩, 20), (⟨"BoxChoiceModel", "passes", "(III)Z"⟩, 20), (⟨"BoxChoiceModel", "takesKinds", "(II)Z"⟩, 20), (⟨"BoxChoiceModel", "sizes", "(I)I"⟩, 20), (⟨"BoxChoiceModel", "weights", "(I)I"⟩, 20), (⟨"BoxChoiceModel", "hasApart", "(I)Z"⟩, 20), (⟨"BoxChoiceModel", "isWhole", "(I)Z"⟩, 20), (⟨"BoxChoiceModel", "isBetter", "()Z"⟩, 20), (⟨"BoxChoiceModel", "costOf", "([II)I"⟩, 20), (⟨"BoxChoiceModel", "keep", "()V"⟩, 20), (⟨"BoxChoiceModel", "next", "()Z"⟩, 20), (⟨"BoxChoiceModel", "byRule", "()V"⟩, 20), (⟨"BoxChoiceModel", "wholeOf", "(I)I"⟩, 20), (⟨"BoxChoiceModel", "isBox", "(I)Z"⟩, 20)]
theorem lw_r2 : ∀ q ∈ lw_privs_2, lw_okq q := List.forall_mem_cons.mpr ⟨lw_p16, List.forall_mem_cons.mpr ⟨lw_p17, List.forall_mem_cons.mpr ⟨lw_p18, List.forall_mem_cons.mpr ⟨lw_p19, List.forall_mem_cons.mpr ⟨lw_p20, List.forall_mem_cons.mpr ⟨lw_p21, List.forall_mem_cons.mpr ⟨lw_p22, List.forall_mem_cons.mpr ⟨lw_p23, List.forall_mem_cons.mpr ⟨lw_p24, List.forall_mem_cons.mpr ⟨lw_p25, List.forall_mem_cons.mpr ⟨lw_p26, List.forall_mem_cons.mpr ⟨lw_p27, List.forall_mem_cons.mpr ⟨lw_p28, List.forall_mem_cons.mpr ⟨lw_p29, List.forall_mem_cons.mpr ⟨lw_p30, List.forall_mem_cons.mpr ⟨lw_p31, fun _ h => absurd h List.not_mem_nil⟩⟩⟩⟩⟩⟩⟩⟩⟩⟩⟩⟩⟩⟩⟩⟩
def lw_privs : List (MethodName × Nat) := lw_privs_1 ++ (lw_privs_2)
def lw_tbl : List Cond := k2_sels lw_privs ++ tables_1
theorem lw_privs_ok : ∀ q ∈ lw_privs, lw_okq q := by
  show ∀ q ∈ lw_privs_1 ++ (lw_privs_2), lw_okq q
  exact List.forall_mem_append.mpr ⟨lw_r1, lw_r2⟩
end
section
/-! names, field tables, words: printed by wip/whole/gen/names.py -/
def RX0 : String := "BoxChoice$Catalogue"
def TX0 : u_T := fun k => match k with
  | 0 => ("BoxChoice$Catalogue", "rooms", "[I", true)
  | 1 => ("BoxChoice$Catalogue", "loads", "[I", true)
  | 2 => ("BoxChoice$Catalogue", "costs", "[I", true)
  | 3 => ("BoxChoice$Catalogue", "kindSets", "[I", true)
  | 4 => ("BoxChoice$Catalogue", "held", "I", false)
  | _ => ("BoxChoice$Catalogue", "keptSlack", "I", false)
def tyX0 : Nat → FieldType := fun k => match k with
  | 0 => .array .int
  | 1 => .array .int
  | 2 => .array .int
  | 3 => .array .int
  | 4 => .int
  | _ => .int
theorem nmX0 : ∀ a, a < 6 → ∀ b, b < 6 → a ≠ b → (TX0 a).2.1 ≠ (TX0 b).2.1 := by decide +kernel
theorem tyX0_ok : ∀ k, k < 6 → parseFieldDescriptor (TX0 k).2.2.1 = some (tyX0 k) := by decide +kernel
def RX1 : String := "BoxChoice$Choice"
def TX1 : u_T := fun k => match k with
  | 0 => ("BoxChoice$Choice", "boxNumbers", "[I", true)
  | 1 => ("BoxChoice$Choice", "unitSets", "[I", true)
  | 2 => ("BoxChoice$Choice", "held", "I", false)
  | 3 => ("BoxChoice$Choice", "cost", "I", false)
  | 4 => ("BoxChoice$Choice", "made", "Z", false)
  | _ => ("BoxChoice$Choice", "exactly", "Z", false)
def tyX1 : Nat → FieldType := fun k => match k with
  | 0 => .array .int
  | 1 => .array .int
  | 2 => .int
  | 3 => .int
  | 4 => .boolean
  | _ => .boolean
theorem nmX1 : ∀ a, a < 6 → ∀ b, b < 6 → a ≠ b → (TX1 a).2.1 ≠ (TX1 b).2.1 := by decide +kernel
theorem tyX1_ok : ∀ k, k < 6 → parseFieldDescriptor (TX1 k).2.2.1 = some (tyX1 k) := by decide +kernel
def RX2 : String := "BoxChoice$ExactSearch"
def TX2 : u_T := fun k => match k with
  | 0 => ("BoxChoice$ExactSearch", "offeredBox", "[I", true)
  | 1 => ("BoxChoice$ExactSearch", "offeredCost", "[I", true)
  | 2 => ("BoxChoice$ExactSearch", "leastCost", "[I", true)
  | 3 => ("BoxChoice$ExactSearch", "fewestBoxes", "[I", true)
  | _ => ("BoxChoice$ExactSearch", "firstSet", "[I", true)
def tyX2 : Nat → FieldType := fun k => match k with
  | 0 => .array .int
  | 1 => .array .int
  | 2 => .array .int
  | 3 => .array .int
  | _ => .array .int
theorem nmX2 : ∀ a, a < 5 → ∀ b, b < 5 → a ≠ b → (TX2 a).2.1 ≠ (TX2 b).2.1 := by decide +kernel
theorem tyX2_ok : ∀ k, k < 5 → parseFieldDescriptor (TX2 k).2.2.1 = some (tyX2 k) := by decide +kernel
def RX3 : String := "BoxChoice$Units"
def TX3 : u_T := fun k => match k with
  | 0 => ("BoxChoice$Units", "sizes", "[I", true)
  | 1 => ("BoxChoice$Units", "weights", "[I", true)
  | 2 => ("BoxChoice$Units", "kinds", "[I", true)
  | 3 => ("BoxChoice$Units", "apartFrom", "[I", true)
  | 4 => ("BoxChoice$Units", "togetherWith", "[I", true)
  | _ => ("BoxChoice$Units", "held", "I", false)
def tyX3 : Nat → FieldType := fun k => match k with
  | 0 => .array .int
  | 1 => .array .int
  | 2 => .array .int
  | 3 => .array .int
  | 4 => .array .int
  | _ => .int
theorem nmX3 : ∀ a, a < 6 → ∀ b, b < 6 → a ≠ b → (TX3 a).2.1 ≠ (TX3 b).2.1 := by decide +kernel
theorem tyX3_ok : ∀ k, k < 6 → parseFieldDescriptor (TX3 k).2.2.1 = some (tyX3 k) := by decide +kernel
def RX4 : String := "BoxChoice"
def TX4 : u_T := fun k => match k with
  | 0 => ("BoxChoice", "catalogue", "LBoxChoice$Catalogue;", true)
  | 1 => ("BoxChoice", "units", "LBoxChoice$Units;", true)
  | 2 => ("BoxChoice", "choice", "LBoxChoice$Choice;", true)
  | _ => ("BoxChoice", "search", "LBoxChoice$ExactSearch;", true)
def tyX4 : Nat → FieldType := fun k => match k with
  | 0 => .object "BoxChoice$Catalogue"
  | 1 => .object "BoxChoice$Units"
  | 2 => .object "BoxChoice$Choice"
  | _ => .object "BoxChoice$ExactSearch"
theorem nmX4 : ∀ a, a < 4 → ∀ b, b < 4 → a ≠ b → (TX4 a).2.1 ≠ (TX4 b).2.1 := by decide +kernel
theorem tyX4_ok : ∀ k, k < 4 → parseFieldDescriptor (TX4 k).2.2.1 = some (tyX4 k) := by decide +kernel
def RX5 : String := "BoxChoiceModel"
def TX5 : u_T := fun k => match k with
  | 0 => ("BoxChoiceModel", "code", "I", false)
  | 1 => ("BoxChoiceModel", "boxes", "I", false)
  | 2 => ("BoxChoiceModel", "room", "[I", true)
  | 3 => ("BoxChoiceModel", "load", "[I", true)
  | 4 => ("BoxChoiceModel", "cost", "[I", true)
  | 5 => ("BoxChoiceModel", "kinds", "[I", true)
  | 6 => ("BoxChoiceModel", "units", "I", false)
  | 7 => ("BoxChoiceModel", "size", "[I", true)
  | 8 => ("BoxChoiceModel", "weight", "[I", true)
  | 9 => ("BoxChoiceModel", "kind", "[I", true)
  | 10 => ("BoxChoiceModel", "hows", "[I", true)
  | 11 => ("BoxChoiceModel", "slack", "I", false)
  | 12 => ("BoxChoiceModel", "chosen", "I", false)
  | 13 => ("BoxChoiceModel", "exact", "Z", false)
  | 14 => ("BoxChoiceModel", "box", "[I", true)
  | 15 => ("BoxChoiceModel", "set", "[I", true)
  | 16 => ("BoxChoiceModel", "count", "I", false)
  | 17 => ("BoxChoiceModel", "newBox", "[I", true)
  | 18 => ("BoxChoiceModel", "newSet", "[I", true)
  | _ => ("BoxChoiceModel", "part", "[I", true)
def tyX5 : Nat → FieldType := fun k => match k with
  | 0 => .int
  | 1 => .int
  | 2 => .array .int
  | 3 => .array .int
  | 4 => .array .int
  | 5 => .array .int
  | 6 => .int
  | 7 => .array .int
  | 8 => .array .int
  | 9 => .array .int
  | 10 => .array .int
  | 11 => .int
  | 12 => .int
  | 13 => .boolean
  | 14 => .array .int
  | 15 => .array .int
  | 16 => .int
  | 17 => .array .int
  | 18 => .array .int
  | _ => .array .int
theorem nmX5 : ∀ a, a < 20 → ∀ b, b < 20 → a ≠ b → (TX5 a).2.1 ≠ (TX5 b).2.1 := by decide +kernel
theorem tyX5_ok : ∀ k, k < 20 → parseFieldDescriptor (TX5 k).2.2.1 = some (tyX5 k) := by decide +kernel
def RL : String := "BoxChoiceLaw"
abbrev zcl : List vw_C := [(RX0, TX0, 6), (RX1, TX1, 6), (RX2, TX2, 5), (RX3, TX3, 6), (RX4, TX4, 4), (RX5, TX5, 20)]
abbrev cX4_init : ByteArray := prog_1_method_1_code
def yX4_init : MethodName := ⟨RX4, "<init>", "()V"⟩
abbrev cX0_init : ByteArray := prog_2_method_1_code
def yX0_init : MethodName := ⟨RX0, "<init>", "()V"⟩
abbrev cX3_init : ByteArray := prog_5_method_1_code
def yX3_init : MethodName := ⟨RX3, "<init>", "()V"⟩
abbrev cX1_init : ByteArray := prog_3_method_1_code
def yX1_init : MethodName := ⟨RX1, "<init>", "()V"⟩
abbrev cX2_init : ByteArray := prog_4_method_1_code
def yX2_init : MethodName := ⟨RX2, "<init>", "()V"⟩
abbrev cX4_exact : ByteArray := prog_1_method_8_code
def yX4_exact : MethodName := ⟨RX4, "exact", "()Z"⟩
abbrev cX4_boxes : ByteArray := prog_1_method_9_code
def yX4_boxes : MethodName := ⟨RX4, "boxes", "()I"⟩
abbrev cX4_count : ByteArray := prog_1_method_16_code
def yX4_count : MethodName := ⟨RX4, "count", "(I)I"⟩
abbrev cX3_pairsOf : ByteArray := prog_5_method_10_code
def yX3_pairsOf : MethodName := ⟨RX3, "pairsOf", "(I)I"⟩
abbrev cX3_relationOf : ByteArray := prog_5_method_7_code
def yX3_relationOf : MethodName := ⟨RX3, "relationOf", "(II)I"⟩
abbrev cX3_has : ByteArray := prog_5_method_2_code
def yX3_has : MethodName := ⟨RX3, "has", "(I)Z"⟩
abbrev cX4_holds : ByteArray := prog_1_method_20_code
def yX4_holds : MethodName := ⟨RX4, "holds", "(II)Z"⟩
abbrev cL_box : ByteArray := method_3_code
def yL_box : MethodName := ⟨RL, "box", "(LBoxChoice;IIII[J)I"⟩
abbrev cX4_box : ByteArray := prog_1_method_2_code
def yX4_box : MethodName := ⟨RX4, "box", "(IIII)I"⟩
abbrev cX4_needRange : ByteArray := prog_1_method_19_code
def yX4_needRange : MethodName := ⟨RX4, "needRange", "(III)V"⟩
abbrev cX0_isFull : ByteArray := prog_2_method_3_code
def yX0_isFull : MethodName := ⟨RX0, "isFull", "()Z"⟩
abbrev cX0_add : ByteArray := prog_2_method_4_code
def yX0_add : MethodName := ⟨RX0, "add", "(IIII)I"⟩
abbrev cL_unit : ByteArray := method_4_code
def yL_unit : MethodName := ⟨RL, "unit", "(LBoxChoice;III[J)I"⟩
abbrev cX4_unit : ByteArray := prog_1_method_3_code
def yX4_unit : MethodName := ⟨RX4, "unit", "(III)I"⟩
abbrev cX3_isFull : ByteArray := prog_5_method_3_code
def yX3_isFull : MethodName := ⟨RX3, "isFull", "()Z"⟩
abbrev cX3_add : ByteArray := prog_5_method_5_code
def yX3_add : MethodName := ⟨RX3, "add", "(III)I"⟩
abbrev cL_group : ByteArray := method_5_code
def yL_group : MethodName := ⟨RL, "group", "(LBoxChoice;III[J)I"⟩
abbrev cX4_group : ByteArray := prog_1_method_4_code
def yX4_group : MethodName := ⟨RX4, "group", "(III)I"⟩
abbrev cX4_needUnit : ByteArray := prog_1_method_18_code
def yX4_needUnit : MethodName := ⟨RX4, "needUnit", "(I)V"⟩
abbrev cX3_relate : ByteArray := prog_5_method_8_code
def yX3_relate : MethodName := ⟨RX3, "relate", "(III)V"⟩
abbrev cX3_relateOneWay : ByteArray := prog_5_method_9_code
def yX3_relateOneWay : MethodName := ⟨RX3, "relateOneWay", "(III)V"⟩
abbrev cL_change : ByteArray := method_6_code
def yL_change : MethodName := ⟨RL, "change", "(LBoxChoice;II[J)I"⟩
abbrev cX4_change : ByteArray := prog_1_method_5_code
def yX4_change : MethodName := ⟨RX4, "change", "(II)I"⟩
abbrev cX3_reweigh : ByteArray := prog_5_method_6_code
def yX3_reweigh : MethodName := ⟨RX3, "reweigh", "(II)I"⟩
abbrev cL_slack : ByteArray := method_7_code
def yL_slack : MethodName := ⟨RL, "slack", "(LBoxChoice;I)I"⟩
abbrev cX4_slack : ByteArray := prog_1_method_6_code
def yX4_slack : MethodName := ⟨RX4, "slack", "(I)V"⟩
abbrev cX0_keepSlack : ByteArray := prog_2_method_5_code
def yX0_keepSlack : MethodName := ⟨RX0, "keepSlack", "(I)V"⟩
abbrev cL_choose : ByteArray := method_8_code
def yL_choose : MethodName := ⟨RL, "choose", "(LBoxChoice;I[J)I"⟩
abbrev cX4_choose : ByteArray := prog_1_method_7_code
def yX4_choose : MethodName := ⟨RX4, "choose", "(I)I"⟩
abbrev cX1_clear : ByteArray := prog_3_method_2_code
def yX1_clear : MethodName := ⟨RX1, "clear", "()V"⟩
abbrev cX4_putExactly : ByteArray := prog_1_method_24_code
def yX4_putExactly : MethodName := ⟨RX4, "putExactly", "()Z"⟩
abbrev cX3_all : ByteArray := prog_5_method_4_code
def yX3_all : MethodName := ⟨RX3, "all", "()I"⟩
abbrev cX2_clear : ByteArray := prog_4_method_2_code
def yX2_clear : MethodName := ⟨RX2, "clear", "()V"⟩
abbrev cX4_boxesFor : ByteArray := prog_1_method_23_code
def yX4_boxesFor : MethodName := ⟨RX4, "boxesFor", "(I)I"⟩
abbrev cX3_anyApart : ByteArray := prog_5_method_15_code
def yX3_anyApart : MethodName := ⟨RX3, "anyApart", "(I)Z"⟩
abbrev cX3_isWhole : ByteArray := prog_5_method_16_code
def yX3_isWhole : MethodName := ⟨RX3, "isWhole", "(I)Z"⟩
abbrev cX4_boxesThatCarry : ByteArray := prog_1_method_22_code
def yX4_boxesThatCarry : MethodName := ⟨RX4, "boxesThatCarry", "(I)I"⟩
abbrev cX3_kindsOf : ByteArray := prog_5_method_14_code
def yX3_kindsOf : MethodName := ⟨RX3, "kindsOf", "(I)I"⟩
abbrev cX0_thatTake : ByteArray := prog_2_method_8_code
def yX0_thatTake : MethodName := ⟨RX0, "thatTake", "(I)I"⟩
abbrev cX3_sizeOf : ByteArray := prog_5_method_11_code
def yX3_sizeOf : MethodName := ⟨RX3, "sizeOf", "(I)I"⟩
abbrev cX3_sumOf : ByteArray := prog_5_method_13_code
def yX3_sumOf : MethodName := ⟨RX3, "sumOf", "([II)I"⟩
abbrev cX0_withRoomFor : ByteArray := prog_2_method_9_code
def yX0_withRoomFor : MethodName := ⟨RX0, "withRoomFor", "(I)I"⟩
abbrev cX0_withAtLeast : ByteArray := prog_2_method_11_code
def yX0_withAtLeast : MethodName := ⟨RX0, "withAtLeast", "([II)I"⟩
abbrev cX3_weightOf : ByteArray := prog_5_method_12_code
def yX3_weightOf : MethodName := ⟨RX3, "weightOf", "(I)I"⟩
abbrev cX0_thatBear : ByteArray := prog_2_method_10_code
def yX0_thatBear : MethodName := ⟨RX0, "thatBear", "(I)I"⟩
abbrev cX0_cheapestOf : ByteArray := prog_2_method_12_code
def yX0_cheapestOf : MethodName := ⟨RX0, "cheapestOf", "(I)I"⟩
abbrev cX0_costOf : ByteArray := prog_2_method_7_code
def yX0_costOf : MethodName := ⟨RX0, "costOf", "(I)I"⟩
abbrev cX0_has : ByteArray := prog_2_method_2_code
def yX0_has : MethodName := ⟨RX0, "has", "(I)Z"⟩
abbrev cX2_offer : ByteArray := prog_4_method_3_code
def yX2_offer : MethodName := ⟨RX2, "offer", "(III)V"⟩
abbrev cX2_putBest : ByteArray := prog_4_method_4_code
def yX2_putBest : MethodName := ⟨RX2, "putBest", "(ILBoxChoice$Choice;)Z"⟩
abbrev cX2_findBest : ByteArray := prog_4_method_5_code
def yX2_findBest : MethodName := ⟨RX2, "findBest", "(I)V"⟩
abbrev cX2_tryFirst : ByteArray := prog_4_method_6_code
def yX2_tryFirst : MethodName := ⟨RX2, "tryFirst", "(II)V"⟩
abbrev cX2_isBetter : ByteArray := prog_4_method_7_code
def yX2_isBetter : MethodName := ⟨RX2, "isBetter", "(IIII)Z"⟩
abbrev cX1_append : ByteArray := prog_3_method_5_code
def yX1_append : MethodName := ⟨RX1, "append", "(III)V"⟩
abbrev cX4_putByRule : ByteArray := prog_1_method_25_code
def yX4_putByRule : MethodName := ⟨RX4, "putByRule", "()Z"⟩
abbrev cX3_companyOf : ByteArray := prog_5_method_17_code
def yX3_companyOf : MethodName := ⟨RX3, "companyOf", "(I)I"⟩
abbrev cX4_putCompany : ByteArray := prog_1_method_26_code
def yX4_putCompany : MethodName := ⟨RX4, "putCompany", "(I)Z"⟩
abbrev cX1_setAt : ByteArray := prog_3_method_8_code
def yX1_setAt : MethodName := ⟨RX1, "setAt", "(I)I"⟩
abbrev cX1_has : ByteArray := prog_3_method_4_code
def yX1_has : MethodName := ⟨RX1, "has", "(I)Z"⟩
abbrev cX1_boxAt : ByteArray := prog_3_method_7_code
def yX1_boxAt : MethodName := ⟨RX1, "boxAt", "(I)I"⟩
abbrev cX1_replaceSet : ByteArray := prog_3_method_6_code
def yX1_replaceSet : MethodName := ⟨RX1, "replaceSet", "(II)V"⟩
abbrev cX1_finish : ByteArray := prog_3_method_3_code
def yX1_finish : MethodName := ⟨RX1, "finish", "(Z)V"⟩
abbrev cL_chosen : ByteArray := method_9_code
def yL_chosen : MethodName := ⟨RL, "chosen", "(LBoxChoice;II[J)I"⟩
abbrev cX4_chosen : ByteArray := prog_1_method_10_code
def yX4_chosen : MethodName := ⟨RX4, "chosen", "(II)I"⟩
abbrev cL_where : ByteArray := method_10_code
def yL_where : MethodName := ⟨RL, "where", "(LBoxChoice;I[J)I"⟩
abbrev cX4_where : ByteArray := prog_1_method_11_code
def yX4_where : MethodName := ⟨RX4, "where", "(I)I"⟩
abbrev cX1_holderOf : ByteArray := prog_3_method_9_code
def yX1_holderOf : MethodName := ⟨RX1, "holderOf", "(I)I"⟩
abbrev cL_bar : ByteArray := method_11_code
def yL_bar : MethodName := ⟨RL, "bar", "(LBoxChoice;I[J)I"⟩
abbrev cX4_bar : ByteArray := prog_1_method_12_code
def yX4_bar : MethodName := ⟨RX4, "bar", "(I)I"⟩
abbrev cL_fits : ByteArray := method_12_code
def yL_fits : MethodName := ⟨RL, "fits", "(LBoxChoice;II[J)I"⟩
abbrev cX4_fits : ByteArray := prog_1_method_13_code
def yX4_fits : MethodName := ⟨RX4, "fits", "(II)Z"⟩
abbrev cX4_needBox : ByteArray := prog_1_method_17_code
def yX4_needBox : MethodName := ⟨RX4, "needBox", "(I)V"⟩
abbrev cL_used : ByteArray := method_13_code
def yL_used : MethodName := ⟨RL, "used", "(LBoxChoice;I[J)I"⟩
abbrev cX4_used : ByteArray := prog_1_method_14_code
def yX4_used : MethodName := ⟨RX4, "used", "(I)I"⟩
abbrev cX0_roomOf : ByteArray := prog_2_method_6_code
def yX0_roomOf : MethodName := ⟨RX0, "roomOf", "(I)I"⟩
abbrev cX4_commonDivisor : ByteArray := prog_1_method_21_code
def yX4_commonDivisor : MethodName := ⟨RX4, "commonDivisor", "(II)I"⟩
abbrev cL_dimensional : ByteArray := method_14_code
def yL_dimensional : MethodName := ⟨RL, "dimensional", "(LBoxChoice;II[J)I"⟩
abbrev cX4_dimensional : ByteArray := prog_1_method_15_code
def yX4_dimensional : MethodName := ⟨RX4, "dimensional", "(II)I"⟩
abbrev cX5_init : ByteArray := prog_7_method_1_code
def yX5_init : MethodName := ⟨RX5, "<init>", "()V"⟩
abbrev cX5_thrown : ByteArray := prog_7_method_2_code
def yX5_thrown : MethodName := ⟨RX5, "thrown", "()I"⟩
abbrev cX5_box : ByteArray := prog_7_method_6_code
def yX5_box : MethodName := ⟨RX5, "box", "(IIII)I"⟩
abbrev cX5_in : ByteArray := prog_7_method_3_code
def yX5_in : MethodName := ⟨RX5, "in", "(III)Z"⟩
abbrev cX5_unit : ByteArray := prog_7_method_7_code
def yX5_unit : MethodName := ⟨RX5, "unit", "(III)I"⟩
abbrev cX5_group : ByteArray := prog_7_method_8_code
def yX5_group : MethodName := ⟨RX5, "group", "(III)I"⟩
abbrev cX5_isUnit : ByteArray := prog_7_method_5_code
def yX5_isUnit : MethodName := ⟨RX5, "isUnit", "(I)Z"⟩
abbrev cX5_change : ByteArray := prog_7_method_9_code
def yX5_change : MethodName := ⟨RX5, "change", "(II)I"⟩
abbrev cX5_slack : ByteArray := prog_7_method_10_code
def yX5_slack : MethodName := ⟨RX5, "slack", "(I)V"⟩
abbrev cX5_choose : ByteArray := prog_7_method_28_code
def yX5_choose : MethodName := ⟨RX5, "choose", "(I)I"⟩
abbrev cX5_exactly : ByteArray := prog_7_method_26_code
def yX5_exactly : MethodName := ⟨RX5, "exactly", "()V"⟩
abbrev cX5_isWay : ByteArray := prog_7_method_25_code
def yX5_isWay : MethodName := ⟨RX5, "isWay", "()Z"⟩
abbrev cX5_cheapest : ByteArray := prog_7_method_19_code
def yX5_cheapest : MethodName := ⟨RX5, "cheapest", "(I)I"⟩
abbrev cX5_fitsSet : ByteArray := prog_7_method_18_code
def yX5_fitsSet : MethodName := ⟨RX5, "fitsSet", "(II)Z"⟩
abbrev cX5_passes : ByteArray := prog_7_method_17_code
def yX5_passes : MethodName := ⟨RX5, "passes", "(III)Z"⟩
abbrev cX5_takesKinds : ByteArray := prog_7_method_14_code
def yX5_takesKinds : MethodName := ⟨RX5, "takesKinds", "(II)Z"⟩
abbrev cX5_has : ByteArray := prog_7_method_11_code
def yX5_has : MethodName := ⟨RX5, "has", "(II)Z"⟩
abbrev cX5_sizes : ByteArray := prog_7_method_12_code
def yX5_sizes : MethodName := ⟨RX5, "sizes", "(I)I"⟩
abbrev cX5_weights : ByteArray := prog_7_method_13_code
def yX5_weights : MethodName := ⟨RX5, "weights", "(I)I"⟩
abbrev cX5_hasApart : ByteArray := prog_7_method_15_code
def yX5_hasApart : MethodName := ⟨RX5, "hasApart", "(I)Z"⟩
abbrev cX5_isWhole : ByteArray := prog_7_method_16_code
def yX5_isWhole : MethodName := ⟨RX5, "isWhole", "(I)Z"⟩
abbrev cX5_isBetter : ByteArray := prog_7_method_23_code
def yX5_isBetter : MethodName := ⟨RX5, "isBetter", "()Z"⟩
abbrev cX5_costOf : ByteArray := prog_7_method_22_code
def yX5_costOf : MethodName := ⟨RX5, "costOf", "([II)I"⟩
abbrev cX5_keep : ByteArray := prog_7_method_21_code
def yX5_keep : MethodName := ⟨RX5, "keep", "()V"⟩
abbrev cX5_next : ByteArray := prog_7_method_24_code
def yX5_next : MethodName := ⟨RX5, "next", "()Z"⟩
abbrev cX5_byRule : ByteArray := prog_7_method_27_code
def yX5_byRule : MethodName := ⟨RX5, "byRule", "()V"⟩
abbrev cX5_wholeOf : ByteArray := prog_7_method_20_code
def yX5_wholeOf : MethodName := ⟨RX5, "wholeOf", "(I)I"⟩
abbrev cX5_exact : ByteArray := prog_7_method_29_code
def yX5_exact : MethodName := ⟨RX5, "exact", "()Z"⟩
abbrev cX5_boxes : ByteArray := prog_7_method_30_code
def yX5_boxes : MethodName := ⟨RX5, "boxes", "()I"⟩
abbrev cX5_chosen : ByteArray := prog_7_method_31_code
def yX5_chosen : MethodName := ⟨RX5, "chosen", "(II)I"⟩
abbrev cX5_where : ByteArray := prog_7_method_32_code
def yX5_where : MethodName := ⟨RX5, "where", "(I)I"⟩
abbrev cX5_bar : ByteArray := prog_7_method_33_code
def yX5_bar : MethodName := ⟨RX5, "bar", "(I)I"⟩
abbrev cX5_fits : ByteArray := prog_7_method_34_code
def yX5_fits : MethodName := ⟨RX5, "fits", "(II)Z"⟩
abbrev cX5_isBox : ByteArray := prog_7_method_4_code
def yX5_isBox : MethodName := ⟨RX5, "isBox", "(I)Z"⟩
abbrev cX5_used : ByteArray := prog_7_method_36_code
def yX5_used : MethodName := ⟨RX5, "used", "(I)I"⟩
abbrev cX5_divisor : ByteArray := prog_7_method_35_code
def yX5_divisor : MethodName := ⟨RX5, "divisor", "(II)I"⟩
abbrev cX5_dimensional : ByteArray := prog_7_method_37_code
def yX5_dimensional : MethodName := ⟨RX5, "dimensional", "(II)I"⟩
abbrev cX5_count : ByteArray := prog_7_method_38_code
def yX5_count : MethodName := ⟨RX5, "count", "(I)I"⟩
abbrev cL_law : ByteArray := code
def yL_law : MethodName := ⟨RL, "law", "([I)Z"⟩
/-- the words of the tables that a callee keeps -/
def gtbl : List Cond := lw_tbl.filter goodWord
theorem kw {w : Cond} (i : Nat) (h : tables_1[i]? = some w) (hg : goodWord w = true) : w ∈ gtbl := List.mem_filter.mpr ⟨List.mem_append_right _ (List.mem_of_getElem? h), hg⟩
theorem kwp {w : Cond} (i : Nat) (h : (k2_sels lw_privs)[i]? = some w) (hg : goodWord w = true) : w ∈ gtbl := List.mem_filter.mpr ⟨List.mem_append_left _ (List.mem_of_getElem? h), hg⟩
theorem gtbl_good : ∀ w ∈ gtbl, (w.onTables && w.keeps) = true ∨ ∃ ty, w = .arrayClass ty := fun w h => good_of_word (List.mem_filter.mp h).2
/-- the words of a method: its own code, then all -/
abbrev zws (y : MethodName) (cc : ByteArray) (n : Nat) (r : Option FieldType) : List Cond := Cond.code y cc n r :: gtbl
theorem inX0 : ∀ w ∈ u_ws RX0 TX0 6, w ∈ gtbl := by decide +kernel
theorem inX1 : ∀ w ∈ u_ws RX1 TX1 6, w ∈ gtbl := by decide +kernel
theorem inX2 : ∀ w ∈ u_ws RX2 TX2 5, w ∈ gtbl := by decide +kernel
theorem inX3 : ∀ w ∈ u_ws RX3 TX3 6, w ∈ gtbl := by decide +kernel
theorem inX4 : ∀ w ∈ u_ws RX4 TX4 4, w ∈ gtbl := by decide +kernel
theorem inX5 : ∀ w ∈ u_ws RX5 TX5 20, w ∈ gtbl := by decide +kernel
/-- the words across the nest, which go from state to state by themselves -/
def znf : List (String × Nat × String × String × String × String) := [(RX4, 185, RX0, (TX0 4).2.1, (TX0 4).2.2.1, RX4), (RX4, 84, RX3, (TX3 5).2.1, (TX3 5).2.2.1, RX4), (RX4, 111, RX1, (TX1 2).2.1, (TX1 2).2.2.1, RX4), (RX4, 101, RX1, (TX1 3).2.1, (TX1 3).2.2.1, RX4), (RX4, 104, RX1, (TX1 4).2.1, (TX1 4).2.2.1, RX4), (RX4, 108, RX1, (TX1 5).2.1, (TX1 5).2.2.1, RX4)]
def znm : List (String × Nat × MethodName × String) := [(RX4, 11, yX0_init, RX4), (RX4, 18, yX3_init, RX4), (RX4, 25, yX1_init, RX4), (RX4, 32, yX2_init, RX4), (RX3, 39, yX4_holds, RX4), (RX0, 43, yX4_holds, RX4), (RX1, 36, yX4_holds, RX4)]
theorem znf_in : ∀ q ∈ znf, Cond.fieldLinkNest q.1 q.2.1 q.2.2.1 q.2.2.2.1 q.2.2.2.2.1 q.2.2.2.2.2 ∈ tables_1 := by decide +kernel
theorem znm_in : ∀ q ∈ znm, Cond.methodLinkNest q.1 q.2.1 q.2.2.1 q.2.2.2 ∈ tables_1 := by decide +kernel
def zcast : List String := ["java/lang/IllegalArgumentException", "java/lang/UnsupportedOperationException", "java/util/NoSuchElementException", "java/lang/IllegalStateException", "java/lang/ArithmeticException"]
theorem zcast_in : ∀ q ∈ zcast, Cond.castable q q ∈ tables_1 := by decide +kernel
def zstr : List (Nat × String) := [(195, "a number is outside its range"), (47, "the catalogue is full"), (57, "there is no room for another unit"), (193, "there is no such unit"), (68, "a unit is not grouped with itself"), (118, "the choice has no such box"), (134, "a box of the choice is asked for 0 .. 3"), (190, "there is no such box"), (169, "there is no choice"), (180, "/ by zero"), (183, "the divisor is below 0")]
theorem zstr_in : ∀ q ∈ zstr, Cond.stringRef RX4 q.1 q.2 ∈ tables_1 := by decide +kernel
/-- what holds of a state beside its picture -/
def zG (U : State) (A : Nat → Prop) : Prop := (∀ q ∈ znf, va_Nw (.fieldLinkNest q.1 q.2.1 q.2.2.1 q.2.2.2.1 q.2.2.2.2.1 q.2.2.2.2.2) U) ∧ (∀ q ∈ znm, va_Nw (.methodLinkNest q.1 q.2.1 q.2.2.1 q.2.2.2) U) ∧ (∀ q ∈ zcast, va_Nw (.castable q q) U) ∧ (∀ q ∈ zstr, ∃ sa, vk_R RX4 q.1 q.2 sa U) ∧ vx_Zq Bundle.tN "UNASSIGNED_STACK" Bundle.steD A U U.heap ∧ vx_Zq Bundle.tN "SUPPRESSED_SENTINEL" Bundle.listD A U U.heap
theorem zG_ok : zGok zG := by
  intro u U A B hW hk hB h
  obtain ⟨h1, h2, h3, h4, h5, h6⟩ := h
  exact ⟨fun q hq => va_Nw.warmF hW (h1 q hq), fun q hq => va_Nw.warmM hW (h2 q hq), fun q hq => va_Nw.warmC hW (h3 q hq), fun q hq => (h4 q hq).imp (fun _ h => vk_R.warm hW h), vx_Zq.moved hW.alike ((h5.kept hk).narrow hB), vx_Zq.moved hW.alike ((h6.kept hk).narrow hB)⟩
theorem nfX4_185 {U : State} {A : Nat → Prop} (h : zG U A) : va_Nw (.fieldLinkNest RX4 185 RX0 (TX0 4).2.1 (TX0 4).2.2.1 RX4) U := h.1 _ (List.mem_of_getElem? (i := 0) (a := (RX4, 185, RX0, (TX0 4).2.1, (TX0 4).2.2.1, RX4)) rfl)
theorem nfX4_84 {U : State} {A : Nat → Prop} (h : zG U A) : va_Nw (.fieldLinkNest RX4 84 RX3 (TX3 5).2.1 (TX3 5).2.2.1 RX4) U := h.1 _ (List.mem_of_getElem? (i := 1) (a := (RX4, 84, RX3, (TX3 5).2.1, (TX3 5).2.2.1, RX4)) rfl)
theorem nfX4_111 {U : State} {A : Nat → Prop} (h : zG U A) : va_Nw (.fieldLinkNest RX4 111 RX1 (TX1 2).2.1 (TX1 2).2.2.1 RX4) U := h.1 _ (List.mem_of_getElem? (i := 2) (a := (RX4, 111, RX1, (TX1 2).2.1, (TX1 2).2.2.1, RX4)) rfl)
theorem nfX4_101 {U : State} {A : Nat → Prop} (h : zG U A) : va_Nw (.fieldLinkNest RX4 101 RX1 (TX1 3).2.1 (TX1 3).2.2.1 RX4) U := h.1 _ (List.mem_of_getElem? (i := 3) (a := (RX4, 101, RX1, (TX1 3).2.1, (TX1 3).2.2.1, RX4)) rfl)
theorem nfX4_104 {U : State} {A : Nat → Prop} (h : zG U A) : va_Nw (.fieldLinkNest RX4 104 RX1 (TX1 4).2.1 (TX1 4).2.2.1 RX4) U := h.1 _ (List.mem_of_getElem? (i := 4) (a := (RX4, 104, RX1, (TX1 4).2.1, (TX1 4).2.2.1, RX4)) rfl)
theorem nfX4_108 {U : State} {A : Nat → Prop} (h : zG U A) : va_Nw (.fieldLinkNest RX4 108 RX1 (TX1 5).2.1 (TX1 5).2.2.1 RX4) U := h.1 _ (List.mem_of_getElem? (i := 5) (a := (RX4, 108, RX1, (TX1 5).2.1, (TX1 5).2.2.1, RX4)) rfl)
theorem nlX4_11 {U : State} {A : Nat → Prop} (h : zG U A) : va_Nw (.methodLinkNest RX4 11 yX0_init RX4) U := h.2.1 _ (List.mem_of_getElem? (i := 0) (a := (RX4, 11, yX0_init, RX4)) rfl)
theorem nlX4_18 {U : State} {A : Nat → Prop} (h : zG U A) : va_Nw (.methodLinkNest RX4 18 yX3_init RX4) U := h.2.1 _ (List.mem_of_getElem? (i := 1) (a := (RX4, 18, yX3_init, RX4)) rfl)
theorem nlX4_25 {U : State} {A : Nat → Prop} (h : zG U A) : va_Nw (.methodLinkNest RX4 25 yX1_init RX4) U := h.2.1 _ (List.mem_of_getElem? (i := 2) (a := (RX4, 25, yX1_init, RX4)) rfl)
theorem nlX4_32 {U : State} {A : Nat → Prop} (h : zG U A) : va_Nw (.methodLinkNest RX4 32 yX2_init RX4) U := h.2.1 _ (List.mem_of_getElem? (i := 3) (a := (RX4, 32, yX2_init, RX4)) rfl)
theorem nlX3_39 {U : State} {A : Nat → Prop} (h : zG U A) : va_Nw (.methodLinkNest RX3 39 yX4_holds RX4) U := h.2.1 _ (List.mem_of_getElem? (i := 4) (a := (RX3, 39, yX4_holds, RX4)) rfl)
theorem nlX0_43 {U : State} {A : Nat → Prop} (h : zG U A) : va_Nw (.methodLinkNest RX0 43 yX4_holds RX4) U := h.2.1 _ (List.mem_of_getElem? (i := 5) (a := (RX0, 43, yX4_holds, RX4)) rfl)
theorem nlX1_36 {U : State} {A : Nat → Prop} (h : zG U A) : va_Nw (.methodLinkNest RX1 36 yX4_holds RX4) U := h.2.1 _ (List.mem_of_getElem? (i := 6) (a := (RX1, 36, yX4_holds, RX4)) rfl)
end
section
theorem knL : Cond.initialized RL ∈ gtbl := kw 0 (by decide +kernel) (by decide +kernel)
theorem knX4 : Cond.initialized RX4 ∈ gtbl := kw 1 (by decide +kernel) (by decide +kernel)
theorem knX0 : Cond.initialized RX0 ∈ gtbl := kw 2 (by decide +kernel) (by decide +kernel)
theorem knX3 : Cond.initialized RX3 ∈ gtbl := kw 3 (by decide +kernel) (by decide +kernel)
theorem knX1 : Cond.initialized RX1 ∈ gtbl := kw 4 (by decide +kernel) (by decide +kernel)
theorem knX2 : Cond.initialized RX2 ∈ gtbl := kw 5 (by decide +kernel) (by decide +kernel)
theorem knX5 : Cond.initialized RX5 ∈ gtbl := kw 6 (by decide +kernel) (by decide +kernel)
theorem knJ_Throwable : Cond.initialized "java/lang/Throwable" ∈ gtbl := kw 7 (by decide +kernel) (by decide +kernel)
theorem knJ_Exception : Cond.initialized "java/lang/Exception" ∈ gtbl := kw 8 (by decide +kernel) (by decide +kernel)
theorem knJ_RuntimeException : Cond.initialized "java/lang/RuntimeException" ∈ gtbl := kw 9 (by decide +kernel) (by decide +kernel)
theorem knJ_IllegalArgumentException : Cond.initialized "java/lang/IllegalArgumentException" ∈ gtbl := kw 10 (by decide +kernel) (by decide +kernel)
theorem knJ_UnsupportedOperationException : Cond.initialized "java/lang/UnsupportedOperationException" ∈ gtbl := kw 11 (by decide +kernel) (by decide +kernel)
theorem knJ_NoSuchElementException : Cond.initialized "java/util/NoSuchElementException" ∈ gtbl := kw 12 (by decide +kernel) (by decide +kernel)
theorem knJ_IllegalStateException : Cond.initialized "java/lang/IllegalStateException" ∈ gtbl := kw 13 (by decide +kernel) (by decide +kernel)
theorem knJ_ArithmeticException : Cond.initialized "java/lang/ArithmeticException" ∈ gtbl := kw 14 (by decide +kernel) (by decide +kernel)
theorem klL_8 : Cond.classLink RL 8 RX4 ∈ gtbl := kw 15 (by decide +kernel) (by decide +kernel)
theorem kaX4 : Cond.instantiable RX4 4 ∈ gtbl := kw 16 (by decide +kernel) (by decide +kernel)
theorem kmL_61 : Cond.methodLink RL 61 yX4_init ∈ gtbl := kw 17 (by decide +kernel) (by decide +kernel)
theorem kiX4_init : Cond.instanceMethod yX4_init ∈ gtbl := kw 18 (by decide +kernel) (by decide +kernel)
theorem kmX4_3 : Cond.methodLink RX4 3 objectInit ∈ gtbl := kw 20 (by decide +kernel) (by decide +kernel)
theorem kiO : Cond.instanceMethod objectInit ∈ gtbl := kw 21 (by decide +kernel) (by decide +kernel)
theorem kcO : Cond.code objectInit ⟨#[0xb1]⟩ 1 none ∈ gtbl := kw 22 (by decide +kernel) (by decide +kernel)
theorem klX4_9 : Cond.classLink RX4 9 RX0 ∈ gtbl := kw 23 (by decide +kernel) (by decide +kernel)
theorem kaX0 : Cond.instantiable RX0 6 ∈ gtbl := kw 24 (by decide +kernel) (by decide +kernel)
theorem kiX0_init : Cond.instanceMethod yX0_init ∈ gtbl := kw 26 (by decide +kernel) (by decide +kernel)
theorem kmX0_3 : Cond.methodLink RX0 3 objectInit ∈ gtbl := kw 28 (by decide +kernel) (by decide +kernel)
theorem kfX0_9 : Cond.fieldLink RX0 9 RX0 (TX0 0).2.1 (TX0 0).2.2.1 ∈ gtbl := kw 29 (by decide +kernel) (by decide +kernel)
theorem kfX0_15 : Cond.fieldLink RX0 15 RX0 (TX0 1).2.1 (TX0 1).2.2.1 ∈ gtbl := kw 30 (by decide +kernel) (by decide +kernel)
theorem kfX0_18 : Cond.fieldLink RX0 18 RX0 (TX0 2).2.1 (TX0 2).2.2.1 ∈ gtbl := kw 31 (by decide +kernel) (by decide +kernel)
theorem kfX0_21 : Cond.fieldLink RX0 21 RX0 (TX0 3).2.1 (TX0 3).2.2.1 ∈ gtbl := kw 32 (by decide +kernel) (by decide +kernel)
theorem kfX0_24 : Cond.fieldLink RX0 24 RX0 (TX0 4).2.1 (TX0 4).2.2.1 ∈ gtbl := kw 33 (by decide +kernel) (by decide +kernel)
theorem kfX0_32 : Cond.fieldLink RX0 32 RX0 (TX0 5).2.1 (TX0 5).2.2.1 ∈ gtbl := kw 35 (by decide +kernel) (by decide +kernel)
theorem kr_int : Cond.arrayClass .int ∈ gtbl := kw 49 (by decide +kernel) (by decide +kernel)
theorem klX4_16 : Cond.classLink RX4 16 RX3 ∈ gtbl := kw 50 (by decide +kernel) (by decide +kernel)
theorem kaX3 : Cond.instantiable RX3 6 ∈ gtbl := kw 51 (by decide +kernel) (by decide +kernel)
theorem kiX3_init : Cond.instanceMethod yX3_init ∈ gtbl := kw 53 (by decide +kernel) (by decide +kernel)
theorem kmX3_3 : Cond.methodLink RX3 3 objectInit ∈ gtbl := kw 55 (by decide +kernel) (by decide +kernel)
theorem kfX3_9 : Cond.fieldLink RX3 9 RX3 (TX3 0).2.1 (TX3 0).2.2.1 ∈ gtbl := kw 56 (by decide +kernel) (by decide +kernel)
theorem kfX3_15 : Cond.fieldLink RX3 15 RX3 (TX3 1).2.1 (TX3 1).2.2.1 ∈ gtbl := kw 57 (by decide +kernel) (by decide +kernel)
theorem kfX3_18 : Cond.fieldLink RX3 18 RX3 (TX3 2).2.1 (TX3 2).2.2.1 ∈ gtbl := kw 58 (by decide +kernel) (by decide +kernel)
theorem kfX3_21 : Cond.fieldLink RX3 21 RX3 (TX3 3).2.1 (TX3 3).2.2.1 ∈ gtbl := kw 59 (by decide +kernel) (by decide +kernel)
theorem kfX3_24 : Cond.fieldLink RX3 24 RX3 (TX3 4).2.1 (TX3 4).2.2.1 ∈ gtbl := kw 60 (by decide +kernel) (by decide +kernel)
theorem kfX3_27 : Cond.fieldLink RX3 27 RX3 (TX3 5).2.1 (TX3 5).2.2.1 ∈ gtbl := kw 61 (by decide +kernel) (by decide +kernel)
theorem klX4_23 : Cond.classLink RX4 23 RX1 ∈ gtbl := kw 76 (by decide +kernel) (by decide +kernel)
theorem kaX1 : Cond.instantiable RX1 6 ∈ gtbl := kw 77 (by decide +kernel) (by decide +kernel)
theorem kiX1_init : Cond.instanceMethod yX1_init ∈ gtbl := kw 79 (by decide +kernel) (by decide +kernel)
theorem kmX1_3 : Cond.methodLink RX1 3 objectInit ∈ gtbl := kw 81 (by decide +kernel) (by decide +kernel)
theorem kfX1_9 : Cond.fieldLink RX1 9 RX1 (TX1 0).2.1 (TX1 0).2.2.1 ∈ gtbl := kw 82 (by decide +kernel) (by decide +kernel)
theorem kfX1_15 : Cond.fieldLink RX1 15 RX1 (TX1 1).2.1 (TX1 1).2.2.1 ∈ gtbl := kw 83 (by decide +kernel) (by decide +kernel)
theorem kfX1_18 : Cond.fieldLink RX1 18 RX1 (TX1 2).2.1 (TX1 2).2.2.1 ∈ gtbl := kw 84 (by decide +kernel) (by decide +kernel)
theorem kfX1_22 : Cond.fieldLink RX1 22 RX1 (TX1 3).2.1 (TX1 3).2.2.1 ∈ gtbl := kw 86 (by decide +kernel) (by decide +kernel)
theorem kfX1_25 : Cond.fieldLink RX1 25 RX1 (TX1 4).2.1 (TX1 4).2.2.1 ∈ gtbl := kw 88 (by decide +kernel) (by decide +kernel)
theorem kfX1_29 : Cond.fieldLink RX1 29 RX1 (TX1 5).2.1 (TX1 5).2.2.1 ∈ gtbl := kw 90 (by decide +kernel) (by decide +kernel)
theorem klX4_30 : Cond.classLink RX4 30 RX2 ∈ gtbl := kw 105 (by decide +kernel) (by decide +kernel)
theorem kaX2 : Cond.instantiable RX2 5 ∈ gtbl := kw 106 (by decide +kernel) (by decide +kernel)
theorem kiX2_init : Cond.instanceMethod yX2_init ∈ gtbl := kw 108 (by decide +kernel) (by decide +kernel)
theorem kmX2_3 : Cond.methodLink RX2 3 objectInit ∈ gtbl := kw 110 (by decide +kernel) (by decide +kernel)
theorem kfX2_9 : Cond.fieldLink RX2 9 RX2 (TX2 0).2.1 (TX2 0).2.2.1 ∈ gtbl := kw 111 (by decide +kernel) (by decide +kernel)
theorem kfX2_15 : Cond.fieldLink RX2 15 RX2 (TX2 1).2.1 (TX2 1).2.2.1 ∈ gtbl := kw 112 (by decide +kernel) (by decide +kernel)
theorem kfX2_18 : Cond.fieldLink RX2 18 RX2 (TX2 2).2.1 (TX2 2).2.2.1 ∈ gtbl := kw 113 (by decide +kernel) (by decide +kernel)
theorem kfX2_21 : Cond.fieldLink RX2 21 RX2 (TX2 3).2.1 (TX2 3).2.2.1 ∈ gtbl := kw 114 (by decide +kernel) (by decide +kernel)
theorem kfX2_24 : Cond.fieldLink RX2 24 RX2 (TX2 4).2.1 (TX2 4).2.2.1 ∈ gtbl := kw 115 (by decide +kernel) (by decide +kernel)
theorem kfX4_12 : Cond.fieldLink RX4 12 RX4 (TX4 0).2.1 (TX4 0).2.2.1 ∈ gtbl := kw 127 (by decide +kernel) (by decide +kernel)
theorem kfX4_19 : Cond.fieldLink RX4 19 RX4 (TX4 1).2.1 (TX4 1).2.2.1 ∈ gtbl := kw 128 (by decide +kernel) (by decide +kernel)
theorem kfX4_26 : Cond.fieldLink RX4 26 RX4 (TX4 2).2.1 (TX4 2).2.2.1 ∈ gtbl := kw 129 (by decide +kernel) (by decide +kernel)
theorem kfX4_33 : Cond.fieldLink RX4 33 RX4 (TX4 3).2.1 (TX4 3).2.2.1 ∈ gtbl := kw 130 (by decide +kernel) (by decide +kernel)
theorem kmL_94 : Cond.methodLink RL 94 yX4_exact ∈ gtbl := kw 140 (by decide +kernel) (by decide +kernel)
theorem kiX4_exact : Cond.instanceMethod yX4_exact ∈ gtbl := kw 141 (by decide +kernel) (by decide +kernel)
theorem ksX4_exact : Cond.selects RX4 yX4_exact yX4_exact ∈ gtbl := kw 142 (by decide +kernel) (by decide +kernel)
theorem kmL_99 : Cond.methodLink RL 99 yX4_boxes ∈ gtbl := kw 144 (by decide +kernel) (by decide +kernel)
theorem kiX4_boxes : Cond.instanceMethod yX4_boxes ∈ gtbl := kw 145 (by decide +kernel) (by decide +kernel)
theorem ksX4_boxes : Cond.selects RX4 yX4_boxes yX4_boxes ∈ gtbl := kw 146 (by decide +kernel) (by decide +kernel)
theorem kmL_121 : Cond.methodLink RL 121 yX4_count ∈ gtbl := kw 148 (by decide +kernel) (by decide +kernel)
theorem kiX4_count : Cond.instanceMethod yX4_count ∈ gtbl := kw 149 (by decide +kernel) (by decide +kernel)
theorem ksX4_count : Cond.selects RX4 yX4_count yX4_count ∈ gtbl := kw 150 (by decide +kernel) (by decide +kernel)
theorem kmX4_186 : Cond.methodLink RX4 186 yX3_pairsOf ∈ gtbl := kw 152 (by decide +kernel) (by decide +kernel)
theorem kiX3_pairsOf : Cond.instanceMethod yX3_pairsOf ∈ gtbl := kw 153 (by decide +kernel) (by decide +kernel)
theorem ksX3_pairsOf : Cond.selects RX3 yX3_pairsOf yX3_pairsOf ∈ gtbl := kw 154 (by decide +kernel) (by decide +kernel)
theorem kmX3_47 : Cond.methodLink RX3 47 yX3_relationOf ∈ gtbl := kw 156 (by decide +kernel) (by decide +kernel)
theorem kiX3_relationOf : Cond.instanceMethod yX3_relationOf ∈ gtbl := kw 157 (by decide +kernel) (by decide +kernel)
theorem ksX3_relationOf : Cond.selects RX3 yX3_relationOf yX3_relationOf ∈ gtbl := kw 158 (by decide +kernel) (by decide +kernel)
theorem kmX3_35 : Cond.methodLink RX3 35 yX3_has ∈ gtbl := kw 160 (by decide +kernel) (by decide +kernel)
theorem kiX3_has : Cond.instanceMethod yX3_has ∈ gtbl := kw 161 (by decide +kernel) (by decide +kernel)
theorem ksX3_has : Cond.selects RX3 yX3_has yX3_has ∈ gtbl := kw 162 (by decide +kernel) (by decide +kernel)
theorem ktX4_holds : Cond.static yX4_holds ∈ gtbl := kw 165 (by decide +kernel) (by decide +kernel)
theorem kmL_65 : Cond.methodLink RL 65 yL_box ∈ gtbl := kw 167 (by decide +kernel) (by decide +kernel)
theorem ktL_box : Cond.static yL_box ∈ gtbl := kw 168 (by decide +kernel) (by decide +kernel)
theorem klL_13 : Cond.classLink RL 13 "java/lang/IllegalArgumentException" ∈ gtbl := kw 170 (by decide +kernel) (by decide +kernel)
theorem klL_15 : Cond.classLink RL 15 "java/lang/UnsupportedOperationException" ∈ gtbl := kw 171 (by decide +kernel) (by decide +kernel)
theorem kmL_7 : Cond.methodLink RL 7 yX4_box ∈ gtbl := kw 172 (by decide +kernel) (by decide +kernel)
theorem kiX4_box : Cond.instanceMethod yX4_box ∈ gtbl := kw 173 (by decide +kernel) (by decide +kernel)
theorem ksX4_box : Cond.selects RX4 yX4_box yX4_box ∈ gtbl := kw 174 (by decide +kernel) (by decide +kernel)
theorem kmX4_37 : Cond.methodLink RX4 37 yX4_needRange ∈ gtbl := kw 176 (by decide +kernel) (by decide +kernel)
theorem ktX4_needRange : Cond.static yX4_needRange ∈ gtbl := kw 177 (by decide +kernel) (by decide +kernel)
theorem klX4_66 : Cond.classLink RX4 66 "java/lang/IllegalArgumentException" ∈ gtbl := kw 179 (by decide +kernel) (by decide +kernel)
theorem kmX4_41 : Cond.methodLink RX4 41 yX0_isFull ∈ gtbl := kw 249 (by decide +kernel) (by decide +kernel)
theorem kiX0_isFull : Cond.instanceMethod yX0_isFull ∈ gtbl := kw 250 (by decide +kernel) (by decide +kernel)
theorem ksX0_isFull : Cond.selects RX0 yX0_isFull yX0_isFull ∈ gtbl := kw 251 (by decide +kernel) (by decide +kernel)
theorem klX4_45 : Cond.classLink RX4 45 "java/lang/UnsupportedOperationException" ∈ gtbl := kw 253 (by decide +kernel) (by decide +kernel)
theorem kmX4_52 : Cond.methodLink RX4 52 yX0_add ∈ gtbl := kw 269 (by decide +kernel) (by decide +kernel)
theorem kiX0_add : Cond.instanceMethod yX0_add ∈ gtbl := kw 270 (by decide +kernel) (by decide +kernel)
theorem ksX0_add : Cond.selects RX0 yX0_add yX0_add ∈ gtbl := kw 271 (by decide +kernel) (by decide +kernel)
theorem kmX0_28 : Cond.methodLink RX0 28 yX0_isFull ∈ gtbl := kw 273 (by decide +kernel) (by decide +kernel)
theorem kmL_75 : Cond.methodLink RL 75 yL_unit ∈ gtbl := kw 274 (by decide +kernel) (by decide +kernel)
theorem ktL_unit : Cond.static yL_unit ∈ gtbl := kw 275 (by decide +kernel) (by decide +kernel)
theorem kmL_17 : Cond.methodLink RL 17 yX4_unit ∈ gtbl := kw 277 (by decide +kernel) (by decide +kernel)
theorem kiX4_unit : Cond.instanceMethod yX4_unit ∈ gtbl := kw 278 (by decide +kernel) (by decide +kernel)
theorem ksX4_unit : Cond.selects RX4 yX4_unit yX4_unit ∈ gtbl := kw 279 (by decide +kernel) (by decide +kernel)
theorem kmX4_56 : Cond.methodLink RX4 56 yX3_isFull ∈ gtbl := kw 281 (by decide +kernel) (by decide +kernel)
theorem kiX3_isFull : Cond.instanceMethod yX3_isFull ∈ gtbl := kw 282 (by decide +kernel) (by decide +kernel)
theorem ksX3_isFull : Cond.selects RX3 yX3_isFull yX3_isFull ∈ gtbl := kw 283 (by decide +kernel) (by decide +kernel)
theorem kmX4_59 : Cond.methodLink RX4 59 yX3_add ∈ gtbl := kw 286 (by decide +kernel) (by decide +kernel)
theorem kiX3_add : Cond.instanceMethod yX3_add ∈ gtbl := kw 287 (by decide +kernel) (by decide +kernel)
theorem ksX3_add : Cond.selects RX3 yX3_add yX3_add ∈ gtbl := kw 288 (by decide +kernel) (by decide +kernel)
theorem kmX3_31 : Cond.methodLink RX3 31 yX3_isFull ∈ gtbl := kw 290 (by decide +kernel) (by decide +kernel)
theorem kmL_79 : Cond.methodLink RL 79 yL_group ∈ gtbl := kw 291 (by decide +kernel) (by decide +kernel)
theorem ktL_group : Cond.static yL_group ∈ gtbl := kw 292 (by decide +kernel) (by decide +kernel)
theorem klL_24 : Cond.classLink RL 24 "java/util/NoSuchElementException" ∈ gtbl := kw 294 (by decide +kernel) (by decide +kernel)
theorem kmL_21 : Cond.methodLink RL 21 yX4_group ∈ gtbl := kw 295 (by decide +kernel) (by decide +kernel)
theorem kiX4_group : Cond.instanceMethod yX4_group ∈ gtbl := kw 296 (by decide +kernel) (by decide +kernel)
theorem ksX4_group : Cond.selects RX4 yX4_group yX4_group ∈ gtbl := kw 297 (by decide +kernel) (by decide +kernel)
theorem kmX4_62 : Cond.methodLink RX4 62 yX4_needUnit ∈ gtbl := kw 299 (by decide +kernel) (by decide +kernel)
theorem kiX4_needUnit : Cond.instanceMethod yX4_needUnit ∈ gtbl := kw 301 (by decide +kernel) (by decide +kernel)
theorem kmX4_192 : Cond.methodLink RX4 192 yX3_has ∈ gtbl := kw 303 (by decide +kernel) (by decide +kernel)
theorem klX4_116 : Cond.classLink RX4 116 "java/util/NoSuchElementException" ∈ gtbl := kw 304 (by decide +kernel) (by decide +kernel)
theorem kmX4_71 : Cond.methodLink RX4 71 yX3_relationOf ∈ gtbl := kw 321 (by decide +kernel) (by decide +kernel)
theorem kmX4_75 : Cond.methodLink RX4 75 yX3_relate ∈ gtbl := kw 322 (by decide +kernel) (by decide +kernel)
theorem kiX3_relate : Cond.instanceMethod yX3_relate ∈ gtbl := kw 323 (by decide +kernel) (by decide +kernel)
theorem ksX3_relate : Cond.selects RX3 yX3_relate yX3_relate ∈ gtbl := kw 324 (by decide +kernel) (by decide +kernel)
theorem kmX3_43 : Cond.methodLink RX3 43 yX3_relateOneWay ∈ gtbl := kw 326 (by decide +kernel) (by decide +kernel)
theorem kiX3_relateOneWay : Cond.instanceMethod yX3_relateOneWay ∈ gtbl := kw 328 (by decide +kernel) (by decide +kernel)
theorem kmL_82 : Cond.methodLink RL 82 yL_change ∈ gtbl := kw 330 (by decide +kernel) (by decide +kernel)
theorem ktL_change : Cond.static yL_change ∈ gtbl := kw 331 (by decide +kernel) (by decide +kernel)
theorem kmL_26 : Cond.methodLink RL 26 yX4_change ∈ gtbl := kw 333 (by decide +kernel) (by decide +kernel)
theorem kiX4_change : Cond.instanceMethod yX4_change ∈ gtbl := kw 334 (by decide +kernel) (by decide +kernel)
theorem ksX4_change : Cond.selects RX4 yX4_change yX4_change ∈ gtbl := kw 335 (by decide +kernel) (by decide +kernel)
theorem kmX4_78 : Cond.methodLink RX4 78 yX3_reweigh ∈ gtbl := kw 337 (by decide +kernel) (by decide +kernel)
theorem kiX3_reweigh : Cond.instanceMethod yX3_reweigh ∈ gtbl := kw 338 (by decide +kernel) (by decide +kernel)
theorem ksX3_reweigh : Cond.selects RX3 yX3_reweigh yX3_reweigh ∈ gtbl := kw 339 (by decide +kernel) (by decide +kernel)
theorem kmL_86 : Cond.methodLink RL 86 yL_slack ∈ gtbl := kw 341 (by decide +kernel) (by decide +kernel)
theorem ktL_slack : Cond.static yL_slack ∈ gtbl := kw 342 (by decide +kernel) (by decide +kernel)
theorem kmL_30 : Cond.methodLink RL 30 yX4_slack ∈ gtbl := kw 344 (by decide +kernel) (by decide +kernel)
theorem kiX4_slack : Cond.instanceMethod yX4_slack ∈ gtbl := kw 345 (by decide +kernel) (by decide +kernel)
theorem ksX4_slack : Cond.selects RX4 yX4_slack yX4_slack ∈ gtbl := kw 346 (by decide +kernel) (by decide +kernel)
theorem kmX4_81 : Cond.methodLink RX4 81 yX0_keepSlack ∈ gtbl := kw 348 (by decide +kernel) (by decide +kernel)
theorem kiX0_keepSlack : Cond.instanceMethod yX0_keepSlack ∈ gtbl := kw 349 (by decide +kernel) (by decide +kernel)
theorem ksX0_keepSlack : Cond.selects RX0 yX0_keepSlack yX0_keepSlack ∈ gtbl := kw 350 (by decide +kernel) (by decide +kernel)
theorem kmL_90 : Cond.methodLink RL 90 yL_choose ∈ gtbl := kw 352 (by decide +kernel) (by decide +kernel)
theorem ktL_choose : Cond.static yL_choose ∈ gtbl := kw 353 (by decide +kernel) (by decide +kernel)
theorem kmL_34 : Cond.methodLink RL 34 yX4_choose ∈ gtbl := kw 355 (by decide +kernel) (by decide +kernel)
theorem kiX4_choose : Cond.instanceMethod yX4_choose ∈ gtbl := kw 356 (by decide +kernel) (by decide +kernel)
theorem ksX4_choose : Cond.selects RX4 yX4_choose yX4_choose ∈ gtbl := kw 357 (by decide +kernel) (by decide +kernel)
theorem kmX4_88 : Cond.methodLink RX4 88 yX1_clear ∈ gtbl := kw 359 (by decide +kernel) (by decide +kernel)
theorem kiX1_clear : Cond.instanceMethod yX1_clear ∈ gtbl := kw 360 (by decide +kernel) (by decide +kernel)
theorem ksX1_clear : Cond.selects RX1 yX1_clear yX1_clear ∈ gtbl := kw 361 (by decide +kernel) (by decide +kernel)
theorem kmX4_91 : Cond.methodLink RX4 91 yX4_putExactly ∈ gtbl := kw 363 (by decide +kernel) (by decide +kernel)
theorem kiX4_putExactly : Cond.instanceMethod yX4_putExactly ∈ gtbl := kw 365 (by decide +kernel) (by decide +kernel)
theorem kmX4_200 : Cond.methodLink RX4 200 yX3_all ∈ gtbl := kw 367 (by decide +kernel) (by decide +kernel)
theorem kiX3_all : Cond.instanceMethod yX3_all ∈ gtbl := kw 368 (by decide +kernel) (by decide +kernel)
theorem ksX3_all : Cond.selects RX3 yX3_all yX3_all ∈ gtbl := kw 369 (by decide +kernel) (by decide +kernel)
end
section
theorem kmX4_204 : Cond.methodLink RX4 204 yX2_clear ∈ gtbl := kw 371 (by decide +kernel) (by decide +kernel)
theorem kiX2_clear : Cond.instanceMethod yX2_clear ∈ gtbl := kw 372 (by decide +kernel) (by decide +kernel)
theorem ksX2_clear : Cond.selects RX2 yX2_clear yX2_clear ∈ gtbl := kw 373 (by decide +kernel) (by decide +kernel)
theorem kmX4_205 : Cond.methodLink RX4 205 yX4_boxesFor ∈ gtbl := kw 375 (by decide +kernel) (by decide +kernel)
theorem kiX4_boxesFor : Cond.instanceMethod yX4_boxesFor ∈ gtbl := kw 377 (by decide +kernel) (by decide +kernel)
theorem kmX4_154 : Cond.methodLink RX4 154 yX3_anyApart ∈ gtbl := kw 379 (by decide +kernel) (by decide +kernel)
theorem kiX3_anyApart : Cond.instanceMethod yX3_anyApart ∈ gtbl := kw 380 (by decide +kernel) (by decide +kernel)
theorem ksX3_anyApart : Cond.selects RX3 yX3_anyApart yX3_anyApart ∈ gtbl := kw 381 (by decide +kernel) (by decide +kernel)
theorem kmX4_197 : Cond.methodLink RX4 197 yX3_isWhole ∈ gtbl := kw 383 (by decide +kernel) (by decide +kernel)
theorem kiX3_isWhole : Cond.instanceMethod yX3_isWhole ∈ gtbl := kw 384 (by decide +kernel) (by decide +kernel)
theorem ksX3_isWhole : Cond.selects RX3 yX3_isWhole yX3_isWhole ∈ gtbl := kw 385 (by decide +kernel) (by decide +kernel)
theorem kmX4_160 : Cond.methodLink RX4 160 yX4_boxesThatCarry ∈ gtbl := kw 387 (by decide +kernel) (by decide +kernel)
theorem kiX4_boxesThatCarry : Cond.instanceMethod yX4_boxesThatCarry ∈ gtbl := kw 389 (by decide +kernel) (by decide +kernel)
theorem kmX4_142 : Cond.methodLink RX4 142 yX3_kindsOf ∈ gtbl := kw 391 (by decide +kernel) (by decide +kernel)
theorem kiX3_kindsOf : Cond.instanceMethod yX3_kindsOf ∈ gtbl := kw 392 (by decide +kernel) (by decide +kernel)
theorem ksX3_kindsOf : Cond.selects RX3 yX3_kindsOf yX3_kindsOf ∈ gtbl := kw 393 (by decide +kernel) (by decide +kernel)
theorem kmX4_145 : Cond.methodLink RX4 145 yX0_thatTake ∈ gtbl := kw 395 (by decide +kernel) (by decide +kernel)
theorem kiX0_thatTake : Cond.instanceMethod yX0_thatTake ∈ gtbl := kw 396 (by decide +kernel) (by decide +kernel)
theorem ksX0_thatTake : Cond.selects RX0 yX0_thatTake yX0_thatTake ∈ gtbl := kw 397 (by decide +kernel) (by decide +kernel)
theorem kmX4_128 : Cond.methodLink RX4 128 yX3_sizeOf ∈ gtbl := kw 399 (by decide +kernel) (by decide +kernel)
theorem kiX3_sizeOf : Cond.instanceMethod yX3_sizeOf ∈ gtbl := kw 400 (by decide +kernel) (by decide +kernel)
theorem ksX3_sizeOf : Cond.selects RX3 yX3_sizeOf yX3_sizeOf ∈ gtbl := kw 401 (by decide +kernel) (by decide +kernel)
theorem kmX3_51 : Cond.methodLink RX3 51 yX3_sumOf ∈ gtbl := kw 403 (by decide +kernel) (by decide +kernel)
theorem kiX3_sumOf : Cond.instanceMethod yX3_sumOf ∈ gtbl := kw 405 (by decide +kernel) (by decide +kernel)
theorem kmX4_148 : Cond.methodLink RX4 148 yX0_withRoomFor ∈ gtbl := kw 407 (by decide +kernel) (by decide +kernel)
theorem kiX0_withRoomFor : Cond.instanceMethod yX0_withRoomFor ∈ gtbl := kw 408 (by decide +kernel) (by decide +kernel)
theorem ksX0_withRoomFor : Cond.selects RX0 yX0_withRoomFor yX0_withRoomFor ∈ gtbl := kw 409 (by decide +kernel) (by decide +kernel)
theorem kmX0_39 : Cond.methodLink RX0 39 yX0_withAtLeast ∈ gtbl := kw 411 (by decide +kernel) (by decide +kernel)
theorem kiX0_withAtLeast : Cond.instanceMethod yX0_withAtLeast ∈ gtbl := kw 413 (by decide +kernel) (by decide +kernel)
theorem kmX4_131 : Cond.methodLink RX4 131 yX3_weightOf ∈ gtbl := kw 415 (by decide +kernel) (by decide +kernel)
theorem kiX3_weightOf : Cond.instanceMethod yX3_weightOf ∈ gtbl := kw 416 (by decide +kernel) (by decide +kernel)
theorem ksX3_weightOf : Cond.selects RX3 yX3_weightOf yX3_weightOf ∈ gtbl := kw 417 (by decide +kernel) (by decide +kernel)
theorem kmX4_151 : Cond.methodLink RX4 151 yX0_thatBear ∈ gtbl := kw 419 (by decide +kernel) (by decide +kernel)
theorem kiX0_thatBear : Cond.instanceMethod yX0_thatBear ∈ gtbl := kw 420 (by decide +kernel) (by decide +kernel)
theorem ksX0_thatBear : Cond.selects RX0 yX0_thatBear yX0_thatBear ∈ gtbl := kw 421 (by decide +kernel) (by decide +kernel)
theorem kmX4_208 : Cond.methodLink RX4 208 yX0_cheapestOf ∈ gtbl := kw 423 (by decide +kernel) (by decide +kernel)
theorem kiX0_cheapestOf : Cond.instanceMethod yX0_cheapestOf ∈ gtbl := kw 424 (by decide +kernel) (by decide +kernel)
theorem ksX0_cheapestOf : Cond.selects RX0 yX0_cheapestOf yX0_cheapestOf ∈ gtbl := kw 425 (by decide +kernel) (by decide +kernel)
theorem kmX0_47 : Cond.methodLink RX0 47 yX0_costOf ∈ gtbl := kw 428 (by decide +kernel) (by decide +kernel)
theorem kiX0_costOf : Cond.instanceMethod yX0_costOf ∈ gtbl := kw 429 (by decide +kernel) (by decide +kernel)
theorem ksX0_costOf : Cond.selects RX0 yX0_costOf yX0_costOf ∈ gtbl := kw 430 (by decide +kernel) (by decide +kernel)
theorem kmX0_35 : Cond.methodLink RX0 35 yX0_has ∈ gtbl := kw 432 (by decide +kernel) (by decide +kernel)
theorem kiX0_has : Cond.instanceMethod yX0_has ∈ gtbl := kw 433 (by decide +kernel) (by decide +kernel)
theorem ksX0_has : Cond.selects RX0 yX0_has yX0_has ∈ gtbl := kw 434 (by decide +kernel) (by decide +kernel)
theorem kmX4_211 : Cond.methodLink RX4 211 yX0_costOf ∈ gtbl := kw 436 (by decide +kernel) (by decide +kernel)
theorem kmX4_214 : Cond.methodLink RX4 214 yX2_offer ∈ gtbl := kw 437 (by decide +kernel) (by decide +kernel)
theorem kiX2_offer : Cond.instanceMethod yX2_offer ∈ gtbl := kw 438 (by decide +kernel) (by decide +kernel)
theorem ksX2_offer : Cond.selects RX2 yX2_offer yX2_offer ∈ gtbl := kw 439 (by decide +kernel) (by decide +kernel)
theorem kmX4_217 : Cond.methodLink RX4 217 yX2_putBest ∈ gtbl := kw 441 (by decide +kernel) (by decide +kernel)
theorem kiX2_putBest : Cond.instanceMethod yX2_putBest ∈ gtbl := kw 442 (by decide +kernel) (by decide +kernel)
theorem ksX2_putBest : Cond.selects RX2 yX2_putBest yX2_putBest ∈ gtbl := kw 443 (by decide +kernel) (by decide +kernel)
theorem kmX2_27 : Cond.methodLink RX2 27 yX2_findBest ∈ gtbl := kw 445 (by decide +kernel) (by decide +kernel)
theorem kiX2_findBest : Cond.instanceMethod yX2_findBest ∈ gtbl := kw 447 (by decide +kernel) (by decide +kernel)
theorem kmX2_37 : Cond.methodLink RX2 37 yX2_tryFirst ∈ gtbl := kw 449 (by decide +kernel) (by decide +kernel)
theorem kiX2_tryFirst : Cond.instanceMethod yX2_tryFirst ∈ gtbl := kw 451 (by decide +kernel) (by decide +kernel)
theorem kmX2_41 : Cond.methodLink RX2 41 yX2_isBetter ∈ gtbl := kw 453 (by decide +kernel) (by decide +kernel)
theorem kiX2_isBetter : Cond.instanceMethod yX2_isBetter ∈ gtbl := kw 455 (by decide +kernel) (by decide +kernel)
theorem kmX2_31 : Cond.methodLink RX2 31 yX1_append ∈ gtbl := kw 457 (by decide +kernel) (by decide +kernel)
theorem kiX1_append : Cond.instanceMethod yX1_append ∈ gtbl := kw 458 (by decide +kernel) (by decide +kernel)
theorem ksX1_append : Cond.selects RX1 yX1_append yX1_append ∈ gtbl := kw 459 (by decide +kernel) (by decide +kernel)
theorem kmX4_94 : Cond.methodLink RX4 94 yX4_putByRule ∈ gtbl := kw 461 (by decide +kernel) (by decide +kernel)
theorem kiX4_putByRule : Cond.instanceMethod yX4_putByRule ∈ gtbl := kw 463 (by decide +kernel) (by decide +kernel)
theorem kmX4_163 : Cond.methodLink RX4 163 yX4_holds ∈ gtbl := kw 465 (by decide +kernel) (by decide +kernel)
theorem kmX4_139 : Cond.methodLink RX4 139 yX3_companyOf ∈ gtbl := kw 466 (by decide +kernel) (by decide +kernel)
theorem kiX3_companyOf : Cond.instanceMethod yX3_companyOf ∈ gtbl := kw 467 (by decide +kernel) (by decide +kernel)
theorem ksX3_companyOf : Cond.selects RX3 yX3_companyOf yX3_companyOf ∈ gtbl := kw 468 (by decide +kernel) (by decide +kernel)
theorem kmX4_221 : Cond.methodLink RX4 221 yX4_putCompany ∈ gtbl := kw 470 (by decide +kernel) (by decide +kernel)
theorem kiX4_putCompany : Cond.instanceMethod yX4_putCompany ∈ gtbl := kw 472 (by decide +kernel) (by decide +kernel)
theorem kmX4_125 : Cond.methodLink RX4 125 yX1_setAt ∈ gtbl := kw 474 (by decide +kernel) (by decide +kernel)
theorem kiX1_setAt : Cond.instanceMethod yX1_setAt ∈ gtbl := kw 475 (by decide +kernel) (by decide +kernel)
theorem ksX1_setAt : Cond.selects RX1 yX1_setAt yX1_setAt ∈ gtbl := kw 476 (by decide +kernel) (by decide +kernel)
theorem kmX1_32 : Cond.methodLink RX1 32 yX1_has ∈ gtbl := kw 478 (by decide +kernel) (by decide +kernel)
theorem kiX1_has : Cond.instanceMethod yX1_has ∈ gtbl := kw 479 (by decide +kernel) (by decide +kernel)
theorem ksX1_has : Cond.selects RX1 yX1_has yX1_has ∈ gtbl := kw 480 (by decide +kernel) (by decide +kernel)
theorem kmX4_121 : Cond.methodLink RX4 121 yX1_boxAt ∈ gtbl := kw 482 (by decide +kernel) (by decide +kernel)
theorem kiX1_boxAt : Cond.instanceMethod yX1_boxAt ∈ gtbl := kw 483 (by decide +kernel) (by decide +kernel)
theorem ksX1_boxAt : Cond.selects RX1 yX1_boxAt yX1_boxAt ∈ gtbl := kw 484 (by decide +kernel) (by decide +kernel)
theorem kmX4_224 : Cond.methodLink RX4 224 yX1_replaceSet ∈ gtbl := kw 486 (by decide +kernel) (by decide +kernel)
theorem kiX1_replaceSet : Cond.instanceMethod yX1_replaceSet ∈ gtbl := kw 487 (by decide +kernel) (by decide +kernel)
theorem ksX1_replaceSet : Cond.selects RX1 yX1_replaceSet yX1_replaceSet ∈ gtbl := kw 488 (by decide +kernel) (by decide +kernel)
theorem kmX4_228 : Cond.methodLink RX4 228 yX1_append ∈ gtbl := kw 490 (by decide +kernel) (by decide +kernel)
theorem kmX4_97 : Cond.methodLink RX4 97 yX1_finish ∈ gtbl := kw 491 (by decide +kernel) (by decide +kernel)
theorem kiX1_finish : Cond.instanceMethod yX1_finish ∈ gtbl := kw 492 (by decide +kernel) (by decide +kernel)
theorem ksX1_finish : Cond.selects RX1 yX1_finish yX1_finish ∈ gtbl := kw 493 (by decide +kernel) (by decide +kernel)
theorem kmL_103 : Cond.methodLink RL 103 yL_chosen ∈ gtbl := kw 495 (by decide +kernel) (by decide +kernel)
theorem ktL_chosen : Cond.static yL_chosen ∈ gtbl := kw 496 (by decide +kernel) (by decide +kernel)
theorem kmL_38 : Cond.methodLink RL 38 yX4_chosen ∈ gtbl := kw 498 (by decide +kernel) (by decide +kernel)
theorem kiX4_chosen : Cond.instanceMethod yX4_chosen ∈ gtbl := kw 499 (by decide +kernel) (by decide +kernel)
theorem ksX4_chosen : Cond.selects RX4 yX4_chosen yX4_chosen ∈ gtbl := kw 500 (by decide +kernel) (by decide +kernel)
theorem kmX4_112 : Cond.methodLink RX4 112 yX1_has ∈ gtbl := kw 502 (by decide +kernel) (by decide +kernel)
theorem kmL_106 : Cond.methodLink RL 106 yL_where ∈ gtbl := kw 505 (by decide +kernel) (by decide +kernel)
theorem ktL_where : Cond.static yL_where ∈ gtbl := kw 506 (by decide +kernel) (by decide +kernel)
theorem kmL_41 : Cond.methodLink RL 41 yX4_where ∈ gtbl := kw 508 (by decide +kernel) (by decide +kernel)
theorem kiX4_where : Cond.instanceMethod yX4_where ∈ gtbl := kw 509 (by decide +kernel) (by decide +kernel)
theorem ksX4_where : Cond.selects RX4 yX4_where yX4_where ∈ gtbl := kw 510 (by decide +kernel) (by decide +kernel)
theorem kmX4_136 : Cond.methodLink RX4 136 yX1_holderOf ∈ gtbl := kw 512 (by decide +kernel) (by decide +kernel)
theorem kiX1_holderOf : Cond.instanceMethod yX1_holderOf ∈ gtbl := kw 513 (by decide +kernel) (by decide +kernel)
theorem ksX1_holderOf : Cond.selects RX1 yX1_holderOf yX1_holderOf ∈ gtbl := kw 514 (by decide +kernel) (by decide +kernel)
theorem kmL_109 : Cond.methodLink RL 109 yL_bar ∈ gtbl := kw 517 (by decide +kernel) (by decide +kernel)
theorem ktL_bar : Cond.static yL_bar ∈ gtbl := kw 518 (by decide +kernel) (by decide +kernel)
theorem kmL_44 : Cond.methodLink RL 44 yX4_bar ∈ gtbl := kw 520 (by decide +kernel) (by decide +kernel)
theorem kiX4_bar : Cond.instanceMethod yX4_bar ∈ gtbl := kw 521 (by decide +kernel) (by decide +kernel)
theorem ksX4_bar : Cond.selects RX4 yX4_bar yX4_bar ∈ gtbl := kw 522 (by decide +kernel) (by decide +kernel)
theorem kmL_112 : Cond.methodLink RL 112 yL_fits ∈ gtbl := kw 524 (by decide +kernel) (by decide +kernel)
theorem ktL_fits : Cond.static yL_fits ∈ gtbl := kw 525 (by decide +kernel) (by decide +kernel)
theorem kmL_47 : Cond.methodLink RL 47 yX4_fits ∈ gtbl := kw 527 (by decide +kernel) (by decide +kernel)
theorem kiX4_fits : Cond.instanceMethod yX4_fits ∈ gtbl := kw 528 (by decide +kernel) (by decide +kernel)
theorem ksX4_fits : Cond.selects RX4 yX4_fits yX4_fits ∈ gtbl := kw 529 (by decide +kernel) (by decide +kernel)
theorem kmX4_157 : Cond.methodLink RX4 157 yX4_needBox ∈ gtbl := kw 531 (by decide +kernel) (by decide +kernel)
theorem kiX4_needBox : Cond.instanceMethod yX4_needBox ∈ gtbl := kw 533 (by decide +kernel) (by decide +kernel)
theorem kmX4_189 : Cond.methodLink RX4 189 yX0_has ∈ gtbl := kw 535 (by decide +kernel) (by decide +kernel)
theorem kmL_115 : Cond.methodLink RL 115 yL_used ∈ gtbl := kw 537 (by decide +kernel) (by decide +kernel)
theorem ktL_used : Cond.static yL_used ∈ gtbl := kw 538 (by decide +kernel) (by decide +kernel)
theorem klL_54 : Cond.classLink RL 54 "java/lang/IllegalStateException" ∈ gtbl := kw 540 (by decide +kernel) (by decide +kernel)
theorem klL_56 : Cond.classLink RL 56 "java/lang/ArithmeticException" ∈ gtbl := kw 541 (by decide +kernel) (by decide +kernel)
theorem kmL_51 : Cond.methodLink RL 51 yX4_used ∈ gtbl := kw 542 (by decide +kernel) (by decide +kernel)
theorem kiX4_used : Cond.instanceMethod yX4_used ∈ gtbl := kw 543 (by decide +kernel) (by decide +kernel)
theorem ksX4_used : Cond.selects RX4 yX4_used yX4_used ∈ gtbl := kw 544 (by decide +kernel) (by decide +kernel)
theorem klX4_167 : Cond.classLink RX4 167 "java/lang/IllegalStateException" ∈ gtbl := kw 546 (by decide +kernel) (by decide +kernel)
theorem kmX4_172 : Cond.methodLink RX4 172 yX0_roomOf ∈ gtbl := kw 562 (by decide +kernel) (by decide +kernel)
theorem kiX0_roomOf : Cond.instanceMethod yX0_roomOf ∈ gtbl := kw 563 (by decide +kernel) (by decide +kernel)
theorem ksX0_roomOf : Cond.selects RX0 yX0_roomOf yX0_roomOf ∈ gtbl := kw 564 (by decide +kernel) (by decide +kernel)
theorem kmX4_175 : Cond.methodLink RX4 175 yX4_commonDivisor ∈ gtbl := kw 566 (by decide +kernel) (by decide +kernel)
theorem ktX4_commonDivisor : Cond.static yX4_commonDivisor ∈ gtbl := kw 567 (by decide +kernel) (by decide +kernel)
theorem klX4_178 : Cond.classLink RX4 178 "java/lang/ArithmeticException" ∈ gtbl := kw 569 (by decide +kernel) (by decide +kernel)
theorem kmL_118 : Cond.methodLink RL 118 yL_dimensional ∈ gtbl := kw 585 (by decide +kernel) (by decide +kernel)
theorem ktL_dimensional : Cond.static yL_dimensional ∈ gtbl := kw 586 (by decide +kernel) (by decide +kernel)
theorem kmL_58 : Cond.methodLink RL 58 yX4_dimensional ∈ gtbl := kw 588 (by decide +kernel) (by decide +kernel)
theorem kiX4_dimensional : Cond.instanceMethod yX4_dimensional ∈ gtbl := kw 589 (by decide +kernel) (by decide +kernel)
theorem ksX4_dimensional : Cond.selects RX4 yX4_dimensional yX4_dimensional ∈ gtbl := kw 590 (by decide +kernel) (by decide +kernel)
theorem klL_62 : Cond.classLink RL 62 RX5 ∈ gtbl := kw 593 (by decide +kernel) (by decide +kernel)
theorem kaX5 : Cond.instantiable RX5 20 ∈ gtbl := kw 594 (by decide +kernel) (by decide +kernel)
theorem kmL_64 : Cond.methodLink RL 64 yX5_init ∈ gtbl := kw 595 (by decide +kernel) (by decide +kernel)
theorem kiX5_init : Cond.instanceMethod yX5_init ∈ gtbl := kw 596 (by decide +kernel) (by decide +kernel)
theorem kmX5_1 : Cond.methodLink RX5 1 objectInit ∈ gtbl := kw 598 (by decide +kernel) (by decide +kernel)
theorem kfX5_53 : Cond.fieldLink RX5 53 RX5 (TX5 0).2.1 (TX5 0).2.2.1 ∈ gtbl := kw 599 (by decide +kernel) (by decide +kernel)
theorem kfX5_56 : Cond.fieldLink RX5 56 RX5 (TX5 1).2.1 (TX5 1).2.2.1 ∈ gtbl := kw 600 (by decide +kernel) (by decide +kernel)
theorem kfX5_7 : Cond.fieldLink RX5 7 RX5 (TX5 2).2.1 (TX5 2).2.2.1 ∈ gtbl := kw 601 (by decide +kernel) (by decide +kernel)
theorem kfX5_13 : Cond.fieldLink RX5 13 RX5 (TX5 3).2.1 (TX5 3).2.2.1 ∈ gtbl := kw 602 (by decide +kernel) (by decide +kernel)
theorem kfX5_16 : Cond.fieldLink RX5 16 RX5 (TX5 4).2.1 (TX5 4).2.2.1 ∈ gtbl := kw 603 (by decide +kernel) (by decide +kernel)
theorem kfX5_19 : Cond.fieldLink RX5 19 RX5 (TX5 5).2.1 (TX5 5).2.2.1 ∈ gtbl := kw 604 (by decide +kernel) (by decide +kernel)
theorem kfX5_63 : Cond.fieldLink RX5 63 RX5 (TX5 6).2.1 (TX5 6).2.2.1 ∈ gtbl := kw 605 (by decide +kernel) (by decide +kernel)
theorem kfX5_22 : Cond.fieldLink RX5 22 RX5 (TX5 7).2.1 (TX5 7).2.2.1 ∈ gtbl := kw 606 (by decide +kernel) (by decide +kernel)
theorem kfX5_25 : Cond.fieldLink RX5 25 RX5 (TX5 8).2.1 (TX5 8).2.2.1 ∈ gtbl := kw 607 (by decide +kernel) (by decide +kernel)
theorem kfX5_28 : Cond.fieldLink RX5 28 RX5 (TX5 9).2.1 (TX5 9).2.2.1 ∈ gtbl := kw 608 (by decide +kernel) (by decide +kernel)
theorem kfX5_31 : Cond.fieldLink RX5 31 RX5 (TX5 10).2.1 (TX5 10).2.2.1 ∈ gtbl := kw 609 (by decide +kernel) (by decide +kernel)
theorem kfX5_70 : Cond.fieldLink RX5 70 RX5 (TX5 11).2.1 (TX5 11).2.2.1 ∈ gtbl := kw 610 (by decide +kernel) (by decide +kernel)
theorem kfX5_34 : Cond.fieldLink RX5 34 RX5 (TX5 12).2.1 (TX5 12).2.2.1 ∈ gtbl := kw 611 (by decide +kernel) (by decide +kernel)
theorem kfX5_131 : Cond.fieldLink RX5 131 RX5 (TX5 13).2.1 (TX5 13).2.2.1 ∈ gtbl := kw 612 (by decide +kernel) (by decide +kernel)
theorem kfX5_38 : Cond.fieldLink RX5 38 RX5 (TX5 14).2.1 (TX5 14).2.2.1 ∈ gtbl := kw 613 (by decide +kernel) (by decide +kernel)
theorem kfX5_41 : Cond.fieldLink RX5 41 RX5 (TX5 15).2.1 (TX5 15).2.2.1 ∈ gtbl := kw 614 (by decide +kernel) (by decide +kernel)
theorem kfX5_99 : Cond.fieldLink RX5 99 RX5 (TX5 16).2.1 (TX5 16).2.2.1 ∈ gtbl := kw 615 (by decide +kernel) (by decide +kernel)
theorem kfX5_44 : Cond.fieldLink RX5 44 RX5 (TX5 17).2.1 (TX5 17).2.2.1 ∈ gtbl := kw 616 (by decide +kernel) (by decide +kernel)
theorem kfX5_47 : Cond.fieldLink RX5 47 RX5 (TX5 18).2.1 (TX5 18).2.2.1 ∈ gtbl := kw 617 (by decide +kernel) (by decide +kernel)
theorem kfX5_50 : Cond.fieldLink RX5 50 RX5 (TX5 19).2.1 (TX5 19).2.2.1 ∈ gtbl := kw 618 (by decide +kernel) (by decide +kernel)
theorem kmL_71 : Cond.methodLink RL 71 yX5_thrown ∈ gtbl := kw 660 (by decide +kernel) (by decide +kernel)
theorem kiX5_thrown : Cond.instanceMethod yX5_thrown ∈ gtbl := kw 661 (by decide +kernel) (by decide +kernel)
theorem ksX5_thrown : Cond.selects RX5 yX5_thrown yX5_thrown ∈ gtbl := kw 662 (by decide +kernel) (by decide +kernel)
theorem kmL_70 : Cond.methodLink RL 70 yX5_box ∈ gtbl := kw 664 (by decide +kernel) (by decide +kernel)
theorem kiX5_box : Cond.instanceMethod yX5_box ∈ gtbl := kw 665 (by decide +kernel) (by decide +kernel)
end
section
theorem ksX5_box : Cond.selects RX5 yX5_box yX5_box ∈ gtbl := kw 666 (by decide +kernel) (by decide +kernel)
theorem kmX5_59 : Cond.methodLink RX5 59 yX5_in ∈ gtbl := kw 668 (by decide +kernel) (by decide +kernel)
theorem ktX5_in : Cond.static yX5_in ∈ gtbl := kw 669 (by decide +kernel) (by decide +kernel)
theorem kmL_78 : Cond.methodLink RL 78 yX5_unit ∈ gtbl := kw 671 (by decide +kernel) (by decide +kernel)
theorem kiX5_unit : Cond.instanceMethod yX5_unit ∈ gtbl := kw 672 (by decide +kernel) (by decide +kernel)
theorem ksX5_unit : Cond.selects RX5 yX5_unit yX5_unit ∈ gtbl := kw 673 (by decide +kernel) (by decide +kernel)
theorem kmL_81 : Cond.methodLink RL 81 yX5_group ∈ gtbl := kw 675 (by decide +kernel) (by decide +kernel)
theorem kiX5_group : Cond.instanceMethod yX5_group ∈ gtbl := kw 676 (by decide +kernel) (by decide +kernel)
theorem ksX5_group : Cond.selects RX5 yX5_group yX5_group ∈ gtbl := kw 677 (by decide +kernel) (by decide +kernel)
theorem kmX5_66 : Cond.methodLink RX5 66 yX5_isUnit ∈ gtbl := kw 679 (by decide +kernel) (by decide +kernel)
theorem kiX5_isUnit : Cond.instanceMethod yX5_isUnit ∈ gtbl := kw 681 (by decide +kernel) (by decide +kernel)
theorem kmL_85 : Cond.methodLink RL 85 yX5_change ∈ gtbl := kw 683 (by decide +kernel) (by decide +kernel)
theorem kiX5_change : Cond.instanceMethod yX5_change ∈ gtbl := kw 684 (by decide +kernel) (by decide +kernel)
theorem ksX5_change : Cond.selects RX5 yX5_change yX5_change ∈ gtbl := kw 685 (by decide +kernel) (by decide +kernel)
theorem kmL_89 : Cond.methodLink RL 89 yX5_slack ∈ gtbl := kw 687 (by decide +kernel) (by decide +kernel)
theorem kiX5_slack : Cond.instanceMethod yX5_slack ∈ gtbl := kw 688 (by decide +kernel) (by decide +kernel)
theorem ksX5_slack : Cond.selects RX5 yX5_slack yX5_slack ∈ gtbl := kw 689 (by decide +kernel) (by decide +kernel)
theorem kmL_93 : Cond.methodLink RL 93 yX5_choose ∈ gtbl := kw 691 (by decide +kernel) (by decide +kernel)
theorem kiX5_choose : Cond.instanceMethod yX5_choose ∈ gtbl := kw 692 (by decide +kernel) (by decide +kernel)
theorem ksX5_choose : Cond.selects RX5 yX5_choose yX5_choose ∈ gtbl := kw 693 (by decide +kernel) (by decide +kernel)
theorem kmX5_125 : Cond.methodLink RX5 125 yX5_exactly ∈ gtbl := kw 695 (by decide +kernel) (by decide +kernel)
theorem kiX5_exactly : Cond.instanceMethod yX5_exactly ∈ gtbl := kw 697 (by decide +kernel) (by decide +kernel)
theorem kmX5_109 : Cond.methodLink RX5 109 yX5_isWay ∈ gtbl := kw 699 (by decide +kernel) (by decide +kernel)
theorem kiX5_isWay : Cond.instanceMethod yX5_isWay ∈ gtbl := kw 701 (by decide +kernel) (by decide +kernel)
theorem kmX5_106 : Cond.methodLink RX5 106 yX5_cheapest ∈ gtbl := kw 703 (by decide +kernel) (by decide +kernel)
theorem kiX5_cheapest : Cond.instanceMethod yX5_cheapest ∈ gtbl := kw 705 (by decide +kernel) (by decide +kernel)
theorem kmX5_96 : Cond.methodLink RX5 96 yX5_fitsSet ∈ gtbl := kw 707 (by decide +kernel) (by decide +kernel)
theorem kiX5_fitsSet : Cond.instanceMethod yX5_fitsSet ∈ gtbl := kw 709 (by decide +kernel) (by decide +kernel)
theorem kmX5_87 : Cond.methodLink RX5 87 yX5_passes ∈ gtbl := kw 711 (by decide +kernel) (by decide +kernel)
theorem kiX5_passes : Cond.instanceMethod yX5_passes ∈ gtbl := kw 713 (by decide +kernel) (by decide +kernel)
theorem kmX5_77 : Cond.methodLink RX5 77 yX5_takesKinds ∈ gtbl := kw 715 (by decide +kernel) (by decide +kernel)
theorem kiX5_takesKinds : Cond.instanceMethod yX5_takesKinds ∈ gtbl := kw 717 (by decide +kernel) (by decide +kernel)
theorem kmX5_73 : Cond.methodLink RX5 73 yX5_has ∈ gtbl := kw 719 (by decide +kernel) (by decide +kernel)
theorem ktX5_has : Cond.static yX5_has ∈ gtbl := kw 720 (by decide +kernel) (by decide +kernel)
theorem kmX5_80 : Cond.methodLink RX5 80 yX5_sizes ∈ gtbl := kw 722 (by decide +kernel) (by decide +kernel)
theorem kiX5_sizes : Cond.instanceMethod yX5_sizes ∈ gtbl := kw 724 (by decide +kernel) (by decide +kernel)
theorem kmX5_84 : Cond.methodLink RX5 84 yX5_weights ∈ gtbl := kw 726 (by decide +kernel) (by decide +kernel)
theorem kiX5_weights : Cond.instanceMethod yX5_weights ∈ gtbl := kw 728 (by decide +kernel) (by decide +kernel)
theorem kmX5_90 : Cond.methodLink RX5 90 yX5_hasApart ∈ gtbl := kw 730 (by decide +kernel) (by decide +kernel)
theorem kiX5_hasApart : Cond.instanceMethod yX5_hasApart ∈ gtbl := kw 732 (by decide +kernel) (by decide +kernel)
theorem kmX5_93 : Cond.methodLink RX5 93 yX5_isWhole ∈ gtbl := kw 734 (by decide +kernel) (by decide +kernel)
theorem kiX5_isWhole : Cond.instanceMethod yX5_isWhole ∈ gtbl := kw 736 (by decide +kernel) (by decide +kernel)
theorem kmX5_113 : Cond.methodLink RX5 113 yX5_isBetter ∈ gtbl := kw 738 (by decide +kernel) (by decide +kernel)
theorem kiX5_isBetter : Cond.instanceMethod yX5_isBetter ∈ gtbl := kw 740 (by decide +kernel) (by decide +kernel)
theorem kmX5_102 : Cond.methodLink RX5 102 yX5_costOf ∈ gtbl := kw 742 (by decide +kernel) (by decide +kernel)
theorem kiX5_costOf : Cond.instanceMethod yX5_costOf ∈ gtbl := kw 744 (by decide +kernel) (by decide +kernel)
theorem kmX5_116 : Cond.methodLink RX5 116 yX5_keep ∈ gtbl := kw 746 (by decide +kernel) (by decide +kernel)
theorem kiX5_keep : Cond.instanceMethod yX5_keep ∈ gtbl := kw 748 (by decide +kernel) (by decide +kernel)
theorem kmX5_119 : Cond.methodLink RX5 119 yX5_next ∈ gtbl := kw 750 (by decide +kernel) (by decide +kernel)
theorem kiX5_next : Cond.instanceMethod yX5_next ∈ gtbl := kw 752 (by decide +kernel) (by decide +kernel)
theorem kmX5_128 : Cond.methodLink RX5 128 yX5_byRule ∈ gtbl := kw 754 (by decide +kernel) (by decide +kernel)
theorem kiX5_byRule : Cond.instanceMethod yX5_byRule ∈ gtbl := kw 756 (by decide +kernel) (by decide +kernel)
theorem kmX5_122 : Cond.methodLink RX5 122 yX5_wholeOf ∈ gtbl := kw 758 (by decide +kernel) (by decide +kernel)
theorem kiX5_wholeOf : Cond.instanceMethod yX5_wholeOf ∈ gtbl := kw 760 (by decide +kernel) (by decide +kernel)
theorem kmL_98 : Cond.methodLink RL 98 yX5_exact ∈ gtbl := kw 762 (by decide +kernel) (by decide +kernel)
theorem kiX5_exact : Cond.instanceMethod yX5_exact ∈ gtbl := kw 763 (by decide +kernel) (by decide +kernel)
theorem ksX5_exact : Cond.selects RX5 yX5_exact yX5_exact ∈ gtbl := kw 764 (by decide +kernel) (by decide +kernel)
theorem kmL_102 : Cond.methodLink RL 102 yX5_boxes ∈ gtbl := kw 766 (by decide +kernel) (by decide +kernel)
theorem kiX5_boxes : Cond.instanceMethod yX5_boxes ∈ gtbl := kw 767 (by decide +kernel) (by decide +kernel)
theorem ksX5_boxes : Cond.selects RX5 yX5_boxes yX5_boxes ∈ gtbl := kw 768 (by decide +kernel) (by decide +kernel)
theorem kmL_105 : Cond.methodLink RL 105 yX5_chosen ∈ gtbl := kw 770 (by decide +kernel) (by decide +kernel)
theorem kiX5_chosen : Cond.instanceMethod yX5_chosen ∈ gtbl := kw 771 (by decide +kernel) (by decide +kernel)
theorem ksX5_chosen : Cond.selects RX5 yX5_chosen yX5_chosen ∈ gtbl := kw 772 (by decide +kernel) (by decide +kernel)
theorem kmL_108 : Cond.methodLink RL 108 yX5_where ∈ gtbl := kw 774 (by decide +kernel) (by decide +kernel)
theorem kiX5_where : Cond.instanceMethod yX5_where ∈ gtbl := kw 775 (by decide +kernel) (by decide +kernel)
theorem ksX5_where : Cond.selects RX5 yX5_where yX5_where ∈ gtbl := kw 776 (by decide +kernel) (by decide +kernel)
theorem kmL_111 : Cond.methodLink RL 111 yX5_bar ∈ gtbl := kw 778 (by decide +kernel) (by decide +kernel)
theorem kiX5_bar : Cond.instanceMethod yX5_bar ∈ gtbl := kw 779 (by decide +kernel) (by decide +kernel)
theorem ksX5_bar : Cond.selects RX5 yX5_bar yX5_bar ∈ gtbl := kw 780 (by decide +kernel) (by decide +kernel)
theorem kmL_114 : Cond.methodLink RL 114 yX5_fits ∈ gtbl := kw 782 (by decide +kernel) (by decide +kernel)
theorem kiX5_fits : Cond.instanceMethod yX5_fits ∈ gtbl := kw 783 (by decide +kernel) (by decide +kernel)
theorem ksX5_fits : Cond.selects RX5 yX5_fits yX5_fits ∈ gtbl := kw 784 (by decide +kernel) (by decide +kernel)
theorem kmX5_135 : Cond.methodLink RX5 135 yX5_isBox ∈ gtbl := kw 786 (by decide +kernel) (by decide +kernel)
theorem kiX5_isBox : Cond.instanceMethod yX5_isBox ∈ gtbl := kw 788 (by decide +kernel) (by decide +kernel)
theorem kmL_117 : Cond.methodLink RL 117 yX5_used ∈ gtbl := kw 790 (by decide +kernel) (by decide +kernel)
theorem kiX5_used : Cond.instanceMethod yX5_used ∈ gtbl := kw 791 (by decide +kernel) (by decide +kernel)
theorem ksX5_used : Cond.selects RX5 yX5_used yX5_used ∈ gtbl := kw 792 (by decide +kernel) (by decide +kernel)
theorem kmX5_138 : Cond.methodLink RX5 138 yX5_divisor ∈ gtbl := kw 794 (by decide +kernel) (by decide +kernel)
theorem ktX5_divisor : Cond.static yX5_divisor ∈ gtbl := kw 795 (by decide +kernel) (by decide +kernel)
theorem kmL_120 : Cond.methodLink RL 120 yX5_dimensional ∈ gtbl := kw 797 (by decide +kernel) (by decide +kernel)
theorem kiX5_dimensional : Cond.instanceMethod yX5_dimensional ∈ gtbl := kw 798 (by decide +kernel) (by decide +kernel)
theorem ksX5_dimensional : Cond.selects RX5 yX5_dimensional yX5_dimensional ∈ gtbl := kw 799 (by decide +kernel) (by decide +kernel)
theorem kmL_124 : Cond.methodLink RL 124 yX5_count ∈ gtbl := kw 801 (by decide +kernel) (by decide +kernel)
theorem kiX5_count : Cond.instanceMethod yX5_count ∈ gtbl := kw 802 (by decide +kernel) (by decide +kernel)
theorem ksX5_count : Cond.selects RX5 yX5_count yX5_count ∈ gtbl := kw 803 (by decide +kernel) (by decide +kernel)
theorem kr_long : Cond.arrayClass .long ∈ gtbl := kw 805 (by decide +kernel) (by decide +kernel)
theorem kcX4_init : Cond.code yX4_init cX4_init 1 none ∈ gtbl := kw 19 (by decide +kernel) (by decide +kernel)
theorem hdX4_init : yX4_init.cls ≠ "java/lang/invoke/MethodHandle" ∧ yX4_init.cls ≠ "java/lang/invoke/VarHandle" ∧ (parseMethodDescriptor yX4_init.desc).map (fun d => d.parameters.length) = some 0 := by decide +kernel
theorem kcX0_init : Cond.code yX0_init cX0_init 1 none ∈ gtbl := kw 27 (by decide +kernel) (by decide +kernel)
theorem hdX0_init : yX0_init.cls ≠ "java/lang/invoke/MethodHandle" ∧ yX0_init.cls ≠ "java/lang/invoke/VarHandle" ∧ (parseMethodDescriptor yX0_init.desc).map (fun d => d.parameters.length) = some 0 := by decide +kernel
theorem kcX3_init : Cond.code yX3_init cX3_init 1 none ∈ gtbl := kw 54 (by decide +kernel) (by decide +kernel)
theorem hdX3_init : yX3_init.cls ≠ "java/lang/invoke/MethodHandle" ∧ yX3_init.cls ≠ "java/lang/invoke/VarHandle" ∧ (parseMethodDescriptor yX3_init.desc).map (fun d => d.parameters.length) = some 0 := by decide +kernel
theorem kcX1_init : Cond.code yX1_init cX1_init 1 none ∈ gtbl := kw 80 (by decide +kernel) (by decide +kernel)
theorem hdX1_init : yX1_init.cls ≠ "java/lang/invoke/MethodHandle" ∧ yX1_init.cls ≠ "java/lang/invoke/VarHandle" ∧ (parseMethodDescriptor yX1_init.desc).map (fun d => d.parameters.length) = some 0 := by decide +kernel
theorem kcX2_init : Cond.code yX2_init cX2_init 1 none ∈ gtbl := kw 109 (by decide +kernel) (by decide +kernel)
theorem hdX2_init : yX2_init.cls ≠ "java/lang/invoke/MethodHandle" ∧ yX2_init.cls ≠ "java/lang/invoke/VarHandle" ∧ (parseMethodDescriptor yX2_init.desc).map (fun d => d.parameters.length) = some 0 := by decide +kernel
theorem kcX4_exact : Cond.code yX4_exact cX4_exact 1 (some .boolean) ∈ gtbl := kw 143 (by decide +kernel) (by decide +kernel)
theorem hdX4_exact : yX4_exact.cls ≠ "java/lang/invoke/MethodHandle" ∧ yX4_exact.cls ≠ "java/lang/invoke/VarHandle" ∧ (parseMethodDescriptor yX4_exact.desc).map (fun d => d.parameters.length) = some 0 := by decide +kernel
theorem kcX4_boxes : Cond.code yX4_boxes cX4_boxes 1 (some .int) ∈ gtbl := kw 147 (by decide +kernel) (by decide +kernel)
theorem hdX4_boxes : yX4_boxes.cls ≠ "java/lang/invoke/MethodHandle" ∧ yX4_boxes.cls ≠ "java/lang/invoke/VarHandle" ∧ (parseMethodDescriptor yX4_boxes.desc).map (fun d => d.parameters.length) = some 0 := by decide +kernel
theorem kcX4_count : Cond.code yX4_count cX4_count 2 (some .int) ∈ gtbl := kw 151 (by decide +kernel) (by decide +kernel)
theorem hdX4_count : yX4_count.cls ≠ "java/lang/invoke/MethodHandle" ∧ yX4_count.cls ≠ "java/lang/invoke/VarHandle" ∧ (parseMethodDescriptor yX4_count.desc).map (fun d => d.parameters.length) = some 1 := by decide +kernel
theorem kcX3_pairsOf : Cond.code yX3_pairsOf cX3_pairsOf 5 (some .int) ∈ gtbl := kw 155 (by decide +kernel) (by decide +kernel)
theorem hdX3_pairsOf : yX3_pairsOf.cls ≠ "java/lang/invoke/MethodHandle" ∧ yX3_pairsOf.cls ≠ "java/lang/invoke/VarHandle" ∧ (parseMethodDescriptor yX3_pairsOf.desc).map (fun d => d.parameters.length) = some 1 := by decide +kernel
theorem kcX3_relationOf : Cond.code yX3_relationOf cX3_relationOf 3 (some .int) ∈ gtbl := kw 159 (by decide +kernel) (by decide +kernel)
theorem hdX3_relationOf : yX3_relationOf.cls ≠ "java/lang/invoke/MethodHandle" ∧ yX3_relationOf.cls ≠ "java/lang/invoke/VarHandle" ∧ (parseMethodDescriptor yX3_relationOf.desc).map (fun d => d.parameters.length) = some 2 := by decide +kernel
theorem kcX3_has : Cond.code yX3_has cX3_has 2 (some .boolean) ∈ gtbl := kw 163 (by decide +kernel) (by decide +kernel)
theorem hdX3_has : yX3_has.cls ≠ "java/lang/invoke/MethodHandle" ∧ yX3_has.cls ≠ "java/lang/invoke/VarHandle" ∧ (parseMethodDescriptor yX3_has.desc).map (fun d => d.parameters.length) = some 1 := by decide +kernel
theorem kcX4_holds : Cond.code yX4_holds cX4_holds 2 (some .boolean) ∈ gtbl := kw 166 (by decide +kernel) (by decide +kernel)
theorem hdX4_holds : yX4_holds.cls ≠ "java/lang/invoke/MethodHandle" ∧ yX4_holds.cls ≠ "java/lang/invoke/VarHandle" ∧ (parseMethodDescriptor yX4_holds.desc).map (fun d => d.parameters.length) = some 2 := by decide +kernel
theorem kcL_box : Cond.codeWith yL_box cL_box 7 (some .int) [(0, 14, 17, 13), (0, 14, 21, 15)] ∈ gtbl := kw 169 (by decide +kernel) (by decide +kernel)
theorem hdL_box : yL_box.cls ≠ "java/lang/invoke/MethodHandle" ∧ yL_box.cls ≠ "java/lang/invoke/VarHandle" ∧ (parseMethodDescriptor yL_box.desc).map (fun d => d.parameters.length) = some 6 := by decide +kernel
theorem kcX4_box : Cond.code yX4_box cX4_box 5 (some .int) ∈ gtbl := kw 175 (by decide +kernel) (by decide +kernel)
theorem hdX4_box : yX4_box.cls ≠ "java/lang/invoke/MethodHandle" ∧ yX4_box.cls ≠ "java/lang/invoke/VarHandle" ∧ (parseMethodDescriptor yX4_box.desc).map (fun d => d.parameters.length) = some 4 := by decide +kernel
theorem kcX4_needRange : Cond.code yX4_needRange cX4_needRange 3 none ∈ gtbl := kw 178 (by decide +kernel) (by decide +kernel)
theorem hdX4_needRange : yX4_needRange.cls ≠ "java/lang/invoke/MethodHandle" ∧ yX4_needRange.cls ≠ "java/lang/invoke/VarHandle" ∧ (parseMethodDescriptor yX4_needRange.desc).map (fun d => d.parameters.length) = some 3 := by decide +kernel
theorem kcX0_isFull : Cond.code yX0_isFull cX0_isFull 1 (some .boolean) ∈ gtbl := kw 252 (by decide +kernel) (by decide +kernel)
theorem hdX0_isFull : yX0_isFull.cls ≠ "java/lang/invoke/MethodHandle" ∧ yX0_isFull.cls ≠ "java/lang/invoke/VarHandle" ∧ (parseMethodDescriptor yX0_isFull.desc).map (fun d => d.parameters.length) = some 0 := by decide +kernel
theorem kcX0_add : Cond.code yX0_add cX0_add 6 (some .int) ∈ gtbl := kw 272 (by decide +kernel) (by decide +kernel)
theorem hdX0_add : yX0_add.cls ≠ "java/lang/invoke/MethodHandle" ∧ yX0_add.cls ≠ "java/lang/invoke/VarHandle" ∧ (parseMethodDescriptor yX0_add.desc).map (fun d => d.parameters.length) = some 4 := by decide +kernel
theorem kcL_unit : Cond.codeWith yL_unit cL_unit 6 (some .int) [(0, 12, 15, 13), (0, 12, 19, 15)] ∈ gtbl := kw 276 (by decide +kernel) (by decide +kernel)
theorem hdL_unit : yL_unit.cls ≠ "java/lang/invoke/MethodHandle" ∧ yL_unit.cls ≠ "java/lang/invoke/VarHandle" ∧ (parseMethodDescriptor yL_unit.desc).map (fun d => d.parameters.length) = some 5 := by decide +kernel
theorem kcX4_unit : Cond.code yX4_unit cX4_unit 4 (some .int) ∈ gtbl := kw 280 (by decide +kernel) (by decide +kernel)
theorem hdX4_unit : yX4_unit.cls ≠ "java/lang/invoke/MethodHandle" ∧ yX4_unit.cls ≠ "java/lang/invoke/VarHandle" ∧ (parseMethodDescriptor yX4_unit.desc).map (fun d => d.parameters.length) = some 3 := by decide +kernel
theorem kcX3_isFull : Cond.code yX3_isFull cX3_isFull 1 (some .boolean) ∈ gtbl := kw 284 (by decide +kernel) (by decide +kernel)
theorem hdX3_isFull : yX3_isFull.cls ≠ "java/lang/invoke/MethodHandle" ∧ yX3_isFull.cls ≠ "java/lang/invoke/VarHandle" ∧ (parseMethodDescriptor yX3_isFull.desc).map (fun d => d.parameters.length) = some 0 := by decide +kernel
theorem kcX3_add : Cond.code yX3_add cX3_add 5 (some .int) ∈ gtbl := kw 289 (by decide +kernel) (by decide +kernel)
theorem hdX3_add : yX3_add.cls ≠ "java/lang/invoke/MethodHandle" ∧ yX3_add.cls ≠ "java/lang/invoke/VarHandle" ∧ (parseMethodDescriptor yX3_add.desc).map (fun d => d.parameters.length) = some 3 := by decide +kernel
theorem kcL_group : Cond.codeWith yL_group cL_group 6 (some .int) [(0, 12, 15, 24), (0, 12, 19, 13)] ∈ gtbl := kw 293 (by decide +kernel) (by decide +kernel)
theorem hdL_group : yL_group.cls ≠ "java/lang/invoke/MethodHandle" ∧ yL_group.cls ≠ "java/lang/invoke/VarHandle" ∧ (parseMethodDescriptor yL_group.desc).map (fun d => d.parameters.length) = some 5 := by decide +kernel
theorem kcX4_group : Cond.code yX4_group cX4_group 5 (some .int) ∈ gtbl := kw 298 (by decide +kernel) (by decide +kernel)
theorem hdX4_group : yX4_group.cls ≠ "java/lang/invoke/MethodHandle" ∧ yX4_group.cls ≠ "java/lang/invoke/VarHandle" ∧ (parseMethodDescriptor yX4_group.desc).map (fun d => d.parameters.length) = some 3 := by decide +kernel
theorem kcX4_needUnit : Cond.code yX4_needUnit cX4_needUnit 2 none ∈ gtbl := kw 302 (by decide +kernel) (by decide +kernel)
theorem hdX4_needUnit : yX4_needUnit.cls ≠ "java/lang/invoke/MethodHandle" ∧ yX4_needUnit.cls ≠ "java/lang/invoke/VarHandle" ∧ (parseMethodDescriptor yX4_needUnit.desc).map (fun d => d.parameters.length) = some 1 := by decide +kernel
theorem kcX3_relate : Cond.code yX3_relate cX3_relate 4 none ∈ gtbl := kw 325 (by decide +kernel) (by decide +kernel)
theorem hdX3_relate : yX3_relate.cls ≠ "java/lang/invoke/MethodHandle" ∧ yX3_relate.cls ≠ "java/lang/invoke/VarHandle" ∧ (parseMethodDescriptor yX3_relate.desc).map (fun d => d.parameters.length) = some 3 := by decide +kernel
theorem kcX3_relateOneWay : Cond.code yX3_relateOneWay cX3_relateOneWay 5 none ∈ gtbl := kw 329 (by decide +kernel) (by decide +kernel)
theorem hdX3_relateOneWay : yX3_relateOneWay.cls ≠ "java/lang/invoke/MethodHandle" ∧ yX3_relateOneWay.cls ≠ "java/lang/invoke/VarHandle" ∧ (parseMethodDescriptor yX3_relateOneWay.desc).map (fun d => d.parameters.length) = some 3 := by decide +kernel
theorem kcL_change : Cond.codeWith yL_change cL_change 5 (some .int) [(0, 10, 13, 24), (0, 10, 17, 13)] ∈ gtbl := kw 332 (by decide +kernel) (by decide +kernel)
theorem hdL_change : yL_change.cls ≠ "java/lang/invoke/MethodHandle" ∧ yL_change.cls ≠ "java/lang/invoke/VarHandle" ∧ (parseMethodDescriptor yL_change.desc).map (fun d => d.parameters.length) = some 4 := by decide +kernel
theorem kcX4_change : Cond.code yX4_change cX4_change 3 (some .int) ∈ gtbl := kw 336 (by decide +kernel) (by decide +kernel)
theorem hdX4_change : yX4_change.cls ≠ "java/lang/invoke/MethodHandle" ∧ yX4_change.cls ≠ "java/lang/invoke/VarHandle" ∧ (parseMethodDescriptor yX4_change.desc).map (fun d => d.parameters.length) = some 2 := by decide +kernel
theorem kcX3_reweigh : Cond.code yX3_reweigh cX3_reweigh 4 (some .int) ∈ gtbl := kw 340 (by decide +kernel) (by decide +kernel)
theorem hdX3_reweigh : yX3_reweigh.cls ≠ "java/lang/invoke/MethodHandle" ∧ yX3_reweigh.cls ≠ "java/lang/invoke/VarHandle" ∧ (parseMethodDescriptor yX3_reweigh.desc).map (fun d => d.parameters.length) = some 2 := by decide +kernel
theorem kcL_slack : Cond.codeWith yL_slack cL_slack 3 (some .int) [(0, 5, 8, 13)] ∈ gtbl := kw 343 (by decide +kernel) (by decide +kernel)
theorem hdL_slack : yL_slack.cls ≠ "java/lang/invoke/MethodHandle" ∧ yL_slack.cls ≠ "java/lang/invoke/VarHandle" ∧ (parseMethodDescriptor yL_slack.desc).map (fun d => d.parameters.length) = some 2 := by decide +kernel
theorem kcX4_slack : Cond.code yX4_slack cX4_slack 2 none ∈ gtbl := kw 347 (by decide +kernel) (by decide +kernel)
theorem hdX4_slack : yX4_slack.cls ≠ "java/lang/invoke/MethodHandle" ∧ yX4_slack.cls ≠ "java/lang/invoke/VarHandle" ∧ (parseMethodDescriptor yX4_slack.desc).map (fun d => d.parameters.length) = some 1 := by decide +kernel
theorem kcX0_keepSlack : Cond.code yX0_keepSlack cX0_keepSlack 2 none ∈ gtbl := kw 351 (by decide +kernel) (by decide +kernel)
theorem hdX0_keepSlack : yX0_keepSlack.cls ≠ "java/lang/invoke/MethodHandle" ∧ yX0_keepSlack.cls ≠ "java/lang/invoke/VarHandle" ∧ (parseMethodDescriptor yX0_keepSlack.desc).map (fun d => d.parameters.length) = some 1 := by decide +kernel
theorem kcL_choose : Cond.codeWith yL_choose cL_choose 4 (some .int) [(0, 9, 12, 13)] ∈ gtbl := kw 354 (by decide +kernel) (by decide +kernel)
theorem hdL_choose : yL_choose.cls ≠ "java/lang/invoke/MethodHandle" ∧ yL_choose.cls ≠ "java/lang/invoke/VarHandle" ∧ (parseMethodDescriptor yL_choose.desc).map (fun d => d.parameters.length) = some 3 := by decide +kernel
theorem kcX4_choose : Cond.code yX4_choose cX4_choose 4 (some .int) ∈ gtbl := kw 358 (by decide +kernel) (by decide +kernel)
theorem hdX4_choose : yX4_choose.cls ≠ "java/lang/invoke/MethodHandle" ∧ yX4_choose.cls ≠ "java/lang/invoke/VarHandle" ∧ (parseMethodDescriptor yX4_choose.desc).map (fun d => d.parameters.length) = some 1 := by decide +kernel
theorem kcX1_clear : Cond.code yX1_clear cX1_clear 1 none ∈ gtbl := kw 362 (by decide +kernel) (by decide +kernel)
theorem hdX1_clear : yX1_clear.cls ≠ "java/lang/invoke/MethodHandle" ∧ yX1_clear.cls ≠ "java/lang/invoke/VarHandle" ∧ (parseMethodDescriptor yX1_clear.desc).map (fun d => d.parameters.length) = some 0 := by decide +kernel
theorem kcX4_putExactly : Cond.code yX4_putExactly cX4_putExactly 4 (some .boolean) ∈ gtbl := kw 366 (by decide +kernel) (by decide +kernel)
theorem hdX4_putExactly : yX4_putExactly.cls ≠ "java/lang/invoke/MethodHandle" ∧ yX4_putExactly.cls ≠ "java/lang/invoke/VarHandle" ∧ (parseMethodDescriptor yX4_putExactly.desc).map (fun d => d.parameters.length) = some 0 := by decide +kernel
theorem kcX3_all : Cond.code yX3_all cX3_all 1 (some .int) ∈ gtbl := kw 370 (by decide +kernel) (by decide +kernel)
theorem hdX3_all : yX3_all.cls ≠ "java/lang/invoke/MethodHandle" ∧ yX3_all.cls ≠ "java/lang/invoke/VarHandle" ∧ (parseMethodDescriptor yX3_all.desc).map (fun d => d.parameters.length) = some 0 := by decide +kernel
end
section
theorem kcX2_clear : Cond.code yX2_clear cX2_clear 2 none ∈ gtbl := kw 374 (by decide +kernel) (by decide +kernel)
theorem hdX2_clear : yX2_clear.cls ≠ "java/lang/invoke/MethodHandle" ∧ yX2_clear.cls ≠ "java/lang/invoke/VarHandle" ∧ (parseMethodDescriptor yX2_clear.desc).map (fun d => d.parameters.length) = some 0 := by decide +kernel
theorem kcX4_boxesFor : Cond.code yX4_boxesFor cX4_boxesFor 2 (some .int) ∈ gtbl := kw 378 (by decide +kernel) (by decide +kernel)
theorem hdX4_boxesFor : yX4_boxesFor.cls ≠ "java/lang/invoke/MethodHandle" ∧ yX4_boxesFor.cls ≠ "java/lang/invoke/VarHandle" ∧ (parseMethodDescriptor yX4_boxesFor.desc).map (fun d => d.parameters.length) = some 1 := by decide +kernel
theorem kcX3_anyApart : Cond.code yX3_anyApart cX3_anyApart 3 (some .boolean) ∈ gtbl := kw 382 (by decide +kernel) (by decide +kernel)
theorem hdX3_anyApart : yX3_anyApart.cls ≠ "java/lang/invoke/MethodHandle" ∧ yX3_anyApart.cls ≠ "java/lang/invoke/VarHandle" ∧ (parseMethodDescriptor yX3_anyApart.desc).map (fun d => d.parameters.length) = some 1 := by decide +kernel
theorem kcX3_isWhole : Cond.code yX3_isWhole cX3_isWhole 3 (some .boolean) ∈ gtbl := kw 386 (by decide +kernel) (by decide +kernel)
theorem hdX3_isWhole : yX3_isWhole.cls ≠ "java/lang/invoke/MethodHandle" ∧ yX3_isWhole.cls ≠ "java/lang/invoke/VarHandle" ∧ (parseMethodDescriptor yX3_isWhole.desc).map (fun d => d.parameters.length) = some 1 := by decide +kernel
theorem kcX4_boxesThatCarry : Cond.code yX4_boxesThatCarry cX4_boxesThatCarry 2 (some .int) ∈ gtbl := kw 390 (by decide +kernel) (by decide +kernel)
theorem hdX4_boxesThatCarry : yX4_boxesThatCarry.cls ≠ "java/lang/invoke/MethodHandle" ∧ yX4_boxesThatCarry.cls ≠ "java/lang/invoke/VarHandle" ∧ (parseMethodDescriptor yX4_boxesThatCarry.desc).map (fun d => d.parameters.length) = some 1 := by decide +kernel
theorem kcX3_kindsOf : Cond.code yX3_kindsOf cX3_kindsOf 4 (some .int) ∈ gtbl := kw 394 (by decide +kernel) (by decide +kernel)
theorem hdX3_kindsOf : yX3_kindsOf.cls ≠ "java/lang/invoke/MethodHandle" ∧ yX3_kindsOf.cls ≠ "java/lang/invoke/VarHandle" ∧ (parseMethodDescriptor yX3_kindsOf.desc).map (fun d => d.parameters.length) = some 1 := by decide +kernel
theorem kcX0_thatTake : Cond.code yX0_thatTake cX0_thatTake 4 (some .int) ∈ gtbl := kw 398 (by decide +kernel) (by decide +kernel)
theorem hdX0_thatTake : yX0_thatTake.cls ≠ "java/lang/invoke/MethodHandle" ∧ yX0_thatTake.cls ≠ "java/lang/invoke/VarHandle" ∧ (parseMethodDescriptor yX0_thatTake.desc).map (fun d => d.parameters.length) = some 1 := by decide +kernel
theorem kcX3_sizeOf : Cond.code yX3_sizeOf cX3_sizeOf 2 (some .int) ∈ gtbl := kw 402 (by decide +kernel) (by decide +kernel)
theorem hdX3_sizeOf : yX3_sizeOf.cls ≠ "java/lang/invoke/MethodHandle" ∧ yX3_sizeOf.cls ≠ "java/lang/invoke/VarHandle" ∧ (parseMethodDescriptor yX3_sizeOf.desc).map (fun d => d.parameters.length) = some 1 := by decide +kernel
theorem kcX3_sumOf : Cond.code yX3_sumOf cX3_sumOf 5 (some .int) ∈ gtbl := kw 406 (by decide +kernel) (by decide +kernel)
theorem hdX3_sumOf : yX3_sumOf.cls ≠ "java/lang/invoke/MethodHandle" ∧ yX3_sumOf.cls ≠ "java/lang/invoke/VarHandle" ∧ (parseMethodDescriptor yX3_sumOf.desc).map (fun d => d.parameters.length) = some 2 := by decide +kernel
theorem kcX0_withRoomFor : Cond.code yX0_withRoomFor cX0_withRoomFor 2 (some .int) ∈ gtbl := kw 410 (by decide +kernel) (by decide +kernel)
theorem hdX0_withRoomFor : yX0_withRoomFor.cls ≠ "java/lang/invoke/MethodHandle" ∧ yX0_withRoomFor.cls ≠ "java/lang/invoke/VarHandle" ∧ (parseMethodDescriptor yX0_withRoomFor.desc).map (fun d => d.parameters.length) = some 1 := by decide +kernel
theorem kcX0_withAtLeast : Cond.code yX0_withAtLeast cX0_withAtLeast 5 (some .int) ∈ gtbl := kw 414 (by decide +kernel) (by decide +kernel)
theorem hdX0_withAtLeast : yX0_withAtLeast.cls ≠ "java/lang/invoke/MethodHandle" ∧ yX0_withAtLeast.cls ≠ "java/lang/invoke/VarHandle" ∧ (parseMethodDescriptor yX0_withAtLeast.desc).map (fun d => d.parameters.length) = some 2 := by decide +kernel
theorem kcX3_weightOf : Cond.code yX3_weightOf cX3_weightOf 2 (some .int) ∈ gtbl := kw 418 (by decide +kernel) (by decide +kernel)
theorem hdX3_weightOf : yX3_weightOf.cls ≠ "java/lang/invoke/MethodHandle" ∧ yX3_weightOf.cls ≠ "java/lang/invoke/VarHandle" ∧ (parseMethodDescriptor yX3_weightOf.desc).map (fun d => d.parameters.length) = some 1 := by decide +kernel
theorem kcX0_thatBear : Cond.code yX0_thatBear cX0_thatBear 2 (some .int) ∈ gtbl := kw 422 (by decide +kernel) (by decide +kernel)
theorem hdX0_thatBear : yX0_thatBear.cls ≠ "java/lang/invoke/MethodHandle" ∧ yX0_thatBear.cls ≠ "java/lang/invoke/VarHandle" ∧ (parseMethodDescriptor yX0_thatBear.desc).map (fun d => d.parameters.length) = some 1 := by decide +kernel
theorem kcX0_cheapestOf : Cond.code yX0_cheapestOf cX0_cheapestOf 4 (some .int) ∈ gtbl := kw 426 (by decide +kernel) (by decide +kernel)
theorem hdX0_cheapestOf : yX0_cheapestOf.cls ≠ "java/lang/invoke/MethodHandle" ∧ yX0_cheapestOf.cls ≠ "java/lang/invoke/VarHandle" ∧ (parseMethodDescriptor yX0_cheapestOf.desc).map (fun d => d.parameters.length) = some 1 := by decide +kernel
theorem kcX0_costOf : Cond.code yX0_costOf cX0_costOf 2 (some .int) ∈ gtbl := kw 431 (by decide +kernel) (by decide +kernel)
theorem hdX0_costOf : yX0_costOf.cls ≠ "java/lang/invoke/MethodHandle" ∧ yX0_costOf.cls ≠ "java/lang/invoke/VarHandle" ∧ (parseMethodDescriptor yX0_costOf.desc).map (fun d => d.parameters.length) = some 1 := by decide +kernel
theorem kcX0_has : Cond.code yX0_has cX0_has 2 (some .boolean) ∈ gtbl := kw 435 (by decide +kernel) (by decide +kernel)
theorem hdX0_has : yX0_has.cls ≠ "java/lang/invoke/MethodHandle" ∧ yX0_has.cls ≠ "java/lang/invoke/VarHandle" ∧ (parseMethodDescriptor yX0_has.desc).map (fun d => d.parameters.length) = some 1 := by decide +kernel
theorem kcX2_offer : Cond.code yX2_offer cX2_offer 4 none ∈ gtbl := kw 440 (by decide +kernel) (by decide +kernel)
theorem hdX2_offer : yX2_offer.cls ≠ "java/lang/invoke/MethodHandle" ∧ yX2_offer.cls ≠ "java/lang/invoke/VarHandle" ∧ (parseMethodDescriptor yX2_offer.desc).map (fun d => d.parameters.length) = some 3 := by decide +kernel
theorem kcX2_putBest : Cond.code yX2_putBest cX2_putBest 6 (some .boolean) ∈ gtbl := kw 444 (by decide +kernel) (by decide +kernel)
theorem hdX2_putBest : yX2_putBest.cls ≠ "java/lang/invoke/MethodHandle" ∧ yX2_putBest.cls ≠ "java/lang/invoke/VarHandle" ∧ (parseMethodDescriptor yX2_putBest.desc).map (fun d => d.parameters.length) = some 2 := by decide +kernel
theorem kcX2_findBest : Cond.code yX2_findBest cX2_findBest 4 none ∈ gtbl := kw 448 (by decide +kernel) (by decide +kernel)
theorem hdX2_findBest : yX2_findBest.cls ≠ "java/lang/invoke/MethodHandle" ∧ yX2_findBest.cls ≠ "java/lang/invoke/VarHandle" ∧ (parseMethodDescriptor yX2_findBest.desc).map (fun d => d.parameters.length) = some 1 := by decide +kernel
theorem kcX2_tryFirst : Cond.code yX2_tryFirst cX2_tryFirst 6 none ∈ gtbl := kw 452 (by decide +kernel) (by decide +kernel)
theorem hdX2_tryFirst : yX2_tryFirst.cls ≠ "java/lang/invoke/MethodHandle" ∧ yX2_tryFirst.cls ≠ "java/lang/invoke/VarHandle" ∧ (parseMethodDescriptor yX2_tryFirst.desc).map (fun d => d.parameters.length) = some 2 := by decide +kernel
theorem kcX2_isBetter : Cond.code yX2_isBetter cX2_isBetter 7 (some .boolean) ∈ gtbl := kw 456 (by decide +kernel) (by decide +kernel)
theorem hdX2_isBetter : yX2_isBetter.cls ≠ "java/lang/invoke/MethodHandle" ∧ yX2_isBetter.cls ≠ "java/lang/invoke/VarHandle" ∧ (parseMethodDescriptor yX2_isBetter.desc).map (fun d => d.parameters.length) = some 4 := by decide +kernel
theorem kcX1_append : Cond.code yX1_append cX1_append 4 none ∈ gtbl := kw 460 (by decide +kernel) (by decide +kernel)
theorem hdX1_append : yX1_append.cls ≠ "java/lang/invoke/MethodHandle" ∧ yX1_append.cls ≠ "java/lang/invoke/VarHandle" ∧ (parseMethodDescriptor yX1_append.desc).map (fun d => d.parameters.length) = some 3 := by decide +kernel
theorem kcX4_putByRule : Cond.code yX4_putByRule cX4_putByRule 4 (some .boolean) ∈ gtbl := kw 464 (by decide +kernel) (by decide +kernel)
theorem hdX4_putByRule : yX4_putByRule.cls ≠ "java/lang/invoke/MethodHandle" ∧ yX4_putByRule.cls ≠ "java/lang/invoke/VarHandle" ∧ (parseMethodDescriptor yX4_putByRule.desc).map (fun d => d.parameters.length) = some 0 := by decide +kernel
theorem kcX3_companyOf : Cond.code yX3_companyOf cX3_companyOf 5 (some .int) ∈ gtbl := kw 469 (by decide +kernel) (by decide +kernel)
theorem hdX3_companyOf : yX3_companyOf.cls ≠ "java/lang/invoke/MethodHandle" ∧ yX3_companyOf.cls ≠ "java/lang/invoke/VarHandle" ∧ (parseMethodDescriptor yX3_companyOf.desc).map (fun d => d.parameters.length) = some 1 := by decide +kernel
theorem kcX4_putCompany : Cond.code yX4_putCompany cX4_putCompany 4 (some .boolean) ∈ gtbl := kw 473 (by decide +kernel) (by decide +kernel)
theorem hdX4_putCompany : yX4_putCompany.cls ≠ "java/lang/invoke/MethodHandle" ∧ yX4_putCompany.cls ≠ "java/lang/invoke/VarHandle" ∧ (parseMethodDescriptor yX4_putCompany.desc).map (fun d => d.parameters.length) = some 1 := by decide +kernel
theorem kcX1_setAt : Cond.code yX1_setAt cX1_setAt 2 (some .int) ∈ gtbl := kw 477 (by decide +kernel) (by decide +kernel)
theorem hdX1_setAt : yX1_setAt.cls ≠ "java/lang/invoke/MethodHandle" ∧ yX1_setAt.cls ≠ "java/lang/invoke/VarHandle" ∧ (parseMethodDescriptor yX1_setAt.desc).map (fun d => d.parameters.length) = some 1 := by decide +kernel
theorem kcX1_has : Cond.code yX1_has cX1_has 2 (some .boolean) ∈ gtbl := kw 481 (by decide +kernel) (by decide +kernel)
theorem hdX1_has : yX1_has.cls ≠ "java/lang/invoke/MethodHandle" ∧ yX1_has.cls ≠ "java/lang/invoke/VarHandle" ∧ (parseMethodDescriptor yX1_has.desc).map (fun d => d.parameters.length) = some 1 := by decide +kernel
theorem kcX1_boxAt : Cond.code yX1_boxAt cX1_boxAt 2 (some .int) ∈ gtbl := kw 485 (by decide +kernel) (by decide +kernel)
theorem hdX1_boxAt : yX1_boxAt.cls ≠ "java/lang/invoke/MethodHandle" ∧ yX1_boxAt.cls ≠ "java/lang/invoke/VarHandle" ∧ (parseMethodDescriptor yX1_boxAt.desc).map (fun d => d.parameters.length) = some 1 := by decide +kernel
theorem kcX1_replaceSet : Cond.code yX1_replaceSet cX1_replaceSet 3 none ∈ gtbl := kw 489 (by decide +kernel) (by decide +kernel)
theorem hdX1_replaceSet : yX1_replaceSet.cls ≠ "java/lang/invoke/MethodHandle" ∧ yX1_replaceSet.cls ≠ "java/lang/invoke/VarHandle" ∧ (parseMethodDescriptor yX1_replaceSet.desc).map (fun d => d.parameters.length) = some 2 := by decide +kernel
theorem kcX1_finish : Cond.code yX1_finish cX1_finish 2 none ∈ gtbl := kw 494 (by decide +kernel) (by decide +kernel)
theorem hdX1_finish : yX1_finish.cls ≠ "java/lang/invoke/MethodHandle" ∧ yX1_finish.cls ≠ "java/lang/invoke/VarHandle" ∧ (parseMethodDescriptor yX1_finish.desc).map (fun d => d.parameters.length) = some 1 := by decide +kernel
theorem kcL_chosen : Cond.codeWith yL_chosen cL_chosen 5 (some .int) [(0, 10, 13, 24), (0, 10, 17, 13)] ∈ gtbl := kw 497 (by decide +kernel) (by decide +kernel)
theorem hdL_chosen : yL_chosen.cls ≠ "java/lang/invoke/MethodHandle" ∧ yL_chosen.cls ≠ "java/lang/invoke/VarHandle" ∧ (parseMethodDescriptor yL_chosen.desc).map (fun d => d.parameters.length) = some 4 := by decide +kernel
theorem kcX4_chosen : Cond.code yX4_chosen cX4_chosen 3 (some .int) ∈ gtbl := kw 501 (by decide +kernel) (by decide +kernel)
theorem hdX4_chosen : yX4_chosen.cls ≠ "java/lang/invoke/MethodHandle" ∧ yX4_chosen.cls ≠ "java/lang/invoke/VarHandle" ∧ (parseMethodDescriptor yX4_chosen.desc).map (fun d => d.parameters.length) = some 2 := by decide +kernel
theorem kcL_where : Cond.codeWith yL_where cL_where 4 (some .int) [(0, 9, 12, 24)] ∈ gtbl := kw 507 (by decide +kernel) (by decide +kernel)
theorem hdL_where : yL_where.cls ≠ "java/lang/invoke/MethodHandle" ∧ yL_where.cls ≠ "java/lang/invoke/VarHandle" ∧ (parseMethodDescriptor yL_where.desc).map (fun d => d.parameters.length) = some 3 := by decide +kernel
theorem kcX4_where : Cond.code yX4_where cX4_where 2 (some .int) ∈ gtbl := kw 511 (by decide +kernel) (by decide +kernel)
theorem hdX4_where : yX4_where.cls ≠ "java/lang/invoke/MethodHandle" ∧ yX4_where.cls ≠ "java/lang/invoke/VarHandle" ∧ (parseMethodDescriptor yX4_where.desc).map (fun d => d.parameters.length) = some 1 := by decide +kernel
theorem kcX1_holderOf : Cond.code yX1_holderOf cX1_holderOf 3 (some .int) ∈ gtbl := kw 515 (by decide +kernel) (by decide +kernel)
theorem hdX1_holderOf : yX1_holderOf.cls ≠ "java/lang/invoke/MethodHandle" ∧ yX1_holderOf.cls ≠ "java/lang/invoke/VarHandle" ∧ (parseMethodDescriptor yX1_holderOf.desc).map (fun d => d.parameters.length) = some 1 := by decide +kernel
theorem kcL_bar : Cond.codeWith yL_bar cL_bar 4 (some .int) [(0, 9, 12, 24)] ∈ gtbl := kw 519 (by decide +kernel) (by decide +kernel)
theorem hdL_bar : yL_bar.cls ≠ "java/lang/invoke/MethodHandle" ∧ yL_bar.cls ≠ "java/lang/invoke/VarHandle" ∧ (parseMethodDescriptor yL_bar.desc).map (fun d => d.parameters.length) = some 3 := by decide +kernel
theorem kcX4_bar : Cond.code yX4_bar cX4_bar 4 (some .int) ∈ gtbl := kw 523 (by decide +kernel) (by decide +kernel)
theorem hdX4_bar : yX4_bar.cls ≠ "java/lang/invoke/MethodHandle" ∧ yX4_bar.cls ≠ "java/lang/invoke/VarHandle" ∧ (parseMethodDescriptor yX4_bar.desc).map (fun d => d.parameters.length) = some 1 := by decide +kernel
theorem kcL_fits : Cond.codeWith yL_fits cL_fits 5 (some .int) [(0, 17, 20, 24)] ∈ gtbl := kw 526 (by decide +kernel) (by decide +kernel)
theorem hdL_fits : yL_fits.cls ≠ "java/lang/invoke/MethodHandle" ∧ yL_fits.cls ≠ "java/lang/invoke/VarHandle" ∧ (parseMethodDescriptor yL_fits.desc).map (fun d => d.parameters.length) = some 4 := by decide +kernel
theorem kcX4_fits : Cond.code yX4_fits cX4_fits 3 (some .boolean) ∈ gtbl := kw 530 (by decide +kernel) (by decide +kernel)
theorem hdX4_fits : yX4_fits.cls ≠ "java/lang/invoke/MethodHandle" ∧ yX4_fits.cls ≠ "java/lang/invoke/VarHandle" ∧ (parseMethodDescriptor yX4_fits.desc).map (fun d => d.parameters.length) = some 2 := by decide +kernel
theorem kcX4_needBox : Cond.code yX4_needBox cX4_needBox 2 none ∈ gtbl := kw 534 (by decide +kernel) (by decide +kernel)
theorem hdX4_needBox : yX4_needBox.cls ≠ "java/lang/invoke/MethodHandle" ∧ yX4_needBox.cls ≠ "java/lang/invoke/VarHandle" ∧ (parseMethodDescriptor yX4_needBox.desc).map (fun d => d.parameters.length) = some 1 := by decide +kernel
theorem kcL_used : Cond.codeWith yL_used cL_used 4 (some .int) [(0, 9, 12, 13), (0, 9, 15, 54), (0, 9, 18, 56)] ∈ gtbl := kw 539 (by decide +kernel) (by decide +kernel)
theorem hdL_used : yL_used.cls ≠ "java/lang/invoke/MethodHandle" ∧ yL_used.cls ≠ "java/lang/invoke/VarHandle" ∧ (parseMethodDescriptor yL_used.desc).map (fun d => d.parameters.length) = some 3 := by decide +kernel
theorem kcX4_used : Cond.code yX4_used cX4_used 5 (some .int) ∈ gtbl := kw 545 (by decide +kernel) (by decide +kernel)
theorem hdX4_used : yX4_used.cls ≠ "java/lang/invoke/MethodHandle" ∧ yX4_used.cls ≠ "java/lang/invoke/VarHandle" ∧ (parseMethodDescriptor yX4_used.desc).map (fun d => d.parameters.length) = some 1 := by decide +kernel
theorem kcX0_roomOf : Cond.code yX0_roomOf cX0_roomOf 2 (some .int) ∈ gtbl := kw 565 (by decide +kernel) (by decide +kernel)
theorem hdX0_roomOf : yX0_roomOf.cls ≠ "java/lang/invoke/MethodHandle" ∧ yX0_roomOf.cls ≠ "java/lang/invoke/VarHandle" ∧ (parseMethodDescriptor yX0_roomOf.desc).map (fun d => d.parameters.length) = some 1 := by decide +kernel
theorem kcX4_commonDivisor : Cond.code yX4_commonDivisor cX4_commonDivisor 6 (some .int) ∈ gtbl := kw 568 (by decide +kernel) (by decide +kernel)
theorem hdX4_commonDivisor : yX4_commonDivisor.cls ≠ "java/lang/invoke/MethodHandle" ∧ yX4_commonDivisor.cls ≠ "java/lang/invoke/VarHandle" ∧ (parseMethodDescriptor yX4_commonDivisor.desc).map (fun d => d.parameters.length) = some 2 := by decide +kernel
theorem kcL_dimensional : Cond.codeWith yL_dimensional cL_dimensional 5 (some .int) [(0, 10, 13, 24), (0, 10, 17, 13), (0, 10, 21, 56)] ∈ gtbl := kw 587 (by decide +kernel) (by decide +kernel)
theorem hdL_dimensional : yL_dimensional.cls ≠ "java/lang/invoke/MethodHandle" ∧ yL_dimensional.cls ≠ "java/lang/invoke/VarHandle" ∧ (parseMethodDescriptor yL_dimensional.desc).map (fun d => d.parameters.length) = some 4 := by decide +kernel
theorem kcX4_dimensional : Cond.code yX4_dimensional cX4_dimensional 3 (some .int) ∈ gtbl := kw 591 (by decide +kernel) (by decide +kernel)
theorem hdX4_dimensional : yX4_dimensional.cls ≠ "java/lang/invoke/MethodHandle" ∧ yX4_dimensional.cls ≠ "java/lang/invoke/VarHandle" ∧ (parseMethodDescriptor yX4_dimensional.desc).map (fun d => d.parameters.length) = some 2 := by decide +kernel
theorem kcX5_init : Cond.code yX5_init cX5_init 1 none ∈ gtbl := kw 597 (by decide +kernel) (by decide +kernel)
theorem hdX5_init : yX5_init.cls ≠ "java/lang/invoke/MethodHandle" ∧ yX5_init.cls ≠ "java/lang/invoke/VarHandle" ∧ (parseMethodDescriptor yX5_init.desc).map (fun d => d.parameters.length) = some 0 := by decide +kernel
theorem kcX5_thrown : Cond.code yX5_thrown cX5_thrown 1 (some .int) ∈ gtbl := kw 663 (by decide +kernel) (by decide +kernel)
theorem hdX5_thrown : yX5_thrown.cls ≠ "java/lang/invoke/MethodHandle" ∧ yX5_thrown.cls ≠ "java/lang/invoke/VarHandle" ∧ (parseMethodDescriptor yX5_thrown.desc).map (fun d => d.parameters.length) = some 0 := by decide +kernel
theorem kcX5_box : Cond.code yX5_box cX5_box 5 (some .int) ∈ gtbl := kw 667 (by decide +kernel) (by decide +kernel)
theorem hdX5_box : yX5_box.cls ≠ "java/lang/invoke/MethodHandle" ∧ yX5_box.cls ≠ "java/lang/invoke/VarHandle" ∧ (parseMethodDescriptor yX5_box.desc).map (fun d => d.parameters.length) = some 4 := by decide +kernel
theorem kcX5_in : Cond.code yX5_in cX5_in 3 (some .boolean) ∈ gtbl := kw 670 (by decide +kernel) (by decide +kernel)
theorem hdX5_in : yX5_in.cls ≠ "java/lang/invoke/MethodHandle" ∧ yX5_in.cls ≠ "java/lang/invoke/VarHandle" ∧ (parseMethodDescriptor yX5_in.desc).map (fun d => d.parameters.length) = some 3 := by decide +kernel
theorem kcX5_unit : Cond.code yX5_unit cX5_unit 4 (some .int) ∈ gtbl := kw 674 (by decide +kernel) (by decide +kernel)
theorem hdX5_unit : yX5_unit.cls ≠ "java/lang/invoke/MethodHandle" ∧ yX5_unit.cls ≠ "java/lang/invoke/VarHandle" ∧ (parseMethodDescriptor yX5_unit.desc).map (fun d => d.parameters.length) = some 3 := by decide +kernel
theorem kcX5_group : Cond.code yX5_group cX5_group 5 (some .int) ∈ gtbl := kw 678 (by decide +kernel) (by decide +kernel)
theorem hdX5_group : yX5_group.cls ≠ "java/lang/invoke/MethodHandle" ∧ yX5_group.cls ≠ "java/lang/invoke/VarHandle" ∧ (parseMethodDescriptor yX5_group.desc).map (fun d => d.parameters.length) = some 3 := by decide +kernel
theorem kcX5_isUnit : Cond.code yX5_isUnit cX5_isUnit 2 (some .boolean) ∈ gtbl := kw 682 (by decide +kernel) (by decide +kernel)
theorem hdX5_isUnit : yX5_isUnit.cls ≠ "java/lang/invoke/MethodHandle" ∧ yX5_isUnit.cls ≠ "java/lang/invoke/VarHandle" ∧ (parseMethodDescriptor yX5_isUnit.desc).map (fun d => d.parameters.length) = some 1 := by decide +kernel
theorem kcX5_change : Cond.code yX5_change cX5_change 4 (some .int) ∈ gtbl := kw 686 (by decide +kernel) (by decide +kernel)
theorem hdX5_change : yX5_change.cls ≠ "java/lang/invoke/MethodHandle" ∧ yX5_change.cls ≠ "java/lang/invoke/VarHandle" ∧ (parseMethodDescriptor yX5_change.desc).map (fun d => d.parameters.length) = some 2 := by decide +kernel
theorem kcX5_slack : Cond.code yX5_slack cX5_slack 2 none ∈ gtbl := kw 690 (by decide +kernel) (by decide +kernel)
theorem hdX5_slack : yX5_slack.cls ≠ "java/lang/invoke/MethodHandle" ∧ yX5_slack.cls ≠ "java/lang/invoke/VarHandle" ∧ (parseMethodDescriptor yX5_slack.desc).map (fun d => d.parameters.length) = some 1 := by decide +kernel
theorem kcX5_choose : Cond.code yX5_choose cX5_choose 3 (some .int) ∈ gtbl := kw 694 (by decide +kernel) (by decide +kernel)
theorem hdX5_choose : yX5_choose.cls ≠ "java/lang/invoke/MethodHandle" ∧ yX5_choose.cls ≠ "java/lang/invoke/VarHandle" ∧ (parseMethodDescriptor yX5_choose.desc).map (fun d => d.parameters.length) = some 1 := by decide +kernel
theorem kcX5_exactly : Cond.code yX5_exactly cX5_exactly 2 none ∈ gtbl := kw 698 (by decide +kernel) (by decide +kernel)
theorem hdX5_exactly : yX5_exactly.cls ≠ "java/lang/invoke/MethodHandle" ∧ yX5_exactly.cls ≠ "java/lang/invoke/VarHandle" ∧ (parseMethodDescriptor yX5_exactly.desc).map (fun d => d.parameters.length) = some 0 := by decide +kernel
theorem kcX5_isWay : Cond.code yX5_isWay cX5_isWay 2 (some .boolean) ∈ gtbl := kw 702 (by decide +kernel) (by decide +kernel)
theorem hdX5_isWay : yX5_isWay.cls ≠ "java/lang/invoke/MethodHandle" ∧ yX5_isWay.cls ≠ "java/lang/invoke/VarHandle" ∧ (parseMethodDescriptor yX5_isWay.desc).map (fun d => d.parameters.length) = some 0 := by decide +kernel
theorem kcX5_cheapest : Cond.code yX5_cheapest cX5_cheapest 4 (some .int) ∈ gtbl := kw 706 (by decide +kernel) (by decide +kernel)
theorem hdX5_cheapest : yX5_cheapest.cls ≠ "java/lang/invoke/MethodHandle" ∧ yX5_cheapest.cls ≠ "java/lang/invoke/VarHandle" ∧ (parseMethodDescriptor yX5_cheapest.desc).map (fun d => d.parameters.length) = some 1 := by decide +kernel
theorem kcX5_fitsSet : Cond.code yX5_fitsSet cX5_fitsSet 3 (some .boolean) ∈ gtbl := kw 710 (by decide +kernel) (by decide +kernel)
theorem hdX5_fitsSet : yX5_fitsSet.cls ≠ "java/lang/invoke/MethodHandle" ∧ yX5_fitsSet.cls ≠ "java/lang/invoke/VarHandle" ∧ (parseMethodDescriptor yX5_fitsSet.desc).map (fun d => d.parameters.length) = some 2 := by decide +kernel
theorem kcX5_passes : Cond.code yX5_passes cX5_passes 4 (some .boolean) ∈ gtbl := kw 714 (by decide +kernel) (by decide +kernel)
theorem hdX5_passes : yX5_passes.cls ≠ "java/lang/invoke/MethodHandle" ∧ yX5_passes.cls ≠ "java/lang/invoke/VarHandle" ∧ (parseMethodDescriptor yX5_passes.desc).map (fun d => d.parameters.length) = some 3 := by decide +kernel
theorem kcX5_takesKinds : Cond.code yX5_takesKinds cX5_takesKinds 4 (some .boolean) ∈ gtbl := kw 718 (by decide +kernel) (by decide +kernel)
theorem hdX5_takesKinds : yX5_takesKinds.cls ≠ "java/lang/invoke/MethodHandle" ∧ yX5_takesKinds.cls ≠ "java/lang/invoke/VarHandle" ∧ (parseMethodDescriptor yX5_takesKinds.desc).map (fun d => d.parameters.length) = some 2 := by decide +kernel
theorem kcX5_has : Cond.code yX5_has cX5_has 2 (some .boolean) ∈ gtbl := kw 721 (by decide +kernel) (by decide +kernel)
theorem hdX5_has : yX5_has.cls ≠ "java/lang/invoke/MethodHandle" ∧ yX5_has.cls ≠ "java/lang/invoke/VarHandle" ∧ (parseMethodDescriptor yX5_has.desc).map (fun d => d.parameters.length) = some 2 := by decide +kernel
theorem kcX5_sizes : Cond.code yX5_sizes cX5_sizes 4 (some .int) ∈ gtbl := kw 725 (by decide +kernel) (by decide +kernel)
theorem hdX5_sizes : yX5_sizes.cls ≠ "java/lang/invoke/MethodHandle" ∧ yX5_sizes.cls ≠ "java/lang/invoke/VarHandle" ∧ (parseMethodDescriptor yX5_sizes.desc).map (fun d => d.parameters.length) = some 1 := by decide +kernel
theorem kcX5_weights : Cond.code yX5_weights cX5_weights 4 (some .int) ∈ gtbl := kw 729 (by decide +kernel) (by decide +kernel)
theorem hdX5_weights : yX5_weights.cls ≠ "java/lang/invoke/MethodHandle" ∧ yX5_weights.cls ≠ "java/lang/invoke/VarHandle" ∧ (parseMethodDescriptor yX5_weights.desc).map (fun d => d.parameters.length) = some 1 := by decide +kernel
theorem kcX5_hasApart : Cond.code yX5_hasApart cX5_hasApart 4 (some .boolean) ∈ gtbl := kw 733 (by decide +kernel) (by decide +kernel)
theorem hdX5_hasApart : yX5_hasApart.cls ≠ "java/lang/invoke/MethodHandle" ∧ yX5_hasApart.cls ≠ "java/lang/invoke/VarHandle" ∧ (parseMethodDescriptor yX5_hasApart.desc).map (fun d => d.parameters.length) = some 1 := by decide +kernel
theorem kcX5_isWhole : Cond.code yX5_isWhole cX5_isWhole 4 (some .boolean) ∈ gtbl := kw 737 (by decide +kernel) (by decide +kernel)
theorem hdX5_isWhole : yX5_isWhole.cls ≠ "java/lang/invoke/MethodHandle" ∧ yX5_isWhole.cls ≠ "java/lang/invoke/VarHandle" ∧ (parseMethodDescriptor yX5_isWhole.desc).map (fun d => d.parameters.length) = some 1 := by decide +kernel
theorem kcX5_isBetter : Cond.code yX5_isBetter cX5_isBetter 4 (some .boolean) ∈ gtbl := kw 741 (by decide +kernel) (by decide +kernel)
theorem hdX5_isBetter : yX5_isBetter.cls ≠ "java/lang/invoke/MethodHandle" ∧ yX5_isBetter.cls ≠ "java/lang/invoke/VarHandle" ∧ (parseMethodDescriptor yX5_isBetter.desc).map (fun d => d.parameters.length) = some 0 := by decide +kernel
theorem kcX5_costOf : Cond.code yX5_costOf cX5_costOf 5 (some .int) ∈ gtbl := kw 745 (by decide +kernel) (by decide +kernel)
theorem hdX5_costOf : yX5_costOf.cls ≠ "java/lang/invoke/MethodHandle" ∧ yX5_costOf.cls ≠ "java/lang/invoke/VarHandle" ∧ (parseMethodDescriptor yX5_costOf.desc).map (fun d => d.parameters.length) = some 2 := by decide +kernel
theorem kcX5_keep : Cond.code yX5_keep cX5_keep 2 none ∈ gtbl := kw 749 (by decide +kernel) (by decide +kernel)
theorem hdX5_keep : yX5_keep.cls ≠ "java/lang/invoke/MethodHandle" ∧ yX5_keep.cls ≠ "java/lang/invoke/VarHandle" ∧ (parseMethodDescriptor yX5_keep.desc).map (fun d => d.parameters.length) = some 0 := by decide +kernel
theorem kcX5_next : Cond.code yX5_next cX5_next 4 (some .boolean) ∈ gtbl := kw 753 (by decide +kernel) (by decide +kernel)
theorem hdX5_next : yX5_next.cls ≠ "java/lang/invoke/MethodHandle" ∧ yX5_next.cls ≠ "java/lang/invoke/VarHandle" ∧ (parseMethodDescriptor yX5_next.desc).map (fun d => d.parameters.length) = some 0 := by decide +kernel
theorem kcX5_byRule : Cond.code yX5_byRule cX5_byRule 5 none ∈ gtbl := kw 757 (by decide +kernel) (by decide +kernel)
theorem hdX5_byRule : yX5_byRule.cls ≠ "java/lang/invoke/MethodHandle" ∧ yX5_byRule.cls ≠ "java/lang/invoke/VarHandle" ∧ (parseMethodDescriptor yX5_byRule.desc).map (fun d => d.parameters.length) = some 0 := by decide +kernel
theorem kcX5_wholeOf : Cond.code yX5_wholeOf cX5_wholeOf 6 (some .int) ∈ gtbl := kw 761 (by decide +kernel) (by decide +kernel)
theorem hdX5_wholeOf : yX5_wholeOf.cls ≠ "java/lang/invoke/MethodHandle" ∧ yX5_wholeOf.cls ≠ "java/lang/invoke/VarHandle" ∧ (parseMethodDescriptor yX5_wholeOf.desc).map (fun d => d.parameters.length) = some 1 := by decide +kernel
theorem kcX5_exact : Cond.code yX5_exact cX5_exact 1 (some .boolean) ∈ gtbl := kw 765 (by decide +kernel) (by decide +kernel)
theorem hdX5_exact : yX5_exact.cls ≠ "java/lang/invoke/MethodHandle" ∧ yX5_exact.cls ≠ "java/lang/invoke/VarHandle" ∧ (parseMethodDescriptor yX5_exact.desc).map (fun d => d.parameters.length) = some 0 := by decide +kernel
theorem kcX5_boxes : Cond.code yX5_boxes cX5_boxes 1 (some .int) ∈ gtbl := kw 769 (by decide +kernel) (by decide +kernel)
theorem hdX5_boxes : yX5_boxes.cls ≠ "java/lang/invoke/MethodHandle" ∧ yX5_boxes.cls ≠ "java/lang/invoke/VarHandle" ∧ (parseMethodDescriptor yX5_boxes.desc).map (fun d => d.parameters.length) = some 0 := by decide +kernel
theorem kcX5_chosen : Cond.code yX5_chosen cX5_chosen 3 (some .int) ∈ gtbl := kw 773 (by decide +kernel) (by decide +kernel)
theorem hdX5_chosen : yX5_chosen.cls ≠ "java/lang/invoke/MethodHandle" ∧ yX5_chosen.cls ≠ "java/lang/invoke/VarHandle" ∧ (parseMethodDescriptor yX5_chosen.desc).map (fun d => d.parameters.length) = some 2 := by decide +kernel
theorem kcX5_where : Cond.code yX5_where cX5_where 3 (some .int) ∈ gtbl := kw 777 (by decide +kernel) (by decide +kernel)
theorem hdX5_where : yX5_where.cls ≠ "java/lang/invoke/MethodHandle" ∧ yX5_where.cls ≠ "java/lang/invoke/VarHandle" ∧ (parseMethodDescriptor yX5_where.desc).map (fun d => d.parameters.length) = some 1 := by decide +kernel
theorem kcX5_bar : Cond.code yX5_bar cX5_bar 6 (some .int) ∈ gtbl := kw 781 (by decide +kernel) (by decide +kernel)
theorem hdX5_bar : yX5_bar.cls ≠ "java/lang/invoke/MethodHandle" ∧ yX5_bar.cls ≠ "java/lang/invoke/VarHandle" ∧ (parseMethodDescriptor yX5_bar.desc).map (fun d => d.parameters.length) = some 1 := by decide +kernel
theorem kcX5_fits : Cond.code yX5_fits cX5_fits 3 (some .boolean) ∈ gtbl := kw 785 (by decide +kernel) (by decide +kernel)
theorem hdX5_fits : yX5_fits.cls ≠ "java/lang/invoke/MethodHandle" ∧ yX5_fits.cls ≠ "java/lang/invoke/VarHandle" ∧ (parseMethodDescriptor yX5_fits.desc).map (fun d => d.parameters.length) = some 2 := by decide +kernel
theorem kcX5_isBox : Cond.code yX5_isBox cX5_isBox 2 (some .boolean) ∈ gtbl := kw 789 (by decide +kernel) (by decide +kernel)
theorem hdX5_isBox : yX5_isBox.cls ≠ "java/lang/invoke/MethodHandle" ∧ yX5_isBox.cls ≠ "java/lang/invoke/VarHandle" ∧ (parseMethodDescriptor yX5_isBox.desc).map (fun d => d.parameters.length) = some 1 := by decide +kernel
end
section
theorem kcX5_used : Cond.code yX5_used cX5_used 5 (some .int) ∈ gtbl := kw 793 (by decide +kernel) (by decide +kernel)
theorem hdX5_used : yX5_used.cls ≠ "java/lang/invoke/MethodHandle" ∧ yX5_used.cls ≠ "java/lang/invoke/VarHandle" ∧ (parseMethodDescriptor yX5_used.desc).map (fun d => d.parameters.length) = some 1 := by decide +kernel
theorem kcX5_divisor : Cond.code yX5_divisor cX5_divisor 5 (some .int) ∈ gtbl := kw 796 (by decide +kernel) (by decide +kernel)
theorem hdX5_divisor : yX5_divisor.cls ≠ "java/lang/invoke/MethodHandle" ∧ yX5_divisor.cls ≠ "java/lang/invoke/VarHandle" ∧ (parseMethodDescriptor yX5_divisor.desc).map (fun d => d.parameters.length) = some 2 := by decide +kernel
theorem kcX5_dimensional : Cond.code yX5_dimensional cX5_dimensional 3 (some .int) ∈ gtbl := kw 800 (by decide +kernel) (by decide +kernel)
theorem hdX5_dimensional : yX5_dimensional.cls ≠ "java/lang/invoke/MethodHandle" ∧ yX5_dimensional.cls ≠ "java/lang/invoke/VarHandle" ∧ (parseMethodDescriptor yX5_dimensional.desc).map (fun d => d.parameters.length) = some 2 := by decide +kernel
theorem kcX5_count : Cond.code yX5_count cX5_count 5 (some .int) ∈ gtbl := kw 804 (by decide +kernel) (by decide +kernel)
theorem hdX5_count : yX5_count.cls ≠ "java/lang/invoke/MethodHandle" ∧ yX5_count.cls ≠ "java/lang/invoke/VarHandle" ∧ (parseMethodDescriptor yX5_count.desc).map (fun d => d.parameters.length) = some 1 := by decide +kernel
theorem ksX4_needUnit : Cond.selects RX4 yX4_needUnit yX4_needUnit ∈ gtbl := kwp 1 (by decide +kernel) (by decide +kernel)
theorem ksX3_relateOneWay : Cond.selects RX3 yX3_relateOneWay yX3_relateOneWay ∈ gtbl := kwp 2 (by decide +kernel) (by decide +kernel)
theorem ksX4_putExactly : Cond.selects RX4 yX4_putExactly yX4_putExactly ∈ gtbl := kwp 3 (by decide +kernel) (by decide +kernel)
theorem ksX4_boxesFor : Cond.selects RX4 yX4_boxesFor yX4_boxesFor ∈ gtbl := kwp 4 (by decide +kernel) (by decide +kernel)
theorem ksX4_boxesThatCarry : Cond.selects RX4 yX4_boxesThatCarry yX4_boxesThatCarry ∈ gtbl := kwp 5 (by decide +kernel) (by decide +kernel)
theorem ksX3_sumOf : Cond.selects RX3 yX3_sumOf yX3_sumOf ∈ gtbl := kwp 6 (by decide +kernel) (by decide +kernel)
theorem ksX0_withAtLeast : Cond.selects RX0 yX0_withAtLeast yX0_withAtLeast ∈ gtbl := kwp 7 (by decide +kernel) (by decide +kernel)
theorem ksX2_findBest : Cond.selects RX2 yX2_findBest yX2_findBest ∈ gtbl := kwp 8 (by decide +kernel) (by decide +kernel)
theorem ksX2_tryFirst : Cond.selects RX2 yX2_tryFirst yX2_tryFirst ∈ gtbl := kwp 9 (by decide +kernel) (by decide +kernel)
theorem ksX2_isBetter : Cond.selects RX2 yX2_isBetter yX2_isBetter ∈ gtbl := kwp 10 (by decide +kernel) (by decide +kernel)
theorem ksX4_putByRule : Cond.selects RX4 yX4_putByRule yX4_putByRule ∈ gtbl := kwp 11 (by decide +kernel) (by decide +kernel)
theorem ksX4_putCompany : Cond.selects RX4 yX4_putCompany yX4_putCompany ∈ gtbl := kwp 12 (by decide +kernel) (by decide +kernel)
theorem ksX4_needBox : Cond.selects RX4 yX4_needBox yX4_needBox ∈ gtbl := kwp 13 (by decide +kernel) (by decide +kernel)
theorem ksX5_isUnit : Cond.selects RX5 yX5_isUnit yX5_isUnit ∈ gtbl := kwp 14 (by decide +kernel) (by decide +kernel)
theorem ksX5_exactly : Cond.selects RX5 yX5_exactly yX5_exactly ∈ gtbl := kwp 15 (by decide +kernel) (by decide +kernel)
theorem ksX5_isWay : Cond.selects RX5 yX5_isWay yX5_isWay ∈ gtbl := kwp 16 (by decide +kernel) (by decide +kernel)
theorem ksX5_cheapest : Cond.selects RX5 yX5_cheapest yX5_cheapest ∈ gtbl := kwp 17 (by decide +kernel) (by decide +kernel)
theorem ksX5_fitsSet : Cond.selects RX5 yX5_fitsSet yX5_fitsSet ∈ gtbl := kwp 18 (by decide +kernel) (by decide +kernel)
theorem ksX5_passes : Cond.selects RX5 yX5_passes yX5_passes ∈ gtbl := kwp 19 (by decide +kernel) (by decide +kernel)
theorem ksX5_takesKinds : Cond.selects RX5 yX5_takesKinds yX5_takesKinds ∈ gtbl := kwp 20 (by decide +kernel) (by decide +kernel)
theorem ksX5_sizes : Cond.selects RX5 yX5_sizes yX5_sizes ∈ gtbl := kwp 21 (by decide +kernel) (by decide +kernel)
theorem ksX5_weights : Cond.selects RX5 yX5_weights yX5_weights ∈ gtbl := kwp 22 (by decide +kernel) (by decide +kernel)
theorem ksX5_hasApart : Cond.selects RX5 yX5_hasApart yX5_hasApart ∈ gtbl := kwp 23 (by decide +kernel) (by decide +kernel)
theorem ksX5_isWhole : Cond.selects RX5 yX5_isWhole yX5_isWhole ∈ gtbl := kwp 24 (by decide +kernel) (by decide +kernel)
theorem ksX5_isBetter : Cond.selects RX5 yX5_isBetter yX5_isBetter ∈ gtbl := kwp 25 (by decide +kernel) (by decide +kernel)
theorem ksX5_costOf : Cond.selects RX5 yX5_costOf yX5_costOf ∈ gtbl := kwp 26 (by decide +kernel) (by decide +kernel)
theorem ksX5_keep : Cond.selects RX5 yX5_keep yX5_keep ∈ gtbl := kwp 27 (by decide +kernel) (by decide +kernel)
theorem ksX5_next : Cond.selects RX5 yX5_next yX5_next ∈ gtbl := kwp 28 (by decide +kernel) (by decide +kernel)
theorem ksX5_byRule : Cond.selects RX5 yX5_byRule yX5_byRule ∈ gtbl := kwp 29 (by decide +kernel) (by decide +kernel)
theorem ksX5_wholeOf : Cond.selects RX5 yX5_wholeOf yX5_wholeOf ∈ gtbl := kwp 30 (by decide +kernel) (by decide +kernel)
theorem ksX5_isBox : Cond.selects RX5 yX5_isBox yX5_isBox ∈ gtbl := kwp 31 (by decide +kernel) (by decide +kernel)
end
section
theorem dX4_init_0 : decode cX4_init 0 = .ok (.aload_n 0, 1) := by decide +kernel
theorem dX4_init_1 : decode cX4_init 1 = .ok (.invokespecial 3, 3) := by decide +kernel
theorem dX4_init_4 : decode cX4_init 4 = .ok (.aload_n 0, 1) := by decide +kernel
theorem dX4_init_5 : decode cX4_init 5 = .ok (.new 9, 3) := by decide +kernel
theorem dX4_init_8 : decode cX4_init 8 = .ok (.dup, 1) := by decide +kernel
theorem dX4_init_9 : decode cX4_init 9 = .ok (.invokespecial 11, 3) := by decide +kernel
theorem dX4_init_12 : decode cX4_init 12 = .ok (.putfield 12, 3) := by decide +kernel
theorem dX4_init_15 : decode cX4_init 15 = .ok (.aload_n 0, 1) := by decide +kernel
theorem dX4_init_16 : decode cX4_init 16 = .ok (.new 16, 3) := by decide +kernel
theorem dX4_init_19 : decode cX4_init 19 = .ok (.dup, 1) := by decide +kernel
theorem dX4_init_20 : decode cX4_init 20 = .ok (.invokespecial 18, 3) := by decide +kernel
theorem dX4_init_23 : decode cX4_init 23 = .ok (.putfield 19, 3) := by decide +kernel
theorem dX4_init_26 : decode cX4_init 26 = .ok (.aload_n 0, 1) := by decide +kernel
theorem dX4_init_27 : decode cX4_init 27 = .ok (.new 23, 3) := by decide +kernel
theorem dX4_init_30 : decode cX4_init 30 = .ok (.dup, 1) := by decide +kernel
theorem dX4_init_31 : decode cX4_init 31 = .ok (.invokespecial 25, 3) := by decide +kernel
theorem dX4_init_34 : decode cX4_init 34 = .ok (.putfield 26, 3) := by decide +kernel
theorem dX4_init_37 : decode cX4_init 37 = .ok (.aload_n 0, 1) := by decide +kernel
theorem dX4_init_38 : decode cX4_init 38 = .ok (.new 30, 3) := by decide +kernel
theorem dX4_init_41 : decode cX4_init 41 = .ok (.dup, 1) := by decide +kernel
theorem dX4_init_42 : decode cX4_init 42 = .ok (.invokespecial 32, 3) := by decide +kernel
theorem dX4_init_45 : decode cX4_init 45 = .ok (.putfield 33, 3) := by decide +kernel
theorem dX4_init_48 : decode cX4_init 48 = .ok (.return_, 1) := by decide +kernel
theorem dX0_init_0 : decode cX0_init 0 = .ok (.aload_n 0, 1) := by decide +kernel
theorem dX0_init_1 : decode cX0_init 1 = .ok (.invokespecial 3, 3) := by decide +kernel
theorem dX0_init_4 : decode cX0_init 4 = .ok (.aload_n 0, 1) := by decide +kernel
theorem dX0_init_5 : decode cX0_init 5 = .ok (.bipush 6, 2) := by decide +kernel
theorem dX0_init_7 : decode cX0_init 7 = .ok (.newarray .int, 2) := by decide +kernel
theorem dX0_init_9 : decode cX0_init 9 = .ok (.putfield 9, 3) := by decide +kernel
theorem dX0_init_12 : decode cX0_init 12 = .ok (.aload_n 0, 1) := by decide +kernel
theorem dX0_init_13 : decode cX0_init 13 = .ok (.bipush 6, 2) := by decide +kernel
theorem dX0_init_15 : decode cX0_init 15 = .ok (.newarray .int, 2) := by decide +kernel
theorem dX0_init_17 : decode cX0_init 17 = .ok (.putfield 15, 3) := by decide +kernel
theorem dX0_init_20 : decode cX0_init 20 = .ok (.aload_n 0, 1) := by decide +kernel
theorem dX0_init_21 : decode cX0_init 21 = .ok (.bipush 6, 2) := by decide +kernel
theorem dX0_init_23 : decode cX0_init 23 = .ok (.newarray .int, 2) := by decide +kernel
theorem dX0_init_25 : decode cX0_init 25 = .ok (.putfield 18, 3) := by decide +kernel
theorem dX0_init_28 : decode cX0_init 28 = .ok (.aload_n 0, 1) := by decide +kernel
theorem dX0_init_29 : decode cX0_init 29 = .ok (.bipush 6, 2) := by decide +kernel
theorem dX0_init_31 : decode cX0_init 31 = .ok (.newarray .int, 2) := by decide +kernel
theorem dX0_init_33 : decode cX0_init 33 = .ok (.putfield 21, 3) := by decide +kernel
theorem dX0_init_36 : decode cX0_init 36 = .ok (.return_, 1) := by decide +kernel
theorem dX3_init_0 : decode cX3_init 0 = .ok (.aload_n 0, 1) := by decide +kernel
theorem dX3_init_1 : decode cX3_init 1 = .ok (.invokespecial 3, 3) := by decide +kernel
theorem dX3_init_4 : decode cX3_init 4 = .ok (.aload_n 0, 1) := by decide +kernel
theorem dX3_init_5 : decode cX3_init 5 = .ok (.bipush 8, 2) := by decide +kernel
theorem dX3_init_7 : decode cX3_init 7 = .ok (.newarray .int, 2) := by decide +kernel
theorem dX3_init_9 : decode cX3_init 9 = .ok (.putfield 9, 3) := by decide +kernel
theorem dX3_init_12 : decode cX3_init 12 = .ok (.aload_n 0, 1) := by decide +kernel
theorem dX3_init_13 : decode cX3_init 13 = .ok (.bipush 8, 2) := by decide +kernel
theorem dX3_init_15 : decode cX3_init 15 = .ok (.newarray .int, 2) := by decide +kernel
theorem dX3_init_17 : decode cX3_init 17 = .ok (.putfield 15, 3) := by decide +kernel
theorem dX3_init_20 : decode cX3_init 20 = .ok (.aload_n 0, 1) := by decide +kernel
theorem dX3_init_21 : decode cX3_init 21 = .ok (.bipush 8, 2) := by decide +kernel
theorem dX3_init_23 : decode cX3_init 23 = .ok (.newarray .int, 2) := by decide +kernel
theorem dX3_init_25 : decode cX3_init 25 = .ok (.putfield 18, 3) := by decide +kernel
theorem dX3_init_28 : decode cX3_init 28 = .ok (.aload_n 0, 1) := by decide +kernel
theorem dX3_init_29 : decode cX3_init 29 = .ok (.bipush 8, 2) := by decide +kernel
theorem dX3_init_31 : decode cX3_init 31 = .ok (.newarray .int, 2) := by decide +kernel
theorem dX3_init_33 : decode cX3_init 33 = .ok (.putfield 21, 3) := by decide +kernel
theorem dX3_init_36 : decode cX3_init 36 = .ok (.aload_n 0, 1) := by decide +kernel
theorem dX3_init_37 : decode cX3_init 37 = .ok (.bipush 8, 2) := by decide +kernel
theorem dX3_init_39 : decode cX3_init 39 = .ok (.newarray .int, 2) := by decide +kernel
theorem dX3_init_41 : decode cX3_init 41 = .ok (.putfield 24, 3) := by decide +kernel
theorem dX3_init_44 : decode cX3_init 44 = .ok (.return_, 1) := by decide +kernel
theorem dX1_init_0 : decode cX1_init 0 = .ok (.aload_n 0, 1) := by decide +kernel
theorem dX1_init_1 : decode cX1_init 1 = .ok (.invokespecial 3, 3) := by decide +kernel
theorem dX1_init_4 : decode cX1_init 4 = .ok (.aload_n 0, 1) := by decide +kernel
theorem dX1_init_5 : decode cX1_init 5 = .ok (.bipush 8, 2) := by decide +kernel
theorem dX1_init_7 : decode cX1_init 7 = .ok (.newarray .int, 2) := by decide +kernel
theorem dX1_init_9 : decode cX1_init 9 = .ok (.putfield 9, 3) := by decide +kernel
theorem dX1_init_12 : decode cX1_init 12 = .ok (.aload_n 0, 1) := by decide +kernel
theorem dX1_init_13 : decode cX1_init 13 = .ok (.bipush 8, 2) := by decide +kernel
theorem dX1_init_15 : decode cX1_init 15 = .ok (.newarray .int, 2) := by decide +kernel
theorem dX1_init_17 : decode cX1_init 17 = .ok (.putfield 15, 3) := by decide +kernel
theorem dX1_init_20 : decode cX1_init 20 = .ok (.return_, 1) := by decide +kernel
theorem dX2_init_0 : decode cX2_init 0 = .ok (.aload_n 0, 1) := by decide +kernel
theorem dX2_init_1 : decode cX2_init 1 = .ok (.invokespecial 3, 3) := by decide +kernel
theorem dX2_init_4 : decode cX2_init 4 = .ok (.aload_n 0, 1) := by decide +kernel
theorem dX2_init_5 : decode cX2_init 5 = .ok (.bipush 64, 2) := by decide +kernel
theorem dX2_init_7 : decode cX2_init 7 = .ok (.newarray .int, 2) := by decide +kernel
theorem dX2_init_9 : decode cX2_init 9 = .ok (.putfield 9, 3) := by decide +kernel
theorem dX2_init_12 : decode cX2_init 12 = .ok (.aload_n 0, 1) := by decide +kernel
theorem dX2_init_13 : decode cX2_init 13 = .ok (.bipush 64, 2) := by decide +kernel
theorem dX2_init_15 : decode cX2_init 15 = .ok (.newarray .int, 2) := by decide +kernel
theorem dX2_init_17 : decode cX2_init 17 = .ok (.putfield 15, 3) := by decide +kernel
theorem dX2_init_20 : decode cX2_init 20 = .ok (.aload_n 0, 1) := by decide +kernel
theorem dX2_init_21 : decode cX2_init 21 = .ok (.bipush 64, 2) := by decide +kernel
theorem dX2_init_23 : decode cX2_init 23 = .ok (.newarray .int, 2) := by decide +kernel
theorem dX2_init_25 : decode cX2_init 25 = .ok (.putfield 18, 3) := by decide +kernel
theorem dX2_init_28 : decode cX2_init 28 = .ok (.aload_n 0, 1) := by decide +kernel
theorem dX2_init_29 : decode cX2_init 29 = .ok (.bipush 64, 2) := by decide +kernel
theorem dX2_init_31 : decode cX2_init 31 = .ok (.newarray .int, 2) := by decide +kernel
theorem dX2_init_33 : decode cX2_init 33 = .ok (.putfield 21, 3) := by decide +kernel
theorem dX2_init_36 : decode cX2_init 36 = .ok (.aload_n 0, 1) := by decide +kernel
theorem dX2_init_37 : decode cX2_init 37 = .ok (.bipush 64, 2) := by decide +kernel
theorem dX2_init_39 : decode cX2_init 39 = .ok (.newarray .int, 2) := by decide +kernel
theorem dX2_init_41 : decode cX2_init 41 = .ok (.putfield 24, 3) := by decide +kernel
theorem dX2_init_44 : decode cX2_init 44 = .ok (.return_, 1) := by decide +kernel
theorem dX4_exact_0 : decode cX4_exact 0 = .ok (.aload_n 0, 1) := by decide +kernel
theorem dX4_exact_1 : decode cX4_exact 1 = .ok (.getfield 26, 3) := by decide +kernel
theorem dX4_exact_4 : decode cX4_exact 4 = .ok (.getfield 104, 3) := by decide +kernel
theorem dX4_exact_7 : decode cX4_exact 7 = .ok (.ifCond .eq 17, 3) := by decide +kernel
theorem dX4_exact_10 : decode cX4_exact 10 = .ok (.aload_n 0, 1) := by decide +kernel
theorem dX4_exact_11 : decode cX4_exact 11 = .ok (.getfield 26, 3) := by decide +kernel
theorem dX4_exact_14 : decode cX4_exact 14 = .ok (.getfield 108, 3) := by decide +kernel
theorem dX4_exact_17 : decode cX4_exact 17 = .ok (.ifCond .eq 7, 3) := by decide +kernel
theorem dX4_exact_20 : decode cX4_exact 20 = .ok (.iconst 1, 1) := by decide +kernel
theorem dX4_exact_21 : decode cX4_exact 21 = .ok (.goto 4, 3) := by decide +kernel
theorem dX4_exact_24 : decode cX4_exact 24 = .ok (.iconst 0, 1) := by decide +kernel
theorem dX4_exact_25 : decode cX4_exact 25 = .ok (.ireturn, 1) := by decide +kernel
theorem dX4_boxes_0 : decode cX4_boxes 0 = .ok (.aload_n 0, 1) := by decide +kernel
theorem dX4_boxes_1 : decode cX4_boxes 1 = .ok (.getfield 26, 3) := by decide +kernel
theorem dX4_boxes_4 : decode cX4_boxes 4 = .ok (.getfield 104, 3) := by decide +kernel
theorem dX4_boxes_7 : decode cX4_boxes 7 = .ok (.ifCond .eq 13, 3) := by decide +kernel
theorem dX4_boxes_10 : decode cX4_boxes 10 = .ok (.aload_n 0, 1) := by decide +kernel
theorem dX4_boxes_11 : decode cX4_boxes 11 = .ok (.getfield 26, 3) := by decide +kernel
theorem dX4_boxes_14 : decode cX4_boxes 14 = .ok (.getfield 111, 3) := by decide +kernel
theorem dX4_boxes_17 : decode cX4_boxes 17 = .ok (.goto 4, 3) := by decide +kernel
theorem dX4_boxes_20 : decode cX4_boxes 20 = .ok (.iconst (-1), 1) := by decide +kernel
theorem dX4_boxes_21 : decode cX4_boxes 21 = .ok (.ireturn, 1) := by decide +kernel
theorem dX4_count_0 : decode cX4_count 0 = .ok (.iload_n 1, 1) := by decide +kernel
theorem dX4_count_1 : decode cX4_count 1 = .ok (.tableswitch 91 0 4 #[35, 43, 51, 60, 69], 35) := by decide +kernel
theorem dX4_count_36 : decode cX4_count 36 = .ok (.aload_n 0, 1) := by decide +kernel
theorem dX4_count_37 : decode cX4_count 37 = .ok (.getfield 12, 3) := by decide +kernel
theorem dX4_count_40 : decode cX4_count 40 = .ok (.getfield 185, 3) := by decide +kernel
theorem dX4_count_43 : decode cX4_count 43 = .ok (.ireturn, 1) := by decide +kernel
theorem dX4_count_44 : decode cX4_count 44 = .ok (.aload_n 0, 1) := by decide +kernel
theorem dX4_count_45 : decode cX4_count 45 = .ok (.getfield 19, 3) := by decide +kernel
theorem dX4_count_48 : decode cX4_count 48 = .ok (.getfield 84, 3) := by decide +kernel
theorem dX4_count_51 : decode cX4_count 51 = .ok (.ireturn, 1) := by decide +kernel
theorem dX4_count_52 : decode cX4_count 52 = .ok (.aload_n 0, 1) := by decide +kernel
theorem dX4_count_53 : decode cX4_count 53 = .ok (.getfield 19, 3) := by decide +kernel
theorem dX4_count_56 : decode cX4_count 56 = .ok (.iconst 1, 1) := by decide +kernel
theorem dX4_count_57 : decode cX4_count 57 = .ok (.invokevirtual 186, 3) := by decide +kernel
theorem dX4_count_60 : decode cX4_count 60 = .ok (.ireturn, 1) := by decide +kernel
theorem dX4_count_61 : decode cX4_count 61 = .ok (.aload_n 0, 1) := by decide +kernel
theorem dX4_count_62 : decode cX4_count 62 = .ok (.getfield 19, 3) := by decide +kernel
theorem dX4_count_65 : decode cX4_count 65 = .ok (.iconst 2, 1) := by decide +kernel
theorem dX4_count_66 : decode cX4_count 66 = .ok (.invokevirtual 186, 3) := by decide +kernel
theorem dX4_count_69 : decode cX4_count 69 = .ok (.ireturn, 1) := by decide +kernel
theorem dX4_count_70 : decode cX4_count 70 = .ok (.aload_n 0, 1) := by decide +kernel
theorem dX4_count_71 : decode cX4_count 71 = .ok (.getfield 26, 3) := by decide +kernel
theorem dX4_count_74 : decode cX4_count 74 = .ok (.getfield 104, 3) := by decide +kernel
theorem dX4_count_77 : decode cX4_count 77 = .ok (.ifCond .eq 13, 3) := by decide +kernel
theorem dX4_count_80 : decode cX4_count 80 = .ok (.aload_n 0, 1) := by decide +kernel
theorem dX4_count_81 : decode cX4_count 81 = .ok (.getfield 26, 3) := by decide +kernel
theorem dX4_count_84 : decode cX4_count 84 = .ok (.getfield 101, 3) := by decide +kernel
theorem dX4_count_87 : decode cX4_count 87 = .ok (.goto 4, 3) := by decide +kernel
theorem dX4_count_90 : decode cX4_count 90 = .ok (.iconst (-1), 1) := by decide +kernel
theorem dX4_count_91 : decode cX4_count 91 = .ok (.ireturn, 1) := by decide +kernel
theorem dX4_count_92 : decode cX4_count 92 = .ok (.iconst (-1), 1) := by decide +kernel
theorem dX4_count_93 : decode cX4_count 93 = .ok (.ireturn, 1) := by decide +kernel
theorem dX3_pairsOf_0 : decode cX3_pairsOf 0 = .ok (.iconst 0, 1) := by decide +kernel
theorem dX3_pairsOf_1 : decode cX3_pairsOf 1 = .ok (.istore_n 2, 1) := by decide +kernel
theorem dX3_pairsOf_2 : decode cX3_pairsOf 2 = .ok (.iconst 0, 1) := by decide +kernel
theorem dX3_pairsOf_3 : decode cX3_pairsOf 3 = .ok (.istore_n 3, 1) := by decide +kernel
theorem dX3_pairsOf_4 : decode cX3_pairsOf 4 = .ok (.iload_n 3, 1) := by decide +kernel
theorem dX3_pairsOf_5 : decode cX3_pairsOf 5 = .ok (.aload_n 0, 1) := by decide +kernel
theorem dX3_pairsOf_6 : decode cX3_pairsOf 6 = .ok (.getfield 27, 3) := by decide +kernel
theorem dX3_pairsOf_9 : decode cX3_pairsOf 9 = .ok (.if_icmp .ge 43, 3) := by decide +kernel
theorem dX3_pairsOf_12 : decode cX3_pairsOf 12 = .ok (.iload_n 3, 1) := by decide +kernel
theorem dX3_pairsOf_13 : decode cX3_pairsOf 13 = .ok (.iconst 1, 1) := by decide +kernel
theorem dX3_pairsOf_14 : decode cX3_pairsOf 14 = .ok (.iadd, 1) := by decide +kernel
theorem dX3_pairsOf_15 : decode cX3_pairsOf 15 = .ok (.istore 4, 2) := by decide +kernel
theorem dX3_pairsOf_17 : decode cX3_pairsOf 17 = .ok (.iload 4, 2) := by decide +kernel
theorem dX3_pairsOf_19 : decode cX3_pairsOf 19 = .ok (.aload_n 0, 1) := by decide +kernel
theorem dX3_pairsOf_20 : decode cX3_pairsOf 20 = .ok (.getfield 27, 3) := by decide +kernel
theorem dX3_pairsOf_23 : decode cX3_pairsOf 23 = .ok (.if_icmp .ge 23, 3) := by decide +kernel
theorem dX3_pairsOf_26 : decode cX3_pairsOf 26 = .ok (.aload_n 0, 1) := by decide +kernel
theorem dX3_pairsOf_27 : decode cX3_pairsOf 27 = .ok (.iload_n 3, 1) := by decide +kernel
theorem dX3_pairsOf_28 : decode cX3_pairsOf 28 = .ok (.iload 4, 2) := by decide +kernel
theorem dX3_pairsOf_30 : decode cX3_pairsOf 30 = .ok (.invokevirtual 47, 3) := by decide +kernel
theorem dX3_pairsOf_33 : decode cX3_pairsOf 33 = .ok (.iload_n 1, 1) := by decide +kernel
theorem dX3_pairsOf_34 : decode cX3_pairsOf 34 = .ok (.if_icmp .ne 6, 3) := by decide +kernel
theorem dX3_pairsOf_37 : decode cX3_pairsOf 37 = .ok (.iinc 2 1, 3) := by decide +kernel
theorem dX3_pairsOf_40 : decode cX3_pairsOf 40 = .ok (.iinc 4 1, 3) := by decide +kernel
theorem dX3_pairsOf_43 : decode cX3_pairsOf 43 = .ok (.goto (-26), 3) := by decide +kernel
theorem dX3_pairsOf_46 : decode cX3_pairsOf 46 = .ok (.iinc 3 1, 3) := by decide +kernel
theorem dX3_pairsOf_49 : decode cX3_pairsOf 49 = .ok (.goto (-45), 3) := by decide +kernel
theorem dX3_pairsOf_52 : decode cX3_pairsOf 52 = .ok (.iload_n 2, 1) := by decide +kernel
theorem dX3_pairsOf_53 : decode cX3_pairsOf 53 = .ok (.ireturn, 1) := by decide +kernel
theorem dX3_relationOf_0 : decode cX3_relationOf 0 = .ok (.aload_n 0, 1) := by decide +kernel
theorem dX3_relationOf_1 : decode cX3_relationOf 1 = .ok (.iload_n 1, 1) := by decide +kernel
theorem dX3_relationOf_2 : decode cX3_relationOf 2 = .ok (.invokevirtual 35, 3) := by decide +kernel
theorem dX3_relationOf_5 : decode cX3_relationOf 5 = .ok (.ifCond .eq 11, 3) := by decide +kernel
theorem dX3_relationOf_8 : decode cX3_relationOf 8 = .ok (.aload_n 0, 1) := by decide +kernel
theorem dX3_relationOf_9 : decode cX3_relationOf 9 = .ok (.iload_n 2, 1) := by decide +kernel
theorem dX3_relationOf_10 : decode cX3_relationOf 10 = .ok (.invokevirtual 35, 3) := by decide +kernel
theorem dX3_relationOf_13 : decode cX3_relationOf 13 = .ok (.ifCond .ne 5, 3) := by decide +kernel
theorem dX3_relationOf_16 : decode cX3_relationOf 16 = .ok (.iconst 0, 1) := by decide +kernel
theorem dX3_relationOf_17 : decode cX3_relationOf 17 = .ok (.ireturn, 1) := by decide +kernel
theorem dX3_relationOf_18 : decode cX3_relationOf 18 = .ok (.aload_n 0, 1) := by decide +kernel
theorem dX3_relationOf_19 : decode cX3_relationOf 19 = .ok (.getfield 21, 3) := by decide +kernel
theorem dX3_relationOf_22 : decode cX3_relationOf 22 = .ok (.iload_n 1, 1) := by decide +kernel
theorem dX3_relationOf_23 : decode cX3_relationOf 23 = .ok (.iaload, 1) := by decide +kernel
theorem dX3_relationOf_24 : decode cX3_relationOf 24 = .ok (.iload_n 2, 1) := by decide +kernel
theorem dX3_relationOf_25 : decode cX3_relationOf 25 = .ok (.invokestatic 39, 3) := by decide +kernel
theorem dX3_relationOf_28 : decode cX3_relationOf 28 = .ok (.ifCond .eq 5, 3) := by decide +kernel
theorem dX3_relationOf_31 : decode cX3_relationOf 31 = .ok (.iconst 1, 1) := by decide +kernel
theorem dX3_relationOf_32 : decode cX3_relationOf 32 = .ok (.ireturn, 1) := by decide +kernel
theorem dX3_relationOf_33 : decode cX3_relationOf 33 = .ok (.aload_n 0, 1) := by decide +kernel
theorem dX3_relationOf_34 : decode cX3_relationOf 34 = .ok (.getfield 24, 3) := by decide +kernel
theorem dX3_relationOf_37 : decode cX3_relationOf 37 = .ok (.iload_n 1, 1) := by decide +kernel
theorem dX3_relationOf_38 : decode cX3_relationOf 38 = .ok (.iaload, 1) := by decide +kernel
theorem dX3_relationOf_39 : decode cX3_relationOf 39 = .ok (.iload_n 2, 1) := by decide +kernel
theorem dX3_relationOf_40 : decode cX3_relationOf 40 = .ok (.invokestatic 39, 3) := by decide +kernel
theorem dX3_relationOf_43 : decode cX3_relationOf 43 = .ok (.ifCond .eq 7, 3) := by decide +kernel
theorem dX3_relationOf_46 : decode cX3_relationOf 46 = .ok (.iconst 2, 1) := by decide +kernel
theorem dX3_relationOf_47 : decode cX3_relationOf 47 = .ok (.goto 4, 3) := by decide +kernel
theorem dX3_relationOf_50 : decode cX3_relationOf 50 = .ok (.iconst 0, 1) := by decide +kernel
theorem dX3_relationOf_51 : decode cX3_relationOf 51 = .ok (.ireturn, 1) := by decide +kernel
theorem dX3_has_0 : decode cX3_has 0 = .ok (.iload_n 1, 1) := by decide +kernel
theorem dX3_has_1 : decode cX3_has 1 = .ok (.ifCond .lt 15, 3) := by decide +kernel
theorem dX3_has_4 : decode cX3_has 4 = .ok (.iload_n 1, 1) := by decide +kernel
theorem dX3_has_5 : decode cX3_has 5 = .ok (.aload_n 0, 1) := by decide +kernel
theorem dX3_has_6 : decode cX3_has 6 = .ok (.getfield 27, 3) := by decide +kernel
theorem dX3_has_9 : decode cX3_has 9 = .ok (.if_icmp .ge 7, 3) := by decide +kernel
theorem dX3_has_12 : decode cX3_has 12 = .ok (.iconst 1, 1) := by decide +kernel
theorem dX3_has_13 : decode cX3_has 13 = .ok (.goto 4, 3) := by decide +kernel
theorem dX3_has_16 : decode cX3_has 16 = .ok (.iconst 0, 1) := by decide +kernel
theorem dX3_has_17 : decode cX3_has 17 = .ok (.ireturn, 1) := by decide +kernel
theorem dX4_holds_0 : decode cX4_holds 0 = .ok (.iload_n 0, 1) := by decide +kernel
theorem dX4_holds_1 : decode cX4_holds 1 = .ok (.iload_n 1, 1) := by decide +kernel
theorem dX4_holds_2 : decode cX4_holds 2 = .ok (.ishr, 1) := by decide +kernel
theorem dX4_holds_3 : decode cX4_holds 3 = .ok (.iconst 1, 1) := by decide +kernel
theorem dX4_holds_4 : decode cX4_holds 4 = .ok (.iand, 1) := by decide +kernel
theorem dX4_holds_5 : decode cX4_holds 5 = .ok (.ifCond .eq 7, 3) := by decide +kernel
theorem dX4_holds_8 : decode cX4_holds 8 = .ok (.iconst 1, 1) := by decide +kernel
theorem dX4_holds_9 : decode cX4_holds 9 = .ok (.goto 4, 3) := by decide +kernel
theorem dX4_holds_12 : decode cX4_holds 12 = .ok (.iconst 0, 1) := by decide +kernel
theorem dX4_holds_13 : decode cX4_holds 13 = .ok (.ireturn, 1) := by decide +kernel
theorem dL_box_0 : decode cL_box 0 = .ok (.aload 5, 2) := by decide +kernel
theorem dL_box_2 : decode cL_box 2 = .ok (.iconst 0, 1) := by decide +kernel
theorem dL_box_3 : decode cL_box 3 = .ok (.aload_n 0, 1) := by decide +kernel
theorem dL_box_4 : decode cL_box 4 = .ok (.iload_n 1, 1) := by decide +kernel
theorem dL_box_5 : decode cL_box 5 = .ok (.iload_n 2, 1) := by decide +kernel
theorem dL_box_6 : decode cL_box 6 = .ok (.iload_n 3, 1) := by decide +kernel
theorem dL_box_7 : decode cL_box 7 = .ok (.iload 4, 2) := by decide +kernel
theorem dL_box_9 : decode cL_box 9 = .ok (.invokevirtual 7, 3) := by decide +kernel
theorem dL_box_12 : decode cL_box 12 = .ok (.i2l, 1) := by decide +kernel
theorem dL_box_13 : decode cL_box 13 = .ok (.lastore, 1) := by decide +kernel
theorem dL_box_14 : decode cL_box 14 = .ok (.goto 11, 3) := by decide +kernel
theorem dL_box_17 : decode cL_box 17 = .ok (.astore 6, 2) := by decide +kernel
theorem dL_box_19 : decode cL_box 19 = .ok (.iconst 1, 1) := by decide +kernel
theorem dL_box_20 : decode cL_box 20 = .ok (.ireturn, 1) := by decide +kernel
theorem dL_box_21 : decode cL_box 21 = .ok (.astore 6, 2) := by decide +kernel
theorem dL_box_23 : decode cL_box 23 = .ok (.iconst 2, 1) := by decide +kernel
theorem dL_box_24 : decode cL_box 24 = .ok (.ireturn, 1) := by decide +kernel
theorem dL_box_25 : decode cL_box 25 = .ok (.iconst 0, 1) := by decide +kernel
theorem dL_box_26 : decode cL_box 26 = .ok (.ireturn, 1) := by decide +kernel
theorem dX4_box_0 : decode cX4_box 0 = .ok (.iload_n 1, 1) := by decide +kernel
theorem dX4_box_1 : decode cX4_box 1 = .ok (.iconst 1, 1) := by decide +kernel
theorem dX4_box_2 : decode cX4_box 2 = .ok (.sipush 1000, 3) := by decide +kernel
theorem dX4_box_5 : decode cX4_box 5 = .ok (.invokestatic 37, 3) := by decide +kernel
theorem dX4_box_8 : decode cX4_box 8 = .ok (.iload_n 2, 1) := by decide +kernel
theorem dX4_box_9 : decode cX4_box 9 = .ok (.iconst 1, 1) := by decide +kernel
theorem dX4_box_10 : decode cX4_box 10 = .ok (.sipush 1000, 3) := by decide +kernel
theorem dX4_box_13 : decode cX4_box 13 = .ok (.invokestatic 37, 3) := by decide +kernel
theorem dX4_box_16 : decode cX4_box 16 = .ok (.iload_n 3, 1) := by decide +kernel
theorem dX4_box_17 : decode cX4_box 17 = .ok (.iconst 0, 1) := by decide +kernel
theorem dX4_box_18 : decode cX4_box 18 = .ok (.sipush 1000, 3) := by decide +kernel
theorem dX4_box_21 : decode cX4_box 21 = .ok (.invokestatic 37, 3) := by decide +kernel
theorem dX4_box_24 : decode cX4_box 24 = .ok (.iload 4, 2) := by decide +kernel
theorem dX4_box_26 : decode cX4_box 26 = .ok (.iconst 0, 1) := by decide +kernel
theorem dX4_box_27 : decode cX4_box 27 = .ok (.sipush 255, 3) := by decide +kernel
theorem dX4_box_30 : decode cX4_box 30 = .ok (.invokestatic 37, 3) := by decide +kernel
theorem dX4_box_33 : decode cX4_box 33 = .ok (.aload_n 0, 1) := by decide +kernel
theorem dX4_box_34 : decode cX4_box 34 = .ok (.getfield 12, 3) := by decide +kernel
theorem dX4_box_37 : decode cX4_box 37 = .ok (.invokevirtual 41, 3) := by decide +kernel
theorem dX4_box_40 : decode cX4_box 40 = .ok (.ifCond .eq 13, 3) := by decide +kernel
theorem dX4_box_43 : decode cX4_box 43 = .ok (.new 45, 3) := by decide +kernel
theorem dX4_box_46 : decode cX4_box 46 = .ok (.dup, 1) := by decide +kernel
theorem dX4_box_47 : decode cX4_box 47 = .ok (.ldc 47, 2) := by decide +kernel
theorem dX4_box_49 : decode cX4_box 49 = .ok (.invokespecial 49, 3) := by decide +kernel
theorem dX4_box_52 : decode cX4_box 52 = .ok (.athrow, 1) := by decide +kernel
theorem dX4_box_53 : decode cX4_box 53 = .ok (.aload_n 0, 1) := by decide +kernel
theorem dX4_box_54 : decode cX4_box 54 = .ok (.getfield 12, 3) := by decide +kernel
theorem dX4_box_57 : decode cX4_box 57 = .ok (.iload_n 1, 1) := by decide +kernel
theorem dX4_box_58 : decode cX4_box 58 = .ok (.iload_n 2, 1) := by decide +kernel
theorem dX4_box_59 : decode cX4_box 59 = .ok (.iload_n 3, 1) := by decide +kernel
theorem dX4_box_60 : decode cX4_box 60 = .ok (.iload 4, 2) := by decide +kernel
theorem dX4_box_62 : decode cX4_box 62 = .ok (.invokevirtual 52, 3) := by decide +kernel
theorem dX4_box_65 : decode cX4_box 65 = .ok (.ireturn, 1) := by decide +kernel
theorem dX4_needRange_0 : decode cX4_needRange 0 = .ok (.iload_n 0, 1) := by decide +kernel
theorem dX4_needRange_1 : decode cX4_needRange 1 = .ok (.iload_n 1, 1) := by decide +kernel
theorem dX4_needRange_2 : decode cX4_needRange 2 = .ok (.if_icmp .lt 8, 3) := by decide +kernel
theorem dX4_needRange_5 : decode cX4_needRange 5 = .ok (.iload_n 0, 1) := by decide +kernel
theorem dX4_needRange_6 : decode cX4_needRange 6 = .ok (.iload_n 2, 1) := by decide +kernel
theorem dX4_needRange_7 : decode cX4_needRange 7 = .ok (.if_icmp .le 13, 3) := by decide +kernel
theorem dX4_needRange_10 : decode cX4_needRange 10 = .ok (.new 66, 3) := by decide +kernel
theorem dX4_needRange_13 : decode cX4_needRange 13 = .ok (.dup, 1) := by decide +kernel
theorem dX4_needRange_14 : decode cX4_needRange 14 = .ok (.ldc 195, 2) := by decide +kernel
theorem dX4_needRange_16 : decode cX4_needRange 16 = .ok (.invokespecial 70, 3) := by decide +kernel
theorem dX4_needRange_19 : decode cX4_needRange 19 = .ok (.athrow, 1) := by decide +kernel
theorem dX4_needRange_20 : decode cX4_needRange 20 = .ok (.return_, 1) := by decide +kernel
theorem dX0_isFull_0 : decode cX0_isFull 0 = .ok (.aload_n 0, 1) := by decide +kernel
theorem dX0_isFull_1 : decode cX0_isFull 1 = .ok (.getfield 24, 3) := by decide +kernel
theorem dX0_isFull_4 : decode cX0_isFull 4 = .ok (.bipush 6, 2) := by decide +kernel
theorem dX0_isFull_6 : decode cX0_isFull 6 = .ok (.if_icmp .lt 7, 3) := by decide +kernel
theorem dX0_isFull_9 : decode cX0_isFull 9 = .ok (.iconst 1, 1) := by decide +kernel
theorem dX0_isFull_10 : decode cX0_isFull 10 = .ok (.goto 4, 3) := by decide +kernel
theorem dX0_isFull_13 : decode cX0_isFull 13 = .ok (.iconst 0, 1) := by decide +kernel
theorem dX0_isFull_14 : decode cX0_isFull 14 = .ok (.ireturn, 1) := by decide +kernel
theorem dX0_add_0 : decode cX0_add 0 = .ok (.aload_n 0, 1) := by decide +kernel
theorem dX0_add_1 : decode cX0_add 1 = .ok (.invokevirtual 28, 3) := by decide +kernel
theorem dX0_add_4 : decode cX0_add 4 = .ok (.ifCond .eq 5, 3) := by decide +kernel
theorem dX0_add_7 : decode cX0_add 7 = .ok (.iconst (-1), 1) := by decide +kernel
theorem dX0_add_8 : decode cX0_add 8 = .ok (.ireturn, 1) := by decide +kernel
theorem dX0_add_9 : decode cX0_add 9 = .ok (.aload_n 0, 1) := by decide +kernel
theorem dX0_add_10 : decode cX0_add 10 = .ok (.getfield 24, 3) := by decide +kernel
theorem dX0_add_13 : decode cX0_add 13 = .ok (.istore 5, 2) := by decide +kernel
theorem dX0_add_15 : decode cX0_add 15 = .ok (.aload_n 0, 1) := by decide +kernel
theorem dX0_add_16 : decode cX0_add 16 = .ok (.getfield 9, 3) := by decide +kernel
theorem dX0_add_19 : decode cX0_add 19 = .ok (.iload 5, 2) := by decide +kernel
theorem dX0_add_21 : decode cX0_add 21 = .ok (.iload_n 1, 1) := by decide +kernel
theorem dX0_add_22 : decode cX0_add 22 = .ok (.iastore, 1) := by decide +kernel
theorem dX0_add_23 : decode cX0_add 23 = .ok (.aload_n 0, 1) := by decide +kernel
theorem dX0_add_24 : decode cX0_add 24 = .ok (.getfield 15, 3) := by decide +kernel
theorem dX0_add_27 : decode cX0_add 27 = .ok (.iload 5, 2) := by decide +kernel
theorem dX0_add_29 : decode cX0_add 29 = .ok (.iload_n 2, 1) := by decide +kernel
theorem dX0_add_30 : decode cX0_add 30 = .ok (.iastore, 1) := by decide +kernel
theorem dX0_add_31 : decode cX0_add 31 = .ok (.aload_n 0, 1) := by decide +kernel
theorem dX0_add_32 : decode cX0_add 32 = .ok (.getfield 18, 3) := by decide +kernel
theorem dX0_add_35 : decode cX0_add 35 = .ok (.iload 5, 2) := by decide +kernel
theorem dX0_add_37 : decode cX0_add 37 = .ok (.iload_n 3, 1) := by decide +kernel
theorem dX0_add_38 : decode cX0_add 38 = .ok (.iastore, 1) := by decide +kernel
theorem dX0_add_39 : decode cX0_add 39 = .ok (.aload_n 0, 1) := by decide +kernel
theorem dX0_add_40 : decode cX0_add 40 = .ok (.getfield 21, 3) := by decide +kernel
theorem dX0_add_43 : decode cX0_add 43 = .ok (.iload 5, 2) := by decide +kernel
theorem dX0_add_45 : decode cX0_add 45 = .ok (.iload 4, 2) := by decide +kernel
theorem dX0_add_47 : decode cX0_add 47 = .ok (.iastore, 1) := by decide +kernel
theorem dX0_add_48 : decode cX0_add 48 = .ok (.aload_n 0, 1) := by decide +kernel
theorem dX0_add_49 : decode cX0_add 49 = .ok (.dup, 1) := by decide +kernel
theorem dX0_add_50 : decode cX0_add 50 = .ok (.getfield 24, 3) := by decide +kernel
theorem dX0_add_53 : decode cX0_add 53 = .ok (.iconst 1, 1) := by decide +kernel
theorem dX0_add_54 : decode cX0_add 54 = .ok (.iadd, 1) := by decide +kernel
theorem dX0_add_55 : decode cX0_add 55 = .ok (.putfield 24, 3) := by decide +kernel
theorem dX0_add_58 : decode cX0_add 58 = .ok (.iload 5, 2) := by decide +kernel
theorem dX0_add_60 : decode cX0_add 60 = .ok (.ireturn, 1) := by decide +kernel
theorem dL_unit_0 : decode cL_unit 0 = .ok (.aload 4, 2) := by decide +kernel
theorem dL_unit_2 : decode cL_unit 2 = .ok (.iconst 0, 1) := by decide +kernel
theorem dL_unit_3 : decode cL_unit 3 = .ok (.aload_n 0, 1) := by decide +kernel
theorem dL_unit_4 : decode cL_unit 4 = .ok (.iload_n 1, 1) := by decide +kernel
theorem dL_unit_5 : decode cL_unit 5 = .ok (.iload_n 2, 1) := by decide +kernel
theorem dL_unit_6 : decode cL_unit 6 = .ok (.iload_n 3, 1) := by decide +kernel
theorem dL_unit_7 : decode cL_unit 7 = .ok (.invokevirtual 17, 3) := by decide +kernel
theorem dL_unit_10 : decode cL_unit 10 = .ok (.i2l, 1) := by decide +kernel
theorem dL_unit_11 : decode cL_unit 11 = .ok (.lastore, 1) := by decide +kernel
theorem dL_unit_12 : decode cL_unit 12 = .ok (.goto 11, 3) := by decide +kernel
theorem dL_unit_15 : decode cL_unit 15 = .ok (.astore 5, 2) := by decide +kernel
theorem dL_unit_17 : decode cL_unit 17 = .ok (.iconst 1, 1) := by decide +kernel
theorem dL_unit_18 : decode cL_unit 18 = .ok (.ireturn, 1) := by decide +kernel
theorem dL_unit_19 : decode cL_unit 19 = .ok (.astore 5, 2) := by decide +kernel
theorem dL_unit_21 : decode cL_unit 21 = .ok (.iconst 2, 1) := by decide +kernel
theorem dL_unit_22 : decode cL_unit 22 = .ok (.ireturn, 1) := by decide +kernel
theorem dL_unit_23 : decode cL_unit 23 = .ok (.iconst 0, 1) := by decide +kernel
theorem dL_unit_24 : decode cL_unit 24 = .ok (.ireturn, 1) := by decide +kernel
theorem dX4_unit_0 : decode cX4_unit 0 = .ok (.iload_n 1, 1) := by decide +kernel
theorem dX4_unit_1 : decode cX4_unit 1 = .ok (.iconst 1, 1) := by decide +kernel
theorem dX4_unit_2 : decode cX4_unit 2 = .ok (.sipush 1000, 3) := by decide +kernel
theorem dX4_unit_5 : decode cX4_unit 5 = .ok (.invokestatic 37, 3) := by decide +kernel
theorem dX4_unit_8 : decode cX4_unit 8 = .ok (.iload_n 2, 1) := by decide +kernel
theorem dX4_unit_9 : decode cX4_unit 9 = .ok (.iconst 0, 1) := by decide +kernel
theorem dX4_unit_10 : decode cX4_unit 10 = .ok (.sipush 1000, 3) := by decide +kernel
theorem dX4_unit_13 : decode cX4_unit 13 = .ok (.invokestatic 37, 3) := by decide +kernel
theorem dX4_unit_16 : decode cX4_unit 16 = .ok (.iload_n 3, 1) := by decide +kernel
theorem dX4_unit_17 : decode cX4_unit 17 = .ok (.iconst 0, 1) := by decide +kernel
theorem dX4_unit_18 : decode cX4_unit 18 = .ok (.bipush 7, 2) := by decide +kernel
theorem dX4_unit_20 : decode cX4_unit 20 = .ok (.invokestatic 37, 3) := by decide +kernel
theorem dX4_unit_23 : decode cX4_unit 23 = .ok (.aload_n 0, 1) := by decide +kernel
theorem dX4_unit_24 : decode cX4_unit 24 = .ok (.getfield 19, 3) := by decide +kernel
theorem dX4_unit_27 : decode cX4_unit 27 = .ok (.invokevirtual 56, 3) := by decide +kernel
theorem dX4_unit_30 : decode cX4_unit 30 = .ok (.ifCond .eq 13, 3) := by decide +kernel
theorem dX4_unit_33 : decode cX4_unit 33 = .ok (.new 45, 3) := by decide +kernel
theorem dX4_unit_36 : decode cX4_unit 36 = .ok (.dup, 1) := by decide +kernel
theorem dX4_unit_37 : decode cX4_unit 37 = .ok (.ldc 57, 2) := by decide +kernel
theorem dX4_unit_39 : decode cX4_unit 39 = .ok (.invokespecial 49, 3) := by decide +kernel
theorem dX4_unit_42 : decode cX4_unit 42 = .ok (.athrow, 1) := by decide +kernel
theorem dX4_unit_43 : decode cX4_unit 43 = .ok (.aload_n 0, 1) := by decide +kernel
theorem dX4_unit_44 : decode cX4_unit 44 = .ok (.getfield 19, 3) := by decide +kernel
theorem dX4_unit_47 : decode cX4_unit 47 = .ok (.iload_n 1, 1) := by decide +kernel
theorem dX4_unit_48 : decode cX4_unit 48 = .ok (.iload_n 2, 1) := by decide +kernel
theorem dX4_unit_49 : decode cX4_unit 49 = .ok (.iload_n 3, 1) := by decide +kernel
theorem dX4_unit_50 : decode cX4_unit 50 = .ok (.invokevirtual 59, 3) := by decide +kernel
theorem dX4_unit_53 : decode cX4_unit 53 = .ok (.ireturn, 1) := by decide +kernel
theorem dX3_isFull_0 : decode cX3_isFull 0 = .ok (.aload_n 0, 1) := by decide +kernel
theorem dX3_isFull_1 : decode cX3_isFull 1 = .ok (.getfield 27, 3) := by decide +kernel
theorem dX3_isFull_4 : decode cX3_isFull 4 = .ok (.bipush 8, 2) := by decide +kernel
theorem dX3_isFull_6 : decode cX3_isFull 6 = .ok (.if_icmp .lt 7, 3) := by decide +kernel
theorem dX3_isFull_9 : decode cX3_isFull 9 = .ok (.iconst 1, 1) := by decide +kernel
theorem dX3_isFull_10 : decode cX3_isFull 10 = .ok (.goto 4, 3) := by decide +kernel
theorem dX3_isFull_13 : decode cX3_isFull 13 = .ok (.iconst 0, 1) := by decide +kernel
theorem dX3_isFull_14 : decode cX3_isFull 14 = .ok (.ireturn, 1) := by decide +kernel
theorem dX3_add_0 : decode cX3_add 0 = .ok (.aload_n 0, 1) := by decide +kernel
theorem dX3_add_1 : decode cX3_add 1 = .ok (.invokevirtual 31, 3) := by decide +kernel
theorem dX3_add_4 : decode cX3_add 4 = .ok (.ifCond .eq 5, 3) := by decide +kernel
theorem dX3_add_7 : decode cX3_add 7 = .ok (.iconst (-1), 1) := by decide +kernel
theorem dX3_add_8 : decode cX3_add 8 = .ok (.ireturn, 1) := by decide +kernel
theorem dX3_add_9 : decode cX3_add 9 = .ok (.aload_n 0, 1) := by decide +kernel
theorem dX3_add_10 : decode cX3_add 10 = .ok (.getfield 27, 3) := by decide +kernel
theorem dX3_add_13 : decode cX3_add 13 = .ok (.istore 4, 2) := by decide +kernel
theorem dX3_add_15 : decode cX3_add 15 = .ok (.aload_n 0, 1) := by decide +kernel
theorem dX3_add_16 : decode cX3_add 16 = .ok (.getfield 9, 3) := by decide +kernel
theorem dX3_add_19 : decode cX3_add 19 = .ok (.iload 4, 2) := by decide +kernel
theorem dX3_add_21 : decode cX3_add 21 = .ok (.iload_n 1, 1) := by decide +kernel
theorem dX3_add_22 : decode cX3_add 22 = .ok (.iastore, 1) := by decide +kernel
theorem dX3_add_23 : decode cX3_add 23 = .ok (.aload_n 0, 1) := by decide +kernel
theorem dX3_add_24 : decode cX3_add 24 = .ok (.getfield 15, 3) := by decide +kernel
theorem dX3_add_27 : decode cX3_add 27 = .ok (.iload 4, 2) := by decide +kernel
theorem dX3_add_29 : decode cX3_add 29 = .ok (.iload_n 2, 1) := by decide +kernel
theorem dX3_add_30 : decode cX3_add 30 = .ok (.iastore, 1) := by decide +kernel
theorem dX3_add_31 : decode cX3_add 31 = .ok (.aload_n 0, 1) := by decide +kernel
theorem dX3_add_32 : decode cX3_add 32 = .ok (.getfield 18, 3) := by decide +kernel
theorem dX3_add_35 : decode cX3_add 35 = .ok (.iload 4, 2) := by decide +kernel
theorem dX3_add_37 : decode cX3_add 37 = .ok (.iload_n 3, 1) := by decide +kernel
theorem dX3_add_38 : decode cX3_add 38 = .ok (.iastore, 1) := by decide +kernel
theorem dX3_add_39 : decode cX3_add 39 = .ok (.aload_n 0, 1) := by decide +kernel
theorem dX3_add_40 : decode cX3_add 40 = .ok (.dup, 1) := by decide +kernel
theorem dX3_add_41 : decode cX3_add 41 = .ok (.getfield 27, 3) := by decide +kernel
end
section
theorem dX3_add_44 : decode cX3_add 44 = .ok (.iconst 1, 1) := by decide +kernel
theorem dX3_add_45 : decode cX3_add 45 = .ok (.iadd, 1) := by decide +kernel
theorem dX3_add_46 : decode cX3_add 46 = .ok (.putfield 27, 3) := by decide +kernel
theorem dX3_add_49 : decode cX3_add 49 = .ok (.iload 4, 2) := by decide +kernel
theorem dX3_add_51 : decode cX3_add 51 = .ok (.ireturn, 1) := by decide +kernel
theorem dL_group_0 : decode cL_group 0 = .ok (.aload 4, 2) := by decide +kernel
theorem dL_group_2 : decode cL_group 2 = .ok (.iconst 0, 1) := by decide +kernel
theorem dL_group_3 : decode cL_group 3 = .ok (.aload_n 0, 1) := by decide +kernel
theorem dL_group_4 : decode cL_group 4 = .ok (.iload_n 1, 1) := by decide +kernel
theorem dL_group_5 : decode cL_group 5 = .ok (.iload_n 2, 1) := by decide +kernel
theorem dL_group_6 : decode cL_group 6 = .ok (.iload_n 3, 1) := by decide +kernel
theorem dL_group_7 : decode cL_group 7 = .ok (.invokevirtual 21, 3) := by decide +kernel
theorem dL_group_10 : decode cL_group 10 = .ok (.i2l, 1) := by decide +kernel
theorem dL_group_11 : decode cL_group 11 = .ok (.lastore, 1) := by decide +kernel
theorem dL_group_12 : decode cL_group 12 = .ok (.goto 11, 3) := by decide +kernel
theorem dL_group_15 : decode cL_group 15 = .ok (.astore 5, 2) := by decide +kernel
theorem dL_group_17 : decode cL_group 17 = .ok (.iconst 1, 1) := by decide +kernel
theorem dL_group_18 : decode cL_group 18 = .ok (.ireturn, 1) := by decide +kernel
theorem dL_group_19 : decode cL_group 19 = .ok (.astore 5, 2) := by decide +kernel
theorem dL_group_21 : decode cL_group 21 = .ok (.iconst 2, 1) := by decide +kernel
theorem dL_group_22 : decode cL_group 22 = .ok (.ireturn, 1) := by decide +kernel
theorem dL_group_23 : decode cL_group 23 = .ok (.iconst 0, 1) := by decide +kernel
theorem dL_group_24 : decode cL_group 24 = .ok (.ireturn, 1) := by decide +kernel
theorem dX4_group_0 : decode cX4_group 0 = .ok (.aload_n 0, 1) := by decide +kernel
theorem dX4_group_1 : decode cX4_group 1 = .ok (.iload_n 1, 1) := by decide +kernel
theorem dX4_group_2 : decode cX4_group 2 = .ok (.invokevirtual 62, 3) := by decide +kernel
theorem dX4_group_5 : decode cX4_group 5 = .ok (.aload_n 0, 1) := by decide +kernel
theorem dX4_group_6 : decode cX4_group 6 = .ok (.iload_n 2, 1) := by decide +kernel
theorem dX4_group_7 : decode cX4_group 7 = .ok (.invokevirtual 62, 3) := by decide +kernel
theorem dX4_group_10 : decode cX4_group 10 = .ok (.iload_n 3, 1) := by decide +kernel
theorem dX4_group_11 : decode cX4_group 11 = .ok (.iconst 0, 1) := by decide +kernel
theorem dX4_group_12 : decode cX4_group 12 = .ok (.iconst 2, 1) := by decide +kernel
theorem dX4_group_13 : decode cX4_group 13 = .ok (.invokestatic 37, 3) := by decide +kernel
theorem dX4_group_16 : decode cX4_group 16 = .ok (.iload_n 1, 1) := by decide +kernel
theorem dX4_group_17 : decode cX4_group 17 = .ok (.iload_n 2, 1) := by decide +kernel
theorem dX4_group_18 : decode cX4_group 18 = .ok (.if_icmp .ne 13, 3) := by decide +kernel
theorem dX4_group_21 : decode cX4_group 21 = .ok (.new 66, 3) := by decide +kernel
theorem dX4_group_24 : decode cX4_group 24 = .ok (.dup, 1) := by decide +kernel
theorem dX4_group_25 : decode cX4_group 25 = .ok (.ldc 68, 2) := by decide +kernel
theorem dX4_group_27 : decode cX4_group 27 = .ok (.invokespecial 70, 3) := by decide +kernel
theorem dX4_group_30 : decode cX4_group 30 = .ok (.athrow, 1) := by decide +kernel
theorem dX4_group_31 : decode cX4_group 31 = .ok (.aload_n 0, 1) := by decide +kernel
theorem dX4_group_32 : decode cX4_group 32 = .ok (.getfield 19, 3) := by decide +kernel
theorem dX4_group_35 : decode cX4_group 35 = .ok (.iload_n 1, 1) := by decide +kernel
theorem dX4_group_36 : decode cX4_group 36 = .ok (.iload_n 2, 1) := by decide +kernel
theorem dX4_group_37 : decode cX4_group 37 = .ok (.invokevirtual 71, 3) := by decide +kernel
theorem dX4_group_40 : decode cX4_group 40 = .ok (.istore 4, 2) := by decide +kernel
theorem dX4_group_42 : decode cX4_group 42 = .ok (.aload_n 0, 1) := by decide +kernel
theorem dX4_group_43 : decode cX4_group 43 = .ok (.getfield 19, 3) := by decide +kernel
theorem dX4_group_46 : decode cX4_group 46 = .ok (.iload_n 1, 1) := by decide +kernel
theorem dX4_group_47 : decode cX4_group 47 = .ok (.iload_n 2, 1) := by decide +kernel
theorem dX4_group_48 : decode cX4_group 48 = .ok (.iload_n 3, 1) := by decide +kernel
theorem dX4_group_49 : decode cX4_group 49 = .ok (.invokevirtual 75, 3) := by decide +kernel
theorem dX4_group_52 : decode cX4_group 52 = .ok (.iload 4, 2) := by decide +kernel
theorem dX4_group_54 : decode cX4_group 54 = .ok (.ireturn, 1) := by decide +kernel
theorem dX4_needUnit_0 : decode cX4_needUnit 0 = .ok (.aload_n 0, 1) := by decide +kernel
theorem dX4_needUnit_1 : decode cX4_needUnit 1 = .ok (.getfield 19, 3) := by decide +kernel
theorem dX4_needUnit_4 : decode cX4_needUnit 4 = .ok (.iload_n 1, 1) := by decide +kernel
theorem dX4_needUnit_5 : decode cX4_needUnit 5 = .ok (.invokevirtual 192, 3) := by decide +kernel
theorem dX4_needUnit_8 : decode cX4_needUnit 8 = .ok (.ifCond .ne 13, 3) := by decide +kernel
theorem dX4_needUnit_11 : decode cX4_needUnit 11 = .ok (.new 116, 3) := by decide +kernel
theorem dX4_needUnit_14 : decode cX4_needUnit 14 = .ok (.dup, 1) := by decide +kernel
theorem dX4_needUnit_15 : decode cX4_needUnit 15 = .ok (.ldc 193, 2) := by decide +kernel
theorem dX4_needUnit_17 : decode cX4_needUnit 17 = .ok (.invokespecial 120, 3) := by decide +kernel
theorem dX4_needUnit_20 : decode cX4_needUnit 20 = .ok (.athrow, 1) := by decide +kernel
theorem dX4_needUnit_21 : decode cX4_needUnit 21 = .ok (.return_, 1) := by decide +kernel
theorem dX3_relate_0 : decode cX3_relate 0 = .ok (.aload_n 0, 1) := by decide +kernel
theorem dX3_relate_1 : decode cX3_relate 1 = .ok (.iload_n 1, 1) := by decide +kernel
theorem dX3_relate_2 : decode cX3_relate 2 = .ok (.iload_n 2, 1) := by decide +kernel
theorem dX3_relate_3 : decode cX3_relate 3 = .ok (.iload_n 3, 1) := by decide +kernel
theorem dX3_relate_4 : decode cX3_relate 4 = .ok (.invokevirtual 43, 3) := by decide +kernel
theorem dX3_relate_7 : decode cX3_relate 7 = .ok (.aload_n 0, 1) := by decide +kernel
theorem dX3_relate_8 : decode cX3_relate 8 = .ok (.iload_n 2, 1) := by decide +kernel
theorem dX3_relate_9 : decode cX3_relate 9 = .ok (.iload_n 1, 1) := by decide +kernel
theorem dX3_relate_10 : decode cX3_relate 10 = .ok (.iload_n 3, 1) := by decide +kernel
theorem dX3_relate_11 : decode cX3_relate 11 = .ok (.invokevirtual 43, 3) := by decide +kernel
theorem dX3_relate_14 : decode cX3_relate 14 = .ok (.return_, 1) := by decide +kernel
theorem dX3_relateOneWay_0 : decode cX3_relateOneWay 0 = .ok (.aload_n 0, 1) := by decide +kernel
theorem dX3_relateOneWay_1 : decode cX3_relateOneWay 1 = .ok (.iload_n 1, 1) := by decide +kernel
theorem dX3_relateOneWay_2 : decode cX3_relateOneWay 2 = .ok (.invokevirtual 35, 3) := by decide +kernel
theorem dX3_relateOneWay_5 : decode cX3_relateOneWay 5 = .ok (.ifCond .eq 11, 3) := by decide +kernel
theorem dX3_relateOneWay_8 : decode cX3_relateOneWay 8 = .ok (.aload_n 0, 1) := by decide +kernel
theorem dX3_relateOneWay_9 : decode cX3_relateOneWay 9 = .ok (.iload_n 2, 1) := by decide +kernel
theorem dX3_relateOneWay_10 : decode cX3_relateOneWay 10 = .ok (.invokevirtual 35, 3) := by decide +kernel
theorem dX3_relateOneWay_13 : decode cX3_relateOneWay 13 = .ok (.ifCond .ne 4, 3) := by decide +kernel
theorem dX3_relateOneWay_16 : decode cX3_relateOneWay 16 = .ok (.return_, 1) := by decide +kernel
theorem dX3_relateOneWay_17 : decode cX3_relateOneWay 17 = .ok (.iconst 1, 1) := by decide +kernel
theorem dX3_relateOneWay_18 : decode cX3_relateOneWay 18 = .ok (.iload_n 2, 1) := by decide +kernel
theorem dX3_relateOneWay_19 : decode cX3_relateOneWay 19 = .ok (.ishl, 1) := by decide +kernel
theorem dX3_relateOneWay_20 : decode cX3_relateOneWay 20 = .ok (.istore 4, 2) := by decide +kernel
theorem dX3_relateOneWay_22 : decode cX3_relateOneWay 22 = .ok (.aload_n 0, 1) := by decide +kernel
theorem dX3_relateOneWay_23 : decode cX3_relateOneWay 23 = .ok (.getfield 21, 3) := by decide +kernel
theorem dX3_relateOneWay_26 : decode cX3_relateOneWay 26 = .ok (.iload_n 1, 1) := by decide +kernel
theorem dX3_relateOneWay_27 : decode cX3_relateOneWay 27 = .ok (.dup2, 1) := by decide +kernel
theorem dX3_relateOneWay_28 : decode cX3_relateOneWay 28 = .ok (.iaload, 1) := by decide +kernel
theorem dX3_relateOneWay_29 : decode cX3_relateOneWay 29 = .ok (.iload 4, 2) := by decide +kernel
theorem dX3_relateOneWay_31 : decode cX3_relateOneWay 31 = .ok (.iconst (-1), 1) := by decide +kernel
theorem dX3_relateOneWay_32 : decode cX3_relateOneWay 32 = .ok (.ixor, 1) := by decide +kernel
theorem dX3_relateOneWay_33 : decode cX3_relateOneWay 33 = .ok (.iand, 1) := by decide +kernel
theorem dX3_relateOneWay_34 : decode cX3_relateOneWay 34 = .ok (.iastore, 1) := by decide +kernel
theorem dX3_relateOneWay_35 : decode cX3_relateOneWay 35 = .ok (.aload_n 0, 1) := by decide +kernel
theorem dX3_relateOneWay_36 : decode cX3_relateOneWay 36 = .ok (.getfield 24, 3) := by decide +kernel
theorem dX3_relateOneWay_39 : decode cX3_relateOneWay 39 = .ok (.iload_n 1, 1) := by decide +kernel
theorem dX3_relateOneWay_40 : decode cX3_relateOneWay 40 = .ok (.dup2, 1) := by decide +kernel
theorem dX3_relateOneWay_41 : decode cX3_relateOneWay 41 = .ok (.iaload, 1) := by decide +kernel
theorem dX3_relateOneWay_42 : decode cX3_relateOneWay 42 = .ok (.iload 4, 2) := by decide +kernel
theorem dX3_relateOneWay_44 : decode cX3_relateOneWay 44 = .ok (.iconst (-1), 1) := by decide +kernel
theorem dX3_relateOneWay_45 : decode cX3_relateOneWay 45 = .ok (.ixor, 1) := by decide +kernel
theorem dX3_relateOneWay_46 : decode cX3_relateOneWay 46 = .ok (.iand, 1) := by decide +kernel
theorem dX3_relateOneWay_47 : decode cX3_relateOneWay 47 = .ok (.iastore, 1) := by decide +kernel
theorem dX3_relateOneWay_48 : decode cX3_relateOneWay 48 = .ok (.iload_n 3, 1) := by decide +kernel
theorem dX3_relateOneWay_49 : decode cX3_relateOneWay 49 = .ok (.iconst 1, 1) := by decide +kernel
theorem dX3_relateOneWay_50 : decode cX3_relateOneWay 50 = .ok (.if_icmp .ne 17, 3) := by decide +kernel
theorem dX3_relateOneWay_53 : decode cX3_relateOneWay 53 = .ok (.aload_n 0, 1) := by decide +kernel
theorem dX3_relateOneWay_54 : decode cX3_relateOneWay 54 = .ok (.getfield 21, 3) := by decide +kernel
theorem dX3_relateOneWay_57 : decode cX3_relateOneWay 57 = .ok (.iload_n 1, 1) := by decide +kernel
theorem dX3_relateOneWay_58 : decode cX3_relateOneWay 58 = .ok (.dup2, 1) := by decide +kernel
theorem dX3_relateOneWay_59 : decode cX3_relateOneWay 59 = .ok (.iaload, 1) := by decide +kernel
theorem dX3_relateOneWay_60 : decode cX3_relateOneWay 60 = .ok (.iload 4, 2) := by decide +kernel
theorem dX3_relateOneWay_62 : decode cX3_relateOneWay 62 = .ok (.ior, 1) := by decide +kernel
theorem dX3_relateOneWay_63 : decode cX3_relateOneWay 63 = .ok (.iastore, 1) := by decide +kernel
theorem dX3_relateOneWay_64 : decode cX3_relateOneWay 64 = .ok (.goto 19, 3) := by decide +kernel
theorem dX3_relateOneWay_67 : decode cX3_relateOneWay 67 = .ok (.iload_n 3, 1) := by decide +kernel
theorem dX3_relateOneWay_68 : decode cX3_relateOneWay 68 = .ok (.iconst 2, 1) := by decide +kernel
theorem dX3_relateOneWay_69 : decode cX3_relateOneWay 69 = .ok (.if_icmp .ne 14, 3) := by decide +kernel
theorem dX3_relateOneWay_72 : decode cX3_relateOneWay 72 = .ok (.aload_n 0, 1) := by decide +kernel
theorem dX3_relateOneWay_73 : decode cX3_relateOneWay 73 = .ok (.getfield 24, 3) := by decide +kernel
theorem dX3_relateOneWay_76 : decode cX3_relateOneWay 76 = .ok (.iload_n 1, 1) := by decide +kernel
theorem dX3_relateOneWay_77 : decode cX3_relateOneWay 77 = .ok (.dup2, 1) := by decide +kernel
theorem dX3_relateOneWay_78 : decode cX3_relateOneWay 78 = .ok (.iaload, 1) := by decide +kernel
theorem dX3_relateOneWay_79 : decode cX3_relateOneWay 79 = .ok (.iload 4, 2) := by decide +kernel
theorem dX3_relateOneWay_81 : decode cX3_relateOneWay 81 = .ok (.ior, 1) := by decide +kernel
theorem dX3_relateOneWay_82 : decode cX3_relateOneWay 82 = .ok (.iastore, 1) := by decide +kernel
theorem dX3_relateOneWay_83 : decode cX3_relateOneWay 83 = .ok (.return_, 1) := by decide +kernel
theorem dL_change_0 : decode cL_change 0 = .ok (.aload_n 3, 1) := by decide +kernel
theorem dL_change_1 : decode cL_change 1 = .ok (.iconst 0, 1) := by decide +kernel
theorem dL_change_2 : decode cL_change 2 = .ok (.aload_n 0, 1) := by decide +kernel
theorem dL_change_3 : decode cL_change 3 = .ok (.iload_n 1, 1) := by decide +kernel
theorem dL_change_4 : decode cL_change 4 = .ok (.iload_n 2, 1) := by decide +kernel
theorem dL_change_5 : decode cL_change 5 = .ok (.invokevirtual 26, 3) := by decide +kernel
theorem dL_change_8 : decode cL_change 8 = .ok (.i2l, 1) := by decide +kernel
theorem dL_change_9 : decode cL_change 9 = .ok (.lastore, 1) := by decide +kernel
theorem dL_change_10 : decode cL_change 10 = .ok (.goto 11, 3) := by decide +kernel
theorem dL_change_13 : decode cL_change 13 = .ok (.astore 4, 2) := by decide +kernel
theorem dL_change_15 : decode cL_change 15 = .ok (.iconst 1, 1) := by decide +kernel
theorem dL_change_16 : decode cL_change 16 = .ok (.ireturn, 1) := by decide +kernel
theorem dL_change_17 : decode cL_change 17 = .ok (.astore 4, 2) := by decide +kernel
theorem dL_change_19 : decode cL_change 19 = .ok (.iconst 2, 1) := by decide +kernel
theorem dL_change_20 : decode cL_change 20 = .ok (.ireturn, 1) := by decide +kernel
theorem dL_change_21 : decode cL_change 21 = .ok (.iconst 0, 1) := by decide +kernel
theorem dL_change_22 : decode cL_change 22 = .ok (.ireturn, 1) := by decide +kernel
theorem dX4_change_0 : decode cX4_change 0 = .ok (.aload_n 0, 1) := by decide +kernel
theorem dX4_change_1 : decode cX4_change 1 = .ok (.iload_n 1, 1) := by decide +kernel
theorem dX4_change_2 : decode cX4_change 2 = .ok (.invokevirtual 62, 3) := by decide +kernel
theorem dX4_change_5 : decode cX4_change 5 = .ok (.iload_n 2, 1) := by decide +kernel
theorem dX4_change_6 : decode cX4_change 6 = .ok (.iconst 0, 1) := by decide +kernel
theorem dX4_change_7 : decode cX4_change 7 = .ok (.sipush 1000, 3) := by decide +kernel
theorem dX4_change_10 : decode cX4_change 10 = .ok (.invokestatic 37, 3) := by decide +kernel
theorem dX4_change_13 : decode cX4_change 13 = .ok (.aload_n 0, 1) := by decide +kernel
theorem dX4_change_14 : decode cX4_change 14 = .ok (.getfield 19, 3) := by decide +kernel
theorem dX4_change_17 : decode cX4_change 17 = .ok (.iload_n 1, 1) := by decide +kernel
theorem dX4_change_18 : decode cX4_change 18 = .ok (.iload_n 2, 1) := by decide +kernel
theorem dX4_change_19 : decode cX4_change 19 = .ok (.invokevirtual 78, 3) := by decide +kernel
theorem dX4_change_22 : decode cX4_change 22 = .ok (.ireturn, 1) := by decide +kernel
theorem dX3_reweigh_0 : decode cX3_reweigh 0 = .ok (.aload_n 0, 1) := by decide +kernel
theorem dX3_reweigh_1 : decode cX3_reweigh 1 = .ok (.iload_n 1, 1) := by decide +kernel
theorem dX3_reweigh_2 : decode cX3_reweigh 2 = .ok (.invokevirtual 35, 3) := by decide +kernel
theorem dX3_reweigh_5 : decode cX3_reweigh 5 = .ok (.ifCond .ne 5, 3) := by decide +kernel
theorem dX3_reweigh_8 : decode cX3_reweigh 8 = .ok (.iconst (-1), 1) := by decide +kernel
theorem dX3_reweigh_9 : decode cX3_reweigh 9 = .ok (.ireturn, 1) := by decide +kernel
theorem dX3_reweigh_10 : decode cX3_reweigh 10 = .ok (.aload_n 0, 1) := by decide +kernel
theorem dX3_reweigh_11 : decode cX3_reweigh 11 = .ok (.getfield 15, 3) := by decide +kernel
theorem dX3_reweigh_14 : decode cX3_reweigh 14 = .ok (.iload_n 1, 1) := by decide +kernel
theorem dX3_reweigh_15 : decode cX3_reweigh 15 = .ok (.iaload, 1) := by decide +kernel
theorem dX3_reweigh_16 : decode cX3_reweigh 16 = .ok (.istore_n 3, 1) := by decide +kernel
theorem dX3_reweigh_17 : decode cX3_reweigh 17 = .ok (.aload_n 0, 1) := by decide +kernel
theorem dX3_reweigh_18 : decode cX3_reweigh 18 = .ok (.getfield 15, 3) := by decide +kernel
theorem dX3_reweigh_21 : decode cX3_reweigh 21 = .ok (.iload_n 1, 1) := by decide +kernel
theorem dX3_reweigh_22 : decode cX3_reweigh 22 = .ok (.iload_n 2, 1) := by decide +kernel
theorem dX3_reweigh_23 : decode cX3_reweigh 23 = .ok (.iastore, 1) := by decide +kernel
theorem dX3_reweigh_24 : decode cX3_reweigh 24 = .ok (.iload_n 3, 1) := by decide +kernel
theorem dX3_reweigh_25 : decode cX3_reweigh 25 = .ok (.ireturn, 1) := by decide +kernel
theorem dL_slack_0 : decode cL_slack 0 = .ok (.aload_n 0, 1) := by decide +kernel
theorem dL_slack_1 : decode cL_slack 1 = .ok (.iload_n 1, 1) := by decide +kernel
theorem dL_slack_2 : decode cL_slack 2 = .ok (.invokevirtual 30, 3) := by decide +kernel
theorem dL_slack_5 : decode cL_slack 5 = .ok (.goto 6, 3) := by decide +kernel
theorem dL_slack_8 : decode cL_slack 8 = .ok (.astore_n 2, 1) := by decide +kernel
theorem dL_slack_9 : decode cL_slack 9 = .ok (.iconst 1, 1) := by decide +kernel
theorem dL_slack_10 : decode cL_slack 10 = .ok (.ireturn, 1) := by decide +kernel
theorem dL_slack_11 : decode cL_slack 11 = .ok (.iconst 0, 1) := by decide +kernel
theorem dL_slack_12 : decode cL_slack 12 = .ok (.ireturn, 1) := by decide +kernel
theorem dX4_slack_0 : decode cX4_slack 0 = .ok (.iload_n 1, 1) := by decide +kernel
theorem dX4_slack_1 : decode cX4_slack 1 = .ok (.iconst 0, 1) := by decide +kernel
theorem dX4_slack_2 : decode cX4_slack 2 = .ok (.sipush 1000, 3) := by decide +kernel
theorem dX4_slack_5 : decode cX4_slack 5 = .ok (.invokestatic 37, 3) := by decide +kernel
theorem dX4_slack_8 : decode cX4_slack 8 = .ok (.aload_n 0, 1) := by decide +kernel
theorem dX4_slack_9 : decode cX4_slack 9 = .ok (.getfield 12, 3) := by decide +kernel
theorem dX4_slack_12 : decode cX4_slack 12 = .ok (.iload_n 1, 1) := by decide +kernel
theorem dX4_slack_13 : decode cX4_slack 13 = .ok (.invokevirtual 81, 3) := by decide +kernel
theorem dX4_slack_16 : decode cX4_slack 16 = .ok (.return_, 1) := by decide +kernel
theorem dX0_keepSlack_0 : decode cX0_keepSlack 0 = .ok (.aload_n 0, 1) := by decide +kernel
theorem dX0_keepSlack_1 : decode cX0_keepSlack 1 = .ok (.iload_n 1, 1) := by decide +kernel
theorem dX0_keepSlack_2 : decode cX0_keepSlack 2 = .ok (.putfield 32, 3) := by decide +kernel
theorem dX0_keepSlack_5 : decode cX0_keepSlack 5 = .ok (.return_, 1) := by decide +kernel
theorem dL_choose_0 : decode cL_choose 0 = .ok (.aload_n 2, 1) := by decide +kernel
theorem dL_choose_1 : decode cL_choose 1 = .ok (.iconst 0, 1) := by decide +kernel
theorem dL_choose_2 : decode cL_choose 2 = .ok (.aload_n 0, 1) := by decide +kernel
theorem dL_choose_3 : decode cL_choose 3 = .ok (.iload_n 1, 1) := by decide +kernel
theorem dL_choose_4 : decode cL_choose 4 = .ok (.invokevirtual 34, 3) := by decide +kernel
theorem dL_choose_7 : decode cL_choose 7 = .ok (.i2l, 1) := by decide +kernel
theorem dL_choose_8 : decode cL_choose 8 = .ok (.lastore, 1) := by decide +kernel
theorem dL_choose_9 : decode cL_choose 9 = .ok (.goto 6, 3) := by decide +kernel
theorem dL_choose_12 : decode cL_choose 12 = .ok (.astore_n 3, 1) := by decide +kernel
theorem dL_choose_13 : decode cL_choose 13 = .ok (.iconst 1, 1) := by decide +kernel
theorem dL_choose_14 : decode cL_choose 14 = .ok (.ireturn, 1) := by decide +kernel
theorem dL_choose_15 : decode cL_choose 15 = .ok (.iconst 0, 1) := by decide +kernel
theorem dL_choose_16 : decode cL_choose 16 = .ok (.ireturn, 1) := by decide +kernel
theorem dX4_choose_0 : decode cX4_choose 0 = .ok (.iload_n 1, 1) := by decide +kernel
theorem dX4_choose_1 : decode cX4_choose 1 = .ok (.iconst 0, 1) := by decide +kernel
theorem dX4_choose_2 : decode cX4_choose 2 = .ok (.bipush 6, 2) := by decide +kernel
theorem dX4_choose_4 : decode cX4_choose 4 = .ok (.invokestatic 37, 3) := by decide +kernel
theorem dX4_choose_7 : decode cX4_choose 7 = .ok (.aload_n 0, 1) := by decide +kernel
theorem dX4_choose_8 : decode cX4_choose 8 = .ok (.getfield 19, 3) := by decide +kernel
theorem dX4_choose_11 : decode cX4_choose 11 = .ok (.getfield 84, 3) := by decide +kernel
theorem dX4_choose_14 : decode cX4_choose 14 = .ok (.iload_n 1, 1) := by decide +kernel
theorem dX4_choose_15 : decode cX4_choose 15 = .ok (.if_icmp .gt 7, 3) := by decide +kernel
theorem dX4_choose_18 : decode cX4_choose 18 = .ok (.iconst 1, 1) := by decide +kernel
theorem dX4_choose_19 : decode cX4_choose 19 = .ok (.goto 4, 3) := by decide +kernel
theorem dX4_choose_22 : decode cX4_choose 22 = .ok (.iconst 0, 1) := by decide +kernel
theorem dX4_choose_23 : decode cX4_choose 23 = .ok (.istore_n 2, 1) := by decide +kernel
theorem dX4_choose_24 : decode cX4_choose 24 = .ok (.aload_n 0, 1) := by decide +kernel
theorem dX4_choose_25 : decode cX4_choose 25 = .ok (.getfield 26, 3) := by decide +kernel
theorem dX4_choose_28 : decode cX4_choose 28 = .ok (.invokevirtual 88, 3) := by decide +kernel
theorem dX4_choose_31 : decode cX4_choose 31 = .ok (.iload_n 2, 1) := by decide +kernel
theorem dX4_choose_32 : decode cX4_choose 32 = .ok (.ifCond .eq 10, 3) := by decide +kernel
theorem dX4_choose_35 : decode cX4_choose 35 = .ok (.aload_n 0, 1) := by decide +kernel
theorem dX4_choose_36 : decode cX4_choose 36 = .ok (.invokevirtual 91, 3) := by decide +kernel
theorem dX4_choose_39 : decode cX4_choose 39 = .ok (.goto 7, 3) := by decide +kernel
theorem dX4_choose_42 : decode cX4_choose 42 = .ok (.aload_n 0, 1) := by decide +kernel
theorem dX4_choose_43 : decode cX4_choose 43 = .ok (.invokevirtual 94, 3) := by decide +kernel
theorem dX4_choose_46 : decode cX4_choose 46 = .ok (.istore_n 3, 1) := by decide +kernel
theorem dX4_choose_47 : decode cX4_choose 47 = .ok (.iload_n 3, 1) := by decide +kernel
theorem dX4_choose_48 : decode cX4_choose 48 = .ok (.ifCond .ne 12, 3) := by decide +kernel
theorem dX4_choose_51 : decode cX4_choose 51 = .ok (.aload_n 0, 1) := by decide +kernel
theorem dX4_choose_52 : decode cX4_choose 52 = .ok (.getfield 26, 3) := by decide +kernel
theorem dX4_choose_55 : decode cX4_choose 55 = .ok (.invokevirtual 88, 3) := by decide +kernel
theorem dX4_choose_58 : decode cX4_choose 58 = .ok (.iconst (-1), 1) := by decide +kernel
theorem dX4_choose_59 : decode cX4_choose 59 = .ok (.ireturn, 1) := by decide +kernel
theorem dX4_choose_60 : decode cX4_choose 60 = .ok (.aload_n 0, 1) := by decide +kernel
theorem dX4_choose_61 : decode cX4_choose 61 = .ok (.getfield 26, 3) := by decide +kernel
theorem dX4_choose_64 : decode cX4_choose 64 = .ok (.iload_n 2, 1) := by decide +kernel
theorem dX4_choose_65 : decode cX4_choose 65 = .ok (.invokevirtual 97, 3) := by decide +kernel
theorem dX4_choose_68 : decode cX4_choose 68 = .ok (.aload_n 0, 1) := by decide +kernel
theorem dX4_choose_69 : decode cX4_choose 69 = .ok (.getfield 26, 3) := by decide +kernel
theorem dX4_choose_72 : decode cX4_choose 72 = .ok (.getfield 101, 3) := by decide +kernel
theorem dX4_choose_75 : decode cX4_choose 75 = .ok (.ireturn, 1) := by decide +kernel
theorem dX1_clear_0 : decode cX1_clear 0 = .ok (.aload_n 0, 1) := by decide +kernel
theorem dX1_clear_1 : decode cX1_clear 1 = .ok (.iconst 0, 1) := by decide +kernel
theorem dX1_clear_2 : decode cX1_clear 2 = .ok (.putfield 18, 3) := by decide +kernel
theorem dX1_clear_5 : decode cX1_clear 5 = .ok (.aload_n 0, 1) := by decide +kernel
theorem dX1_clear_6 : decode cX1_clear 6 = .ok (.iconst 0, 1) := by decide +kernel
theorem dX1_clear_7 : decode cX1_clear 7 = .ok (.putfield 22, 3) := by decide +kernel
theorem dX1_clear_10 : decode cX1_clear 10 = .ok (.aload_n 0, 1) := by decide +kernel
theorem dX1_clear_11 : decode cX1_clear 11 = .ok (.iconst 0, 1) := by decide +kernel
theorem dX1_clear_12 : decode cX1_clear 12 = .ok (.putfield 25, 3) := by decide +kernel
theorem dX1_clear_15 : decode cX1_clear 15 = .ok (.aload_n 0, 1) := by decide +kernel
theorem dX1_clear_16 : decode cX1_clear 16 = .ok (.iconst 0, 1) := by decide +kernel
theorem dX1_clear_17 : decode cX1_clear 17 = .ok (.putfield 29, 3) := by decide +kernel
theorem dX1_clear_20 : decode cX1_clear 20 = .ok (.return_, 1) := by decide +kernel
theorem dX4_putExactly_0 : decode cX4_putExactly 0 = .ok (.aload_n 0, 1) := by decide +kernel
theorem dX4_putExactly_1 : decode cX4_putExactly 1 = .ok (.getfield 19, 3) := by decide +kernel
theorem dX4_putExactly_4 : decode cX4_putExactly 4 = .ok (.invokevirtual 200, 3) := by decide +kernel
theorem dX4_putExactly_7 : decode cX4_putExactly 7 = .ok (.istore_n 1, 1) := by decide +kernel
theorem dX4_putExactly_8 : decode cX4_putExactly 8 = .ok (.aload_n 0, 1) := by decide +kernel
theorem dX4_putExactly_9 : decode cX4_putExactly 9 = .ok (.getfield 33, 3) := by decide +kernel
theorem dX4_putExactly_12 : decode cX4_putExactly 12 = .ok (.invokevirtual 204, 3) := by decide +kernel
theorem dX4_putExactly_15 : decode cX4_putExactly 15 = .ok (.iconst 1, 1) := by decide +kernel
theorem dX4_putExactly_16 : decode cX4_putExactly 16 = .ok (.istore_n 2, 1) := by decide +kernel
theorem dX4_putExactly_17 : decode cX4_putExactly 17 = .ok (.iload_n 2, 1) := by decide +kernel
theorem dX4_putExactly_18 : decode cX4_putExactly 18 = .ok (.iload_n 1, 1) := by decide +kernel
theorem dX4_putExactly_19 : decode cX4_putExactly 19 = .ok (.if_icmp .gt 44, 3) := by decide +kernel
theorem dX4_putExactly_22 : decode cX4_putExactly 22 = .ok (.aload_n 0, 1) := by decide +kernel
theorem dX4_putExactly_23 : decode cX4_putExactly 23 = .ok (.getfield 12, 3) := by decide +kernel
theorem dX4_putExactly_26 : decode cX4_putExactly 26 = .ok (.aload_n 0, 1) := by decide +kernel
theorem dX4_putExactly_27 : decode cX4_putExactly 27 = .ok (.iload_n 2, 1) := by decide +kernel
theorem dX4_putExactly_28 : decode cX4_putExactly 28 = .ok (.invokevirtual 205, 3) := by decide +kernel
theorem dX4_putExactly_31 : decode cX4_putExactly 31 = .ok (.invokevirtual 208, 3) := by decide +kernel
theorem dX4_putExactly_34 : decode cX4_putExactly 34 = .ok (.istore_n 3, 1) := by decide +kernel
theorem dX4_putExactly_35 : decode cX4_putExactly 35 = .ok (.iload_n 3, 1) := by decide +kernel
theorem dX4_putExactly_36 : decode cX4_putExactly 36 = .ok (.iconst (-1), 1) := by decide +kernel
theorem dX4_putExactly_37 : decode cX4_putExactly 37 = .ok (.if_icmp .eq 20, 3) := by decide +kernel
theorem dX4_putExactly_40 : decode cX4_putExactly 40 = .ok (.aload_n 0, 1) := by decide +kernel
theorem dX4_putExactly_41 : decode cX4_putExactly 41 = .ok (.getfield 33, 3) := by decide +kernel
theorem dX4_putExactly_44 : decode cX4_putExactly 44 = .ok (.iload_n 2, 1) := by decide +kernel
theorem dX4_putExactly_45 : decode cX4_putExactly 45 = .ok (.iload_n 3, 1) := by decide +kernel
theorem dX4_putExactly_46 : decode cX4_putExactly 46 = .ok (.aload_n 0, 1) := by decide +kernel
theorem dX4_putExactly_47 : decode cX4_putExactly 47 = .ok (.getfield 12, 3) := by decide +kernel
theorem dX4_putExactly_50 : decode cX4_putExactly 50 = .ok (.iload_n 3, 1) := by decide +kernel
theorem dX4_putExactly_51 : decode cX4_putExactly 51 = .ok (.invokevirtual 211, 3) := by decide +kernel
theorem dX4_putExactly_54 : decode cX4_putExactly 54 = .ok (.invokevirtual 214, 3) := by decide +kernel
theorem dX4_putExactly_57 : decode cX4_putExactly 57 = .ok (.iinc 2 1, 3) := by decide +kernel
theorem dX4_putExactly_60 : decode cX4_putExactly 60 = .ok (.goto (-43), 3) := by decide +kernel
theorem dX4_putExactly_63 : decode cX4_putExactly 63 = .ok (.aload_n 0, 1) := by decide +kernel
theorem dX4_putExactly_64 : decode cX4_putExactly 64 = .ok (.getfield 33, 3) := by decide +kernel
theorem dX4_putExactly_67 : decode cX4_putExactly 67 = .ok (.iload_n 1, 1) := by decide +kernel
theorem dX4_putExactly_68 : decode cX4_putExactly 68 = .ok (.aload_n 0, 1) := by decide +kernel
theorem dX4_putExactly_69 : decode cX4_putExactly 69 = .ok (.getfield 26, 3) := by decide +kernel
theorem dX4_putExactly_72 : decode cX4_putExactly 72 = .ok (.invokevirtual 217, 3) := by decide +kernel
theorem dX4_putExactly_75 : decode cX4_putExactly 75 = .ok (.ireturn, 1) := by decide +kernel
theorem dX3_all_0 : decode cX3_all 0 = .ok (.iconst 1, 1) := by decide +kernel
theorem dX3_all_1 : decode cX3_all 1 = .ok (.aload_n 0, 1) := by decide +kernel
theorem dX3_all_2 : decode cX3_all 2 = .ok (.getfield 27, 3) := by decide +kernel
theorem dX3_all_5 : decode cX3_all 5 = .ok (.ishl, 1) := by decide +kernel
theorem dX3_all_6 : decode cX3_all 6 = .ok (.iconst 1, 1) := by decide +kernel
theorem dX3_all_7 : decode cX3_all 7 = .ok (.isub, 1) := by decide +kernel
theorem dX3_all_8 : decode cX3_all 8 = .ok (.ireturn, 1) := by decide +kernel
theorem dX2_clear_0 : decode cX2_clear 0 = .ok (.iconst 0, 1) := by decide +kernel
theorem dX2_clear_1 : decode cX2_clear 1 = .ok (.istore_n 1, 1) := by decide +kernel
theorem dX2_clear_2 : decode cX2_clear 2 = .ok (.iload_n 1, 1) := by decide +kernel
theorem dX2_clear_3 : decode cX2_clear 3 = .ok (.bipush 64, 2) := by decide +kernel
theorem dX2_clear_5 : decode cX2_clear 5 = .ok (.if_icmp .ge 23, 3) := by decide +kernel
theorem dX2_clear_8 : decode cX2_clear 8 = .ok (.aload_n 0, 1) := by decide +kernel
theorem dX2_clear_9 : decode cX2_clear 9 = .ok (.getfield 9, 3) := by decide +kernel
theorem dX2_clear_12 : decode cX2_clear 12 = .ok (.iload_n 1, 1) := by decide +kernel
theorem dX2_clear_13 : decode cX2_clear 13 = .ok (.iconst (-1), 1) := by decide +kernel
theorem dX2_clear_14 : decode cX2_clear 14 = .ok (.iastore, 1) := by decide +kernel
theorem dX2_clear_15 : decode cX2_clear 15 = .ok (.aload_n 0, 1) := by decide +kernel
theorem dX2_clear_16 : decode cX2_clear 16 = .ok (.getfield 18, 3) := by decide +kernel
theorem dX2_clear_19 : decode cX2_clear 19 = .ok (.iload_n 1, 1) := by decide +kernel
theorem dX2_clear_20 : decode cX2_clear 20 = .ok (.iconst (-1), 1) := by decide +kernel
theorem dX2_clear_21 : decode cX2_clear 21 = .ok (.iastore, 1) := by decide +kernel
theorem dX2_clear_22 : decode cX2_clear 22 = .ok (.iinc 1 1, 3) := by decide +kernel
theorem dX2_clear_25 : decode cX2_clear 25 = .ok (.goto (-23), 3) := by decide +kernel
theorem dX2_clear_28 : decode cX2_clear 28 = .ok (.aload_n 0, 1) := by decide +kernel
theorem dX2_clear_29 : decode cX2_clear 29 = .ok (.getfield 18, 3) := by decide +kernel
theorem dX2_clear_32 : decode cX2_clear 32 = .ok (.iconst 0, 1) := by decide +kernel
theorem dX2_clear_33 : decode cX2_clear 33 = .ok (.iconst 0, 1) := by decide +kernel
theorem dX2_clear_34 : decode cX2_clear 34 = .ok (.iastore, 1) := by decide +kernel
theorem dX2_clear_35 : decode cX2_clear 35 = .ok (.aload_n 0, 1) := by decide +kernel
theorem dX2_clear_36 : decode cX2_clear 36 = .ok (.getfield 21, 3) := by decide +kernel
theorem dX2_clear_39 : decode cX2_clear 39 = .ok (.iconst 0, 1) := by decide +kernel
theorem dX2_clear_40 : decode cX2_clear 40 = .ok (.iconst 0, 1) := by decide +kernel
theorem dX2_clear_41 : decode cX2_clear 41 = .ok (.iastore, 1) := by decide +kernel
theorem dX2_clear_42 : decode cX2_clear 42 = .ok (.return_, 1) := by decide +kernel
theorem dX4_boxesFor_0 : decode cX4_boxesFor 0 = .ok (.aload_n 0, 1) := by decide +kernel
theorem dX4_boxesFor_1 : decode cX4_boxesFor 1 = .ok (.getfield 19, 3) := by decide +kernel
theorem dX4_boxesFor_4 : decode cX4_boxesFor 4 = .ok (.iload_n 1, 1) := by decide +kernel
theorem dX4_boxesFor_5 : decode cX4_boxesFor 5 = .ok (.invokevirtual 154, 3) := by decide +kernel
theorem dX4_boxesFor_8 : decode cX4_boxesFor 8 = .ok (.ifCond .ne 14, 3) := by decide +kernel
theorem dX4_boxesFor_11 : decode cX4_boxesFor 11 = .ok (.aload_n 0, 1) := by decide +kernel
theorem dX4_boxesFor_12 : decode cX4_boxesFor 12 = .ok (.getfield 19, 3) := by decide +kernel
theorem dX4_boxesFor_15 : decode cX4_boxesFor 15 = .ok (.iload_n 1, 1) := by decide +kernel
theorem dX4_boxesFor_16 : decode cX4_boxesFor 16 = .ok (.invokevirtual 197, 3) := by decide +kernel
theorem dX4_boxesFor_19 : decode cX4_boxesFor 19 = .ok (.ifCond .ne 5, 3) := by decide +kernel
theorem dX4_boxesFor_22 : decode cX4_boxesFor 22 = .ok (.iconst 0, 1) := by decide +kernel
theorem dX4_boxesFor_23 : decode cX4_boxesFor 23 = .ok (.ireturn, 1) := by decide +kernel
theorem dX4_boxesFor_24 : decode cX4_boxesFor 24 = .ok (.aload_n 0, 1) := by decide +kernel
theorem dX4_boxesFor_25 : decode cX4_boxesFor 25 = .ok (.iload_n 1, 1) := by decide +kernel
theorem dX4_boxesFor_26 : decode cX4_boxesFor 26 = .ok (.invokevirtual 160, 3) := by decide +kernel
theorem dX4_boxesFor_29 : decode cX4_boxesFor 29 = .ok (.ireturn, 1) := by decide +kernel
theorem dX3_anyApart_0 : decode cX3_anyApart 0 = .ok (.iconst 0, 1) := by decide +kernel
theorem dX3_anyApart_1 : decode cX3_anyApart 1 = .ok (.istore_n 2, 1) := by decide +kernel
theorem dX3_anyApart_2 : decode cX3_anyApart 2 = .ok (.iload_n 2, 1) := by decide +kernel
theorem dX3_anyApart_3 : decode cX3_anyApart 3 = .ok (.aload_n 0, 1) := by decide +kernel
theorem dX3_anyApart_4 : decode cX3_anyApart 4 = .ok (.getfield 27, 3) := by decide +kernel
theorem dX3_anyApart_7 : decode cX3_anyApart 7 = .ok (.if_icmp .ge 30, 3) := by decide +kernel
theorem dX3_anyApart_10 : decode cX3_anyApart 10 = .ok (.iload_n 1, 1) := by decide +kernel
theorem dX3_anyApart_11 : decode cX3_anyApart 11 = .ok (.iload_n 2, 1) := by decide +kernel
theorem dX3_anyApart_12 : decode cX3_anyApart 12 = .ok (.invokestatic 39, 3) := by decide +kernel
theorem dX3_anyApart_15 : decode cX3_anyApart 15 = .ok (.ifCond .eq 16, 3) := by decide +kernel
theorem dX3_anyApart_18 : decode cX3_anyApart 18 = .ok (.aload_n 0, 1) := by decide +kernel
theorem dX3_anyApart_19 : decode cX3_anyApart 19 = .ok (.getfield 21, 3) := by decide +kernel
theorem dX3_anyApart_22 : decode cX3_anyApart 22 = .ok (.iload_n 2, 1) := by decide +kernel
theorem dX3_anyApart_23 : decode cX3_anyApart 23 = .ok (.iaload, 1) := by decide +kernel
theorem dX3_anyApart_24 : decode cX3_anyApart 24 = .ok (.iload_n 1, 1) := by decide +kernel
theorem dX3_anyApart_25 : decode cX3_anyApart 25 = .ok (.iand, 1) := by decide +kernel
theorem dX3_anyApart_26 : decode cX3_anyApart 26 = .ok (.ifCond .eq 5, 3) := by decide +kernel
theorem dX3_anyApart_29 : decode cX3_anyApart 29 = .ok (.iconst 1, 1) := by decide +kernel
theorem dX3_anyApart_30 : decode cX3_anyApart 30 = .ok (.ireturn, 1) := by decide +kernel
theorem dX3_anyApart_31 : decode cX3_anyApart 31 = .ok (.iinc 2 1, 3) := by decide +kernel
theorem dX3_anyApart_34 : decode cX3_anyApart 34 = .ok (.goto (-32), 3) := by decide +kernel
theorem dX3_anyApart_37 : decode cX3_anyApart 37 = .ok (.iconst 0, 1) := by decide +kernel
theorem dX3_anyApart_38 : decode cX3_anyApart 38 = .ok (.ireturn, 1) := by decide +kernel
theorem dX3_isWhole_0 : decode cX3_isWhole 0 = .ok (.iconst 0, 1) := by decide +kernel
theorem dX3_isWhole_1 : decode cX3_isWhole 1 = .ok (.istore_n 2, 1) := by decide +kernel
theorem dX3_isWhole_2 : decode cX3_isWhole 2 = .ok (.iload_n 2, 1) := by decide +kernel
theorem dX3_isWhole_3 : decode cX3_isWhole 3 = .ok (.aload_n 0, 1) := by decide +kernel
theorem dX3_isWhole_4 : decode cX3_isWhole 4 = .ok (.getfield 27, 3) := by decide +kernel
theorem dX3_isWhole_7 : decode cX3_isWhole 7 = .ok (.if_icmp .ge 32, 3) := by decide +kernel
theorem dX3_isWhole_10 : decode cX3_isWhole 10 = .ok (.iload_n 1, 1) := by decide +kernel
theorem dX3_isWhole_11 : decode cX3_isWhole 11 = .ok (.iload_n 2, 1) := by decide +kernel
theorem dX3_isWhole_12 : decode cX3_isWhole 12 = .ok (.invokestatic 39, 3) := by decide +kernel
theorem dX3_isWhole_15 : decode cX3_isWhole 15 = .ok (.ifCond .eq 18, 3) := by decide +kernel
theorem dX3_isWhole_18 : decode cX3_isWhole 18 = .ok (.aload_n 0, 1) := by decide +kernel
theorem dX3_isWhole_19 : decode cX3_isWhole 19 = .ok (.getfield 24, 3) := by decide +kernel
theorem dX3_isWhole_22 : decode cX3_isWhole 22 = .ok (.iload_n 2, 1) := by decide +kernel
theorem dX3_isWhole_23 : decode cX3_isWhole 23 = .ok (.iaload, 1) := by decide +kernel
theorem dX3_isWhole_24 : decode cX3_isWhole 24 = .ok (.iload_n 1, 1) := by decide +kernel
theorem dX3_isWhole_25 : decode cX3_isWhole 25 = .ok (.iconst (-1), 1) := by decide +kernel
theorem dX3_isWhole_26 : decode cX3_isWhole 26 = .ok (.ixor, 1) := by decide +kernel
theorem dX3_isWhole_27 : decode cX3_isWhole 27 = .ok (.iand, 1) := by decide +kernel
theorem dX3_isWhole_28 : decode cX3_isWhole 28 = .ok (.ifCond .eq 5, 3) := by decide +kernel
theorem dX3_isWhole_31 : decode cX3_isWhole 31 = .ok (.iconst 0, 1) := by decide +kernel
theorem dX3_isWhole_32 : decode cX3_isWhole 32 = .ok (.ireturn, 1) := by decide +kernel
theorem dX3_isWhole_33 : decode cX3_isWhole 33 = .ok (.iinc 2 1, 3) := by decide +kernel
theorem dX3_isWhole_36 : decode cX3_isWhole 36 = .ok (.goto (-34), 3) := by decide +kernel
theorem dX3_isWhole_39 : decode cX3_isWhole 39 = .ok (.iconst 1, 1) := by decide +kernel
theorem dX3_isWhole_40 : decode cX3_isWhole 40 = .ok (.ireturn, 1) := by decide +kernel
theorem dX4_boxesThatCarry_0 : decode cX4_boxesThatCarry 0 = .ok (.aload_n 0, 1) := by decide +kernel
theorem dX4_boxesThatCarry_1 : decode cX4_boxesThatCarry 1 = .ok (.getfield 12, 3) := by decide +kernel
theorem dX4_boxesThatCarry_4 : decode cX4_boxesThatCarry 4 = .ok (.aload_n 0, 1) := by decide +kernel
theorem dX4_boxesThatCarry_5 : decode cX4_boxesThatCarry 5 = .ok (.getfield 19, 3) := by decide +kernel
theorem dX4_boxesThatCarry_8 : decode cX4_boxesThatCarry 8 = .ok (.iload_n 1, 1) := by decide +kernel
theorem dX4_boxesThatCarry_9 : decode cX4_boxesThatCarry 9 = .ok (.invokevirtual 142, 3) := by decide +kernel
theorem dX4_boxesThatCarry_12 : decode cX4_boxesThatCarry 12 = .ok (.invokevirtual 145, 3) := by decide +kernel
theorem dX4_boxesThatCarry_15 : decode cX4_boxesThatCarry 15 = .ok (.aload_n 0, 1) := by decide +kernel
theorem dX4_boxesThatCarry_16 : decode cX4_boxesThatCarry 16 = .ok (.getfield 12, 3) := by decide +kernel
theorem dX4_boxesThatCarry_19 : decode cX4_boxesThatCarry 19 = .ok (.aload_n 0, 1) := by decide +kernel
theorem dX4_boxesThatCarry_20 : decode cX4_boxesThatCarry 20 = .ok (.getfield 19, 3) := by decide +kernel
theorem dX4_boxesThatCarry_23 : decode cX4_boxesThatCarry 23 = .ok (.iload_n 1, 1) := by decide +kernel
end
section
theorem dX4_boxesThatCarry_24 : decode cX4_boxesThatCarry 24 = .ok (.invokevirtual 128, 3) := by decide +kernel
theorem dX4_boxesThatCarry_27 : decode cX4_boxesThatCarry 27 = .ok (.invokevirtual 148, 3) := by decide +kernel
theorem dX4_boxesThatCarry_30 : decode cX4_boxesThatCarry 30 = .ok (.iand, 1) := by decide +kernel
theorem dX4_boxesThatCarry_31 : decode cX4_boxesThatCarry 31 = .ok (.aload_n 0, 1) := by decide +kernel
theorem dX4_boxesThatCarry_32 : decode cX4_boxesThatCarry 32 = .ok (.getfield 12, 3) := by decide +kernel
theorem dX4_boxesThatCarry_35 : decode cX4_boxesThatCarry 35 = .ok (.aload_n 0, 1) := by decide +kernel
theorem dX4_boxesThatCarry_36 : decode cX4_boxesThatCarry 36 = .ok (.getfield 19, 3) := by decide +kernel
theorem dX4_boxesThatCarry_39 : decode cX4_boxesThatCarry 39 = .ok (.iload_n 1, 1) := by decide +kernel
theorem dX4_boxesThatCarry_40 : decode cX4_boxesThatCarry 40 = .ok (.invokevirtual 131, 3) := by decide +kernel
theorem dX4_boxesThatCarry_43 : decode cX4_boxesThatCarry 43 = .ok (.invokevirtual 151, 3) := by decide +kernel
theorem dX4_boxesThatCarry_46 : decode cX4_boxesThatCarry 46 = .ok (.iand, 1) := by decide +kernel
theorem dX4_boxesThatCarry_47 : decode cX4_boxesThatCarry 47 = .ok (.ireturn, 1) := by decide +kernel
theorem dX3_kindsOf_0 : decode cX3_kindsOf 0 = .ok (.iconst 0, 1) := by decide +kernel
theorem dX3_kindsOf_1 : decode cX3_kindsOf 1 = .ok (.istore_n 2, 1) := by decide +kernel
theorem dX3_kindsOf_2 : decode cX3_kindsOf 2 = .ok (.iconst 0, 1) := by decide +kernel
theorem dX3_kindsOf_3 : decode cX3_kindsOf 3 = .ok (.istore_n 3, 1) := by decide +kernel
theorem dX3_kindsOf_4 : decode cX3_kindsOf 4 = .ok (.iload_n 3, 1) := by decide +kernel
theorem dX3_kindsOf_5 : decode cX3_kindsOf 5 = .ok (.aload_n 0, 1) := by decide +kernel
theorem dX3_kindsOf_6 : decode cX3_kindsOf 6 = .ok (.getfield 27, 3) := by decide +kernel
theorem dX3_kindsOf_9 : decode cX3_kindsOf 9 = .ok (.if_icmp .ge 28, 3) := by decide +kernel
theorem dX3_kindsOf_12 : decode cX3_kindsOf 12 = .ok (.iload_n 1, 1) := by decide +kernel
theorem dX3_kindsOf_13 : decode cX3_kindsOf 13 = .ok (.iload_n 3, 1) := by decide +kernel
theorem dX3_kindsOf_14 : decode cX3_kindsOf 14 = .ok (.invokestatic 39, 3) := by decide +kernel
theorem dX3_kindsOf_17 : decode cX3_kindsOf 17 = .ok (.ifCond .eq 14, 3) := by decide +kernel
theorem dX3_kindsOf_20 : decode cX3_kindsOf 20 = .ok (.iload_n 2, 1) := by decide +kernel
theorem dX3_kindsOf_21 : decode cX3_kindsOf 21 = .ok (.iconst 1, 1) := by decide +kernel
theorem dX3_kindsOf_22 : decode cX3_kindsOf 22 = .ok (.aload_n 0, 1) := by decide +kernel
theorem dX3_kindsOf_23 : decode cX3_kindsOf 23 = .ok (.getfield 18, 3) := by decide +kernel
theorem dX3_kindsOf_26 : decode cX3_kindsOf 26 = .ok (.iload_n 3, 1) := by decide +kernel
theorem dX3_kindsOf_27 : decode cX3_kindsOf 27 = .ok (.iaload, 1) := by decide +kernel
theorem dX3_kindsOf_28 : decode cX3_kindsOf 28 = .ok (.ishl, 1) := by decide +kernel
theorem dX3_kindsOf_29 : decode cX3_kindsOf 29 = .ok (.ior, 1) := by decide +kernel
theorem dX3_kindsOf_30 : decode cX3_kindsOf 30 = .ok (.istore_n 2, 1) := by decide +kernel
theorem dX3_kindsOf_31 : decode cX3_kindsOf 31 = .ok (.iinc 3 1, 3) := by decide +kernel
theorem dX3_kindsOf_34 : decode cX3_kindsOf 34 = .ok (.goto (-30), 3) := by decide +kernel
theorem dX3_kindsOf_37 : decode cX3_kindsOf 37 = .ok (.iload_n 2, 1) := by decide +kernel
theorem dX3_kindsOf_38 : decode cX3_kindsOf 38 = .ok (.ireturn, 1) := by decide +kernel
theorem dX0_thatTake_0 : decode cX0_thatTake 0 = .ok (.iconst 0, 1) := by decide +kernel
theorem dX0_thatTake_1 : decode cX0_thatTake 1 = .ok (.istore_n 2, 1) := by decide +kernel
theorem dX0_thatTake_2 : decode cX0_thatTake 2 = .ok (.iconst 0, 1) := by decide +kernel
theorem dX0_thatTake_3 : decode cX0_thatTake 3 = .ok (.istore_n 3, 1) := by decide +kernel
theorem dX0_thatTake_4 : decode cX0_thatTake 4 = .ok (.iload_n 3, 1) := by decide +kernel
theorem dX0_thatTake_5 : decode cX0_thatTake 5 = .ok (.aload_n 0, 1) := by decide +kernel
theorem dX0_thatTake_6 : decode cX0_thatTake 6 = .ok (.getfield 24, 3) := by decide +kernel
theorem dX0_thatTake_9 : decode cX0_thatTake 9 = .ok (.if_icmp .ge 28, 3) := by decide +kernel
theorem dX0_thatTake_12 : decode cX0_thatTake 12 = .ok (.iload_n 1, 1) := by decide +kernel
theorem dX0_thatTake_13 : decode cX0_thatTake 13 = .ok (.aload_n 0, 1) := by decide +kernel
theorem dX0_thatTake_14 : decode cX0_thatTake 14 = .ok (.getfield 21, 3) := by decide +kernel
theorem dX0_thatTake_17 : decode cX0_thatTake 17 = .ok (.iload_n 3, 1) := by decide +kernel
theorem dX0_thatTake_18 : decode cX0_thatTake 18 = .ok (.iaload, 1) := by decide +kernel
theorem dX0_thatTake_19 : decode cX0_thatTake 19 = .ok (.iconst (-1), 1) := by decide +kernel
theorem dX0_thatTake_20 : decode cX0_thatTake 20 = .ok (.ixor, 1) := by decide +kernel
theorem dX0_thatTake_21 : decode cX0_thatTake 21 = .ok (.iand, 1) := by decide +kernel
theorem dX0_thatTake_22 : decode cX0_thatTake 22 = .ok (.ifCond .ne 9, 3) := by decide +kernel
theorem dX0_thatTake_25 : decode cX0_thatTake 25 = .ok (.iload_n 2, 1) := by decide +kernel
theorem dX0_thatTake_26 : decode cX0_thatTake 26 = .ok (.iconst 1, 1) := by decide +kernel
theorem dX0_thatTake_27 : decode cX0_thatTake 27 = .ok (.iload_n 3, 1) := by decide +kernel
theorem dX0_thatTake_28 : decode cX0_thatTake 28 = .ok (.ishl, 1) := by decide +kernel
theorem dX0_thatTake_29 : decode cX0_thatTake 29 = .ok (.ior, 1) := by decide +kernel
theorem dX0_thatTake_30 : decode cX0_thatTake 30 = .ok (.istore_n 2, 1) := by decide +kernel
theorem dX0_thatTake_31 : decode cX0_thatTake 31 = .ok (.iinc 3 1, 3) := by decide +kernel
theorem dX0_thatTake_34 : decode cX0_thatTake 34 = .ok (.goto (-30), 3) := by decide +kernel
theorem dX0_thatTake_37 : decode cX0_thatTake 37 = .ok (.iload_n 2, 1) := by decide +kernel
theorem dX0_thatTake_38 : decode cX0_thatTake 38 = .ok (.ireturn, 1) := by decide +kernel
theorem dX3_sizeOf_0 : decode cX3_sizeOf 0 = .ok (.aload_n 0, 1) := by decide +kernel
theorem dX3_sizeOf_1 : decode cX3_sizeOf 1 = .ok (.aload_n 0, 1) := by decide +kernel
theorem dX3_sizeOf_2 : decode cX3_sizeOf 2 = .ok (.getfield 9, 3) := by decide +kernel
theorem dX3_sizeOf_5 : decode cX3_sizeOf 5 = .ok (.iload_n 1, 1) := by decide +kernel
theorem dX3_sizeOf_6 : decode cX3_sizeOf 6 = .ok (.invokevirtual 51, 3) := by decide +kernel
theorem dX3_sizeOf_9 : decode cX3_sizeOf 9 = .ok (.ireturn, 1) := by decide +kernel
theorem dX3_sumOf_0 : decode cX3_sumOf 0 = .ok (.iconst 0, 1) := by decide +kernel
theorem dX3_sumOf_1 : decode cX3_sumOf 1 = .ok (.istore_n 3, 1) := by decide +kernel
theorem dX3_sumOf_2 : decode cX3_sumOf 2 = .ok (.iconst 0, 1) := by decide +kernel
theorem dX3_sumOf_3 : decode cX3_sumOf 3 = .ok (.istore 4, 2) := by decide +kernel
theorem dX3_sumOf_5 : decode cX3_sumOf 5 = .ok (.iload 4, 2) := by decide +kernel
theorem dX3_sumOf_7 : decode cX3_sumOf 7 = .ok (.aload_n 0, 1) := by decide +kernel
theorem dX3_sumOf_8 : decode cX3_sumOf 8 = .ok (.getfield 27, 3) := by decide +kernel
theorem dX3_sumOf_11 : decode cX3_sumOf 11 = .ok (.if_icmp .ge 25, 3) := by decide +kernel
theorem dX3_sumOf_14 : decode cX3_sumOf 14 = .ok (.iload_n 2, 1) := by decide +kernel
theorem dX3_sumOf_15 : decode cX3_sumOf 15 = .ok (.iload 4, 2) := by decide +kernel
theorem dX3_sumOf_17 : decode cX3_sumOf 17 = .ok (.invokestatic 39, 3) := by decide +kernel
theorem dX3_sumOf_20 : decode cX3_sumOf 20 = .ok (.ifCond .eq 10, 3) := by decide +kernel
theorem dX3_sumOf_23 : decode cX3_sumOf 23 = .ok (.iload_n 3, 1) := by decide +kernel
theorem dX3_sumOf_24 : decode cX3_sumOf 24 = .ok (.aload_n 1, 1) := by decide +kernel
theorem dX3_sumOf_25 : decode cX3_sumOf 25 = .ok (.iload 4, 2) := by decide +kernel
theorem dX3_sumOf_27 : decode cX3_sumOf 27 = .ok (.iaload, 1) := by decide +kernel
theorem dX3_sumOf_28 : decode cX3_sumOf 28 = .ok (.iadd, 1) := by decide +kernel
theorem dX3_sumOf_29 : decode cX3_sumOf 29 = .ok (.istore_n 3, 1) := by decide +kernel
theorem dX3_sumOf_30 : decode cX3_sumOf 30 = .ok (.iinc 4 1, 3) := by decide +kernel
theorem dX3_sumOf_33 : decode cX3_sumOf 33 = .ok (.goto (-28), 3) := by decide +kernel
theorem dX3_sumOf_36 : decode cX3_sumOf 36 = .ok (.iload_n 3, 1) := by decide +kernel
theorem dX3_sumOf_37 : decode cX3_sumOf 37 = .ok (.ireturn, 1) := by decide +kernel
theorem dX0_withRoomFor_0 : decode cX0_withRoomFor 0 = .ok (.aload_n 0, 1) := by decide +kernel
theorem dX0_withRoomFor_1 : decode cX0_withRoomFor 1 = .ok (.aload_n 0, 1) := by decide +kernel
theorem dX0_withRoomFor_2 : decode cX0_withRoomFor 2 = .ok (.getfield 9, 3) := by decide +kernel
theorem dX0_withRoomFor_5 : decode cX0_withRoomFor 5 = .ok (.iload_n 1, 1) := by decide +kernel
theorem dX0_withRoomFor_6 : decode cX0_withRoomFor 6 = .ok (.aload_n 0, 1) := by decide +kernel
theorem dX0_withRoomFor_7 : decode cX0_withRoomFor 7 = .ok (.getfield 32, 3) := by decide +kernel
theorem dX0_withRoomFor_10 : decode cX0_withRoomFor 10 = .ok (.iadd, 1) := by decide +kernel
theorem dX0_withRoomFor_11 : decode cX0_withRoomFor 11 = .ok (.invokevirtual 39, 3) := by decide +kernel
theorem dX0_withRoomFor_14 : decode cX0_withRoomFor 14 = .ok (.ireturn, 1) := by decide +kernel
theorem dX0_withAtLeast_0 : decode cX0_withAtLeast 0 = .ok (.iconst 0, 1) := by decide +kernel
theorem dX0_withAtLeast_1 : decode cX0_withAtLeast 1 = .ok (.istore_n 3, 1) := by decide +kernel
theorem dX0_withAtLeast_2 : decode cX0_withAtLeast 2 = .ok (.iconst 0, 1) := by decide +kernel
theorem dX0_withAtLeast_3 : decode cX0_withAtLeast 3 = .ok (.istore 4, 2) := by decide +kernel
theorem dX0_withAtLeast_5 : decode cX0_withAtLeast 5 = .ok (.iload 4, 2) := by decide +kernel
theorem dX0_withAtLeast_7 : decode cX0_withAtLeast 7 = .ok (.aload_n 0, 1) := by decide +kernel
theorem dX0_withAtLeast_8 : decode cX0_withAtLeast 8 = .ok (.getfield 24, 3) := by decide +kernel
theorem dX0_withAtLeast_11 : decode cX0_withAtLeast 11 = .ok (.if_icmp .ge 24, 3) := by decide +kernel
theorem dX0_withAtLeast_14 : decode cX0_withAtLeast 14 = .ok (.aload_n 1, 1) := by decide +kernel
theorem dX0_withAtLeast_15 : decode cX0_withAtLeast 15 = .ok (.iload 4, 2) := by decide +kernel
theorem dX0_withAtLeast_17 : decode cX0_withAtLeast 17 = .ok (.iaload, 1) := by decide +kernel
theorem dX0_withAtLeast_18 : decode cX0_withAtLeast 18 = .ok (.iload_n 2, 1) := by decide +kernel
theorem dX0_withAtLeast_19 : decode cX0_withAtLeast 19 = .ok (.if_icmp .lt 10, 3) := by decide +kernel
theorem dX0_withAtLeast_22 : decode cX0_withAtLeast 22 = .ok (.iload_n 3, 1) := by decide +kernel
theorem dX0_withAtLeast_23 : decode cX0_withAtLeast 23 = .ok (.iconst 1, 1) := by decide +kernel
theorem dX0_withAtLeast_24 : decode cX0_withAtLeast 24 = .ok (.iload 4, 2) := by decide +kernel
theorem dX0_withAtLeast_26 : decode cX0_withAtLeast 26 = .ok (.ishl, 1) := by decide +kernel
theorem dX0_withAtLeast_27 : decode cX0_withAtLeast 27 = .ok (.ior, 1) := by decide +kernel
theorem dX0_withAtLeast_28 : decode cX0_withAtLeast 28 = .ok (.istore_n 3, 1) := by decide +kernel
theorem dX0_withAtLeast_29 : decode cX0_withAtLeast 29 = .ok (.iinc 4 1, 3) := by decide +kernel
theorem dX0_withAtLeast_32 : decode cX0_withAtLeast 32 = .ok (.goto (-27), 3) := by decide +kernel
theorem dX0_withAtLeast_35 : decode cX0_withAtLeast 35 = .ok (.iload_n 3, 1) := by decide +kernel
theorem dX0_withAtLeast_36 : decode cX0_withAtLeast 36 = .ok (.ireturn, 1) := by decide +kernel
theorem dX3_weightOf_0 : decode cX3_weightOf 0 = .ok (.aload_n 0, 1) := by decide +kernel
theorem dX3_weightOf_1 : decode cX3_weightOf 1 = .ok (.aload_n 0, 1) := by decide +kernel
theorem dX3_weightOf_2 : decode cX3_weightOf 2 = .ok (.getfield 15, 3) := by decide +kernel
theorem dX3_weightOf_5 : decode cX3_weightOf 5 = .ok (.iload_n 1, 1) := by decide +kernel
theorem dX3_weightOf_6 : decode cX3_weightOf 6 = .ok (.invokevirtual 51, 3) := by decide +kernel
theorem dX3_weightOf_9 : decode cX3_weightOf 9 = .ok (.ireturn, 1) := by decide +kernel
theorem dX0_thatBear_0 : decode cX0_thatBear 0 = .ok (.aload_n 0, 1) := by decide +kernel
theorem dX0_thatBear_1 : decode cX0_thatBear 1 = .ok (.aload_n 0, 1) := by decide +kernel
theorem dX0_thatBear_2 : decode cX0_thatBear 2 = .ok (.getfield 15, 3) := by decide +kernel
theorem dX0_thatBear_5 : decode cX0_thatBear 5 = .ok (.iload_n 1, 1) := by decide +kernel
theorem dX0_thatBear_6 : decode cX0_thatBear 6 = .ok (.invokevirtual 39, 3) := by decide +kernel
theorem dX0_thatBear_9 : decode cX0_thatBear 9 = .ok (.ireturn, 1) := by decide +kernel
theorem dX0_cheapestOf_0 : decode cX0_cheapestOf 0 = .ok (.iconst (-1), 1) := by decide +kernel
theorem dX0_cheapestOf_1 : decode cX0_cheapestOf 1 = .ok (.istore_n 2, 1) := by decide +kernel
theorem dX0_cheapestOf_2 : decode cX0_cheapestOf 2 = .ok (.iconst 0, 1) := by decide +kernel
theorem dX0_cheapestOf_3 : decode cX0_cheapestOf 3 = .ok (.istore_n 3, 1) := by decide +kernel
theorem dX0_cheapestOf_4 : decode cX0_cheapestOf 4 = .ok (.iload_n 3, 1) := by decide +kernel
theorem dX0_cheapestOf_5 : decode cX0_cheapestOf 5 = .ok (.aload_n 0, 1) := by decide +kernel
theorem dX0_cheapestOf_6 : decode cX0_cheapestOf 6 = .ok (.getfield 24, 3) := by decide +kernel
theorem dX0_cheapestOf_9 : decode cX0_cheapestOf 9 = .ok (.if_icmp .ge 38, 3) := by decide +kernel
theorem dX0_cheapestOf_12 : decode cX0_cheapestOf 12 = .ok (.iload_n 1, 1) := by decide +kernel
theorem dX0_cheapestOf_13 : decode cX0_cheapestOf 13 = .ok (.iload_n 3, 1) := by decide +kernel
theorem dX0_cheapestOf_14 : decode cX0_cheapestOf 14 = .ok (.invokestatic 43, 3) := by decide +kernel
theorem dX0_cheapestOf_17 : decode cX0_cheapestOf 17 = .ok (.ifCond .eq 24, 3) := by decide +kernel
theorem dX0_cheapestOf_20 : decode cX0_cheapestOf 20 = .ok (.iload_n 2, 1) := by decide +kernel
theorem dX0_cheapestOf_21 : decode cX0_cheapestOf 21 = .ok (.iconst (-1), 1) := by decide +kernel
theorem dX0_cheapestOf_22 : decode cX0_cheapestOf 22 = .ok (.if_icmp .eq 17, 3) := by decide +kernel
theorem dX0_cheapestOf_25 : decode cX0_cheapestOf 25 = .ok (.aload_n 0, 1) := by decide +kernel
theorem dX0_cheapestOf_26 : decode cX0_cheapestOf 26 = .ok (.getfield 18, 3) := by decide +kernel
theorem dX0_cheapestOf_29 : decode cX0_cheapestOf 29 = .ok (.iload_n 3, 1) := by decide +kernel
theorem dX0_cheapestOf_30 : decode cX0_cheapestOf 30 = .ok (.iaload, 1) := by decide +kernel
theorem dX0_cheapestOf_31 : decode cX0_cheapestOf 31 = .ok (.aload_n 0, 1) := by decide +kernel
theorem dX0_cheapestOf_32 : decode cX0_cheapestOf 32 = .ok (.iload_n 2, 1) := by decide +kernel
theorem dX0_cheapestOf_33 : decode cX0_cheapestOf 33 = .ok (.invokevirtual 47, 3) := by decide +kernel
theorem dX0_cheapestOf_36 : decode cX0_cheapestOf 36 = .ok (.if_icmp .ge 5, 3) := by decide +kernel
theorem dX0_cheapestOf_39 : decode cX0_cheapestOf 39 = .ok (.iload_n 3, 1) := by decide +kernel
theorem dX0_cheapestOf_40 : decode cX0_cheapestOf 40 = .ok (.istore_n 2, 1) := by decide +kernel
theorem dX0_cheapestOf_41 : decode cX0_cheapestOf 41 = .ok (.iinc 3 1, 3) := by decide +kernel
theorem dX0_cheapestOf_44 : decode cX0_cheapestOf 44 = .ok (.goto (-40), 3) := by decide +kernel
theorem dX0_cheapestOf_47 : decode cX0_cheapestOf 47 = .ok (.iload_n 2, 1) := by decide +kernel
theorem dX0_cheapestOf_48 : decode cX0_cheapestOf 48 = .ok (.ireturn, 1) := by decide +kernel
theorem dX0_costOf_0 : decode cX0_costOf 0 = .ok (.aload_n 0, 1) := by decide +kernel
theorem dX0_costOf_1 : decode cX0_costOf 1 = .ok (.iload_n 1, 1) := by decide +kernel
theorem dX0_costOf_2 : decode cX0_costOf 2 = .ok (.invokevirtual 35, 3) := by decide +kernel
theorem dX0_costOf_5 : decode cX0_costOf 5 = .ok (.ifCond .eq 12, 3) := by decide +kernel
theorem dX0_costOf_8 : decode cX0_costOf 8 = .ok (.aload_n 0, 1) := by decide +kernel
theorem dX0_costOf_9 : decode cX0_costOf 9 = .ok (.getfield 18, 3) := by decide +kernel
theorem dX0_costOf_12 : decode cX0_costOf 12 = .ok (.iload_n 1, 1) := by decide +kernel
theorem dX0_costOf_13 : decode cX0_costOf 13 = .ok (.iaload, 1) := by decide +kernel
theorem dX0_costOf_14 : decode cX0_costOf 14 = .ok (.goto 4, 3) := by decide +kernel
theorem dX0_costOf_17 : decode cX0_costOf 17 = .ok (.iconst 0, 1) := by decide +kernel
theorem dX0_costOf_18 : decode cX0_costOf 18 = .ok (.ireturn, 1) := by decide +kernel
theorem dX0_has_0 : decode cX0_has 0 = .ok (.iload_n 1, 1) := by decide +kernel
theorem dX0_has_1 : decode cX0_has 1 = .ok (.ifCond .lt 15, 3) := by decide +kernel
theorem dX0_has_4 : decode cX0_has 4 = .ok (.iload_n 1, 1) := by decide +kernel
theorem dX0_has_5 : decode cX0_has 5 = .ok (.aload_n 0, 1) := by decide +kernel
theorem dX0_has_6 : decode cX0_has 6 = .ok (.getfield 24, 3) := by decide +kernel
theorem dX0_has_9 : decode cX0_has 9 = .ok (.if_icmp .ge 7, 3) := by decide +kernel
theorem dX0_has_12 : decode cX0_has 12 = .ok (.iconst 1, 1) := by decide +kernel
theorem dX0_has_13 : decode cX0_has 13 = .ok (.goto 4, 3) := by decide +kernel
theorem dX0_has_16 : decode cX0_has 16 = .ok (.iconst 0, 1) := by decide +kernel
theorem dX0_has_17 : decode cX0_has 17 = .ok (.ireturn, 1) := by decide +kernel
theorem dX2_offer_0 : decode cX2_offer 0 = .ok (.iload_n 1, 1) := by decide +kernel
theorem dX2_offer_1 : decode cX2_offer 1 = .ok (.ifCond .le 23, 3) := by decide +kernel
theorem dX2_offer_4 : decode cX2_offer 4 = .ok (.iload_n 1, 1) := by decide +kernel
theorem dX2_offer_5 : decode cX2_offer 5 = .ok (.bipush 64, 2) := by decide +kernel
theorem dX2_offer_7 : decode cX2_offer 7 = .ok (.if_icmp .ge 17, 3) := by decide +kernel
theorem dX2_offer_10 : decode cX2_offer 10 = .ok (.aload_n 0, 1) := by decide +kernel
theorem dX2_offer_11 : decode cX2_offer 11 = .ok (.getfield 9, 3) := by decide +kernel
theorem dX2_offer_14 : decode cX2_offer 14 = .ok (.iload_n 1, 1) := by decide +kernel
theorem dX2_offer_15 : decode cX2_offer 15 = .ok (.iload_n 2, 1) := by decide +kernel
theorem dX2_offer_16 : decode cX2_offer 16 = .ok (.iastore, 1) := by decide +kernel
theorem dX2_offer_17 : decode cX2_offer 17 = .ok (.aload_n 0, 1) := by decide +kernel
theorem dX2_offer_18 : decode cX2_offer 18 = .ok (.getfield 15, 3) := by decide +kernel
theorem dX2_offer_21 : decode cX2_offer 21 = .ok (.iload_n 1, 1) := by decide +kernel
theorem dX2_offer_22 : decode cX2_offer 22 = .ok (.iload_n 3, 1) := by decide +kernel
theorem dX2_offer_23 : decode cX2_offer 23 = .ok (.iastore, 1) := by decide +kernel
theorem dX2_offer_24 : decode cX2_offer 24 = .ok (.return_, 1) := by decide +kernel
theorem dX2_putBest_0 : decode cX2_putBest 0 = .ok (.iload_n 1, 1) := by decide +kernel
theorem dX2_putBest_1 : decode cX2_putBest 1 = .ok (.ifCond .lt 13, 3) := by decide +kernel
theorem dX2_putBest_4 : decode cX2_putBest 4 = .ok (.iload_n 1, 1) := by decide +kernel
theorem dX2_putBest_5 : decode cX2_putBest 5 = .ok (.bipush 64, 2) := by decide +kernel
theorem dX2_putBest_7 : decode cX2_putBest 7 = .ok (.if_icmp .ge 7, 3) := by decide +kernel
theorem dX2_putBest_10 : decode cX2_putBest 10 = .ok (.aload_n 2, 1) := by decide +kernel
theorem dX2_putBest_11 : decode cX2_putBest 11 = .ok (.ifnonnull 5, 3) := by decide +kernel
theorem dX2_putBest_14 : decode cX2_putBest 14 = .ok (.iconst 0, 1) := by decide +kernel
theorem dX2_putBest_15 : decode cX2_putBest 15 = .ok (.ireturn, 1) := by decide +kernel
theorem dX2_putBest_16 : decode cX2_putBest 16 = .ok (.iconst 1, 1) := by decide +kernel
theorem dX2_putBest_17 : decode cX2_putBest 17 = .ok (.istore_n 3, 1) := by decide +kernel
theorem dX2_putBest_18 : decode cX2_putBest 18 = .ok (.iload_n 3, 1) := by decide +kernel
theorem dX2_putBest_19 : decode cX2_putBest 19 = .ok (.iload_n 1, 1) := by decide +kernel
theorem dX2_putBest_20 : decode cX2_putBest 20 = .ok (.if_icmp .gt 14, 3) := by decide +kernel
theorem dX2_putBest_23 : decode cX2_putBest 23 = .ok (.aload_n 0, 1) := by decide +kernel
theorem dX2_putBest_24 : decode cX2_putBest 24 = .ok (.iload_n 3, 1) := by decide +kernel
theorem dX2_putBest_25 : decode cX2_putBest 25 = .ok (.invokevirtual 27, 3) := by decide +kernel
theorem dX2_putBest_28 : decode cX2_putBest 28 = .ok (.iinc 3 1, 3) := by decide +kernel
theorem dX2_putBest_31 : decode cX2_putBest 31 = .ok (.goto (-13), 3) := by decide +kernel
theorem dX2_putBest_34 : decode cX2_putBest 34 = .ok (.aload_n 0, 1) := by decide +kernel
theorem dX2_putBest_35 : decode cX2_putBest 35 = .ok (.getfield 18, 3) := by decide +kernel
theorem dX2_putBest_38 : decode cX2_putBest 38 = .ok (.iload_n 1, 1) := by decide +kernel
theorem dX2_putBest_39 : decode cX2_putBest 39 = .ok (.iaload, 1) := by decide +kernel
theorem dX2_putBest_40 : decode cX2_putBest 40 = .ok (.iconst (-1), 1) := by decide +kernel
theorem dX2_putBest_41 : decode cX2_putBest 41 = .ok (.if_icmp .ne 5, 3) := by decide +kernel
theorem dX2_putBest_44 : decode cX2_putBest 44 = .ok (.iconst 0, 1) := by decide +kernel
theorem dX2_putBest_45 : decode cX2_putBest 45 = .ok (.ireturn, 1) := by decide +kernel
theorem dX2_putBest_46 : decode cX2_putBest 46 = .ok (.iload_n 1, 1) := by decide +kernel
theorem dX2_putBest_47 : decode cX2_putBest 47 = .ok (.istore_n 3, 1) := by decide +kernel
theorem dX2_putBest_48 : decode cX2_putBest 48 = .ok (.iconst 0, 1) := by decide +kernel
theorem dX2_putBest_49 : decode cX2_putBest 49 = .ok (.istore 4, 2) := by decide +kernel
theorem dX2_putBest_51 : decode cX2_putBest 51 = .ok (.iload 4, 2) := by decide +kernel
theorem dX2_putBest_53 : decode cX2_putBest 53 = .ok (.bipush 6, 2) := by decide +kernel
theorem dX2_putBest_55 : decode cX2_putBest 55 = .ok (.if_icmp .ge 48, 3) := by decide +kernel
theorem dX2_putBest_58 : decode cX2_putBest 58 = .ok (.iload_n 3, 1) := by decide +kernel
theorem dX2_putBest_59 : decode cX2_putBest 59 = .ok (.ifCond .le 44, 3) := by decide +kernel
theorem dX2_putBest_62 : decode cX2_putBest 62 = .ok (.aload_n 0, 1) := by decide +kernel
theorem dX2_putBest_63 : decode cX2_putBest 63 = .ok (.getfield 24, 3) := by decide +kernel
theorem dX2_putBest_66 : decode cX2_putBest 66 = .ok (.iload_n 3, 1) := by decide +kernel
theorem dX2_putBest_67 : decode cX2_putBest 67 = .ok (.iaload, 1) := by decide +kernel
theorem dX2_putBest_68 : decode cX2_putBest 68 = .ok (.istore 5, 2) := by decide +kernel
theorem dX2_putBest_70 : decode cX2_putBest 70 = .ok (.aload_n 2, 1) := by decide +kernel
theorem dX2_putBest_71 : decode cX2_putBest 71 = .ok (.aload_n 0, 1) := by decide +kernel
theorem dX2_putBest_72 : decode cX2_putBest 72 = .ok (.getfield 9, 3) := by decide +kernel
theorem dX2_putBest_75 : decode cX2_putBest 75 = .ok (.iload 5, 2) := by decide +kernel
theorem dX2_putBest_77 : decode cX2_putBest 77 = .ok (.iaload, 1) := by decide +kernel
theorem dX2_putBest_78 : decode cX2_putBest 78 = .ok (.iload 5, 2) := by decide +kernel
theorem dX2_putBest_80 : decode cX2_putBest 80 = .ok (.aload_n 0, 1) := by decide +kernel
theorem dX2_putBest_81 : decode cX2_putBest 81 = .ok (.getfield 15, 3) := by decide +kernel
theorem dX2_putBest_84 : decode cX2_putBest 84 = .ok (.iload 5, 2) := by decide +kernel
theorem dX2_putBest_86 : decode cX2_putBest 86 = .ok (.iaload, 1) := by decide +kernel
theorem dX2_putBest_87 : decode cX2_putBest 87 = .ok (.invokevirtual 31, 3) := by decide +kernel
theorem dX2_putBest_90 : decode cX2_putBest 90 = .ok (.iload_n 3, 1) := by decide +kernel
theorem dX2_putBest_91 : decode cX2_putBest 91 = .ok (.iload 5, 2) := by decide +kernel
theorem dX2_putBest_93 : decode cX2_putBest 93 = .ok (.iconst (-1), 1) := by decide +kernel
theorem dX2_putBest_94 : decode cX2_putBest 94 = .ok (.ixor, 1) := by decide +kernel
theorem dX2_putBest_95 : decode cX2_putBest 95 = .ok (.iand, 1) := by decide +kernel
theorem dX2_putBest_96 : decode cX2_putBest 96 = .ok (.istore_n 3, 1) := by decide +kernel
theorem dX2_putBest_97 : decode cX2_putBest 97 = .ok (.iinc 4 1, 3) := by decide +kernel
theorem dX2_putBest_100 : decode cX2_putBest 100 = .ok (.goto (-49), 3) := by decide +kernel
theorem dX2_putBest_103 : decode cX2_putBest 103 = .ok (.iconst 1, 1) := by decide +kernel
theorem dX2_putBest_104 : decode cX2_putBest 104 = .ok (.ireturn, 1) := by decide +kernel
theorem dX2_findBest_0 : decode cX2_findBest 0 = .ok (.iload_n 1, 1) := by decide +kernel
theorem dX2_findBest_1 : decode cX2_findBest 1 = .ok (.iload_n 1, 1) := by decide +kernel
theorem dX2_findBest_2 : decode cX2_findBest 2 = .ok (.ineg, 1) := by decide +kernel
theorem dX2_findBest_3 : decode cX2_findBest 3 = .ok (.iand, 1) := by decide +kernel
theorem dX2_findBest_4 : decode cX2_findBest 4 = .ok (.istore_n 2, 1) := by decide +kernel
theorem dX2_findBest_5 : decode cX2_findBest 5 = .ok (.iload_n 2, 1) := by decide +kernel
theorem dX2_findBest_6 : decode cX2_findBest 6 = .ok (.istore_n 3, 1) := by decide +kernel
theorem dX2_findBest_7 : decode cX2_findBest 7 = .ok (.iload_n 3, 1) := by decide +kernel
theorem dX2_findBest_8 : decode cX2_findBest 8 = .ok (.iload_n 1, 1) := by decide +kernel
theorem dX2_findBest_9 : decode cX2_findBest 9 = .ok (.if_icmp .gt 39, 3) := by decide +kernel
theorem dX2_findBest_12 : decode cX2_findBest 12 = .ok (.iload_n 3, 1) := by decide +kernel
theorem dX2_findBest_13 : decode cX2_findBest 13 = .ok (.iload_n 1, 1) := by decide +kernel
theorem dX2_findBest_14 : decode cX2_findBest 14 = .ok (.iconst (-1), 1) := by decide +kernel
theorem dX2_findBest_15 : decode cX2_findBest 15 = .ok (.ixor, 1) := by decide +kernel
theorem dX2_findBest_16 : decode cX2_findBest 16 = .ok (.iand, 1) := by decide +kernel
theorem dX2_findBest_17 : decode cX2_findBest 17 = .ok (.ifCond .ne 25, 3) := by decide +kernel
theorem dX2_findBest_20 : decode cX2_findBest 20 = .ok (.iload_n 3, 1) := by decide +kernel
theorem dX2_findBest_21 : decode cX2_findBest 21 = .ok (.iload_n 2, 1) := by decide +kernel
theorem dX2_findBest_22 : decode cX2_findBest 22 = .ok (.iand, 1) := by decide +kernel
theorem dX2_findBest_23 : decode cX2_findBest 23 = .ok (.ifCond .eq 19, 3) := by decide +kernel
theorem dX2_findBest_26 : decode cX2_findBest 26 = .ok (.aload_n 0, 1) := by decide +kernel
theorem dX2_findBest_27 : decode cX2_findBest 27 = .ok (.getfield 9, 3) := by decide +kernel
theorem dX2_findBest_30 : decode cX2_findBest 30 = .ok (.iload_n 3, 1) := by decide +kernel
theorem dX2_findBest_31 : decode cX2_findBest 31 = .ok (.iaload, 1) := by decide +kernel
theorem dX2_findBest_32 : decode cX2_findBest 32 = .ok (.iconst (-1), 1) := by decide +kernel
theorem dX2_findBest_33 : decode cX2_findBest 33 = .ok (.if_icmp .eq 9, 3) := by decide +kernel
theorem dX2_findBest_36 : decode cX2_findBest 36 = .ok (.aload_n 0, 1) := by decide +kernel
theorem dX2_findBest_37 : decode cX2_findBest 37 = .ok (.iload_n 1, 1) := by decide +kernel
theorem dX2_findBest_38 : decode cX2_findBest 38 = .ok (.iload_n 3, 1) := by decide +kernel
theorem dX2_findBest_39 : decode cX2_findBest 39 = .ok (.invokevirtual 37, 3) := by decide +kernel
theorem dX2_findBest_42 : decode cX2_findBest 42 = .ok (.iinc 3 1, 3) := by decide +kernel
theorem dX2_findBest_45 : decode cX2_findBest 45 = .ok (.goto (-38), 3) := by decide +kernel
theorem dX2_findBest_48 : decode cX2_findBest 48 = .ok (.return_, 1) := by decide +kernel
theorem dX2_tryFirst_0 : decode cX2_tryFirst 0 = .ok (.iload_n 1, 1) := by decide +kernel
theorem dX2_tryFirst_1 : decode cX2_tryFirst 1 = .ok (.iload_n 2, 1) := by decide +kernel
theorem dX2_tryFirst_2 : decode cX2_tryFirst 2 = .ok (.iconst (-1), 1) := by decide +kernel
theorem dX2_tryFirst_3 : decode cX2_tryFirst 3 = .ok (.ixor, 1) := by decide +kernel
theorem dX2_tryFirst_4 : decode cX2_tryFirst 4 = .ok (.iand, 1) := by decide +kernel
theorem dX2_tryFirst_5 : decode cX2_tryFirst 5 = .ok (.istore_n 3, 1) := by decide +kernel
theorem dX2_tryFirst_6 : decode cX2_tryFirst 6 = .ok (.aload_n 0, 1) := by decide +kernel
theorem dX2_tryFirst_7 : decode cX2_tryFirst 7 = .ok (.getfield 18, 3) := by decide +kernel
theorem dX2_tryFirst_10 : decode cX2_tryFirst 10 = .ok (.iload_n 3, 1) := by decide +kernel
theorem dX2_tryFirst_11 : decode cX2_tryFirst 11 = .ok (.iaload, 1) := by decide +kernel
theorem dX2_tryFirst_12 : decode cX2_tryFirst 12 = .ok (.iconst (-1), 1) := by decide +kernel
theorem dX2_tryFirst_13 : decode cX2_tryFirst 13 = .ok (.if_icmp .ne 4, 3) := by decide +kernel
theorem dX2_tryFirst_16 : decode cX2_tryFirst 16 = .ok (.return_, 1) := by decide +kernel
theorem dX2_tryFirst_17 : decode cX2_tryFirst 17 = .ok (.aload_n 0, 1) := by decide +kernel
theorem dX2_tryFirst_18 : decode cX2_tryFirst 18 = .ok (.getfield 15, 3) := by decide +kernel
theorem dX2_tryFirst_21 : decode cX2_tryFirst 21 = .ok (.iload_n 2, 1) := by decide +kernel
theorem dX2_tryFirst_22 : decode cX2_tryFirst 22 = .ok (.iaload, 1) := by decide +kernel
theorem dX2_tryFirst_23 : decode cX2_tryFirst 23 = .ok (.aload_n 0, 1) := by decide +kernel
theorem dX2_tryFirst_24 : decode cX2_tryFirst 24 = .ok (.getfield 18, 3) := by decide +kernel
theorem dX2_tryFirst_27 : decode cX2_tryFirst 27 = .ok (.iload_n 3, 1) := by decide +kernel
theorem dX2_tryFirst_28 : decode cX2_tryFirst 28 = .ok (.iaload, 1) := by decide +kernel
theorem dX2_tryFirst_29 : decode cX2_tryFirst 29 = .ok (.iadd, 1) := by decide +kernel
theorem dX2_tryFirst_30 : decode cX2_tryFirst 30 = .ok (.istore 4, 2) := by decide +kernel
theorem dX2_tryFirst_32 : decode cX2_tryFirst 32 = .ok (.iconst 1, 1) := by decide +kernel
theorem dX2_tryFirst_33 : decode cX2_tryFirst 33 = .ok (.aload_n 0, 1) := by decide +kernel
theorem dX2_tryFirst_34 : decode cX2_tryFirst 34 = .ok (.getfield 21, 3) := by decide +kernel
theorem dX2_tryFirst_37 : decode cX2_tryFirst 37 = .ok (.iload_n 3, 1) := by decide +kernel
theorem dX2_tryFirst_38 : decode cX2_tryFirst 38 = .ok (.iaload, 1) := by decide +kernel
theorem dX2_tryFirst_39 : decode cX2_tryFirst 39 = .ok (.iadd, 1) := by decide +kernel
theorem dX2_tryFirst_40 : decode cX2_tryFirst 40 = .ok (.istore 5, 2) := by decide +kernel
theorem dX2_tryFirst_42 : decode cX2_tryFirst 42 = .ok (.aload_n 0, 1) := by decide +kernel
theorem dX2_tryFirst_43 : decode cX2_tryFirst 43 = .ok (.iload_n 1, 1) := by decide +kernel
theorem dX2_tryFirst_44 : decode cX2_tryFirst 44 = .ok (.iload_n 2, 1) := by decide +kernel
theorem dX2_tryFirst_45 : decode cX2_tryFirst 45 = .ok (.iload 4, 2) := by decide +kernel
theorem dX2_tryFirst_47 : decode cX2_tryFirst 47 = .ok (.iload 5, 2) := by decide +kernel
theorem dX2_tryFirst_49 : decode cX2_tryFirst 49 = .ok (.invokevirtual 41, 3) := by decide +kernel
theorem dX2_tryFirst_52 : decode cX2_tryFirst 52 = .ok (.ifCond .eq 26, 3) := by decide +kernel
theorem dX2_tryFirst_55 : decode cX2_tryFirst 55 = .ok (.aload_n 0, 1) := by decide +kernel
theorem dX2_tryFirst_56 : decode cX2_tryFirst 56 = .ok (.getfield 18, 3) := by decide +kernel
theorem dX2_tryFirst_59 : decode cX2_tryFirst 59 = .ok (.iload_n 1, 1) := by decide +kernel
theorem dX2_tryFirst_60 : decode cX2_tryFirst 60 = .ok (.iload 4, 2) := by decide +kernel
theorem dX2_tryFirst_62 : decode cX2_tryFirst 62 = .ok (.iastore, 1) := by decide +kernel
theorem dX2_tryFirst_63 : decode cX2_tryFirst 63 = .ok (.aload_n 0, 1) := by decide +kernel
theorem dX2_tryFirst_64 : decode cX2_tryFirst 64 = .ok (.getfield 21, 3) := by decide +kernel
theorem dX2_tryFirst_67 : decode cX2_tryFirst 67 = .ok (.iload_n 1, 1) := by decide +kernel
theorem dX2_tryFirst_68 : decode cX2_tryFirst 68 = .ok (.iload 5, 2) := by decide +kernel
theorem dX2_tryFirst_70 : decode cX2_tryFirst 70 = .ok (.iastore, 1) := by decide +kernel
theorem dX2_tryFirst_71 : decode cX2_tryFirst 71 = .ok (.aload_n 0, 1) := by decide +kernel
theorem dX2_tryFirst_72 : decode cX2_tryFirst 72 = .ok (.getfield 24, 3) := by decide +kernel
theorem dX2_tryFirst_75 : decode cX2_tryFirst 75 = .ok (.iload_n 1, 1) := by decide +kernel
theorem dX2_tryFirst_76 : decode cX2_tryFirst 76 = .ok (.iload_n 2, 1) := by decide +kernel
theorem dX2_tryFirst_77 : decode cX2_tryFirst 77 = .ok (.iastore, 1) := by decide +kernel
theorem dX2_tryFirst_78 : decode cX2_tryFirst 78 = .ok (.return_, 1) := by decide +kernel
theorem dX2_isBetter_0 : decode cX2_isBetter 0 = .ok (.aload_n 0, 1) := by decide +kernel
theorem dX2_isBetter_1 : decode cX2_isBetter 1 = .ok (.getfield 18, 3) := by decide +kernel
theorem dX2_isBetter_4 : decode cX2_isBetter 4 = .ok (.iload_n 1, 1) := by decide +kernel
theorem dX2_isBetter_5 : decode cX2_isBetter 5 = .ok (.iaload, 1) := by decide +kernel
theorem dX2_isBetter_6 : decode cX2_isBetter 6 = .ok (.iconst (-1), 1) := by decide +kernel
theorem dX2_isBetter_7 : decode cX2_isBetter 7 = .ok (.if_icmp .ne 5, 3) := by decide +kernel
theorem dX2_isBetter_10 : decode cX2_isBetter 10 = .ok (.iconst 1, 1) := by decide +kernel
theorem dX2_isBetter_11 : decode cX2_isBetter 11 = .ok (.ireturn, 1) := by decide +kernel
theorem dX2_isBetter_12 : decode cX2_isBetter 12 = .ok (.iload_n 3, 1) := by decide +kernel
theorem dX2_isBetter_13 : decode cX2_isBetter 13 = .ok (.aload_n 0, 1) := by decide +kernel
theorem dX2_isBetter_14 : decode cX2_isBetter 14 = .ok (.getfield 18, 3) := by decide +kernel
theorem dX2_isBetter_17 : decode cX2_isBetter 17 = .ok (.iload_n 1, 1) := by decide +kernel
theorem dX2_isBetter_18 : decode cX2_isBetter 18 = .ok (.iaload, 1) := by decide +kernel
theorem dX2_isBetter_19 : decode cX2_isBetter 19 = .ok (.if_icmp .eq 19, 3) := by decide +kernel
theorem dX2_isBetter_22 : decode cX2_isBetter 22 = .ok (.iload_n 3, 1) := by decide +kernel
theorem dX2_isBetter_23 : decode cX2_isBetter 23 = .ok (.aload_n 0, 1) := by decide +kernel
theorem dX2_isBetter_24 : decode cX2_isBetter 24 = .ok (.getfield 18, 3) := by decide +kernel
theorem dX2_isBetter_27 : decode cX2_isBetter 27 = .ok (.iload_n 1, 1) := by decide +kernel
theorem dX2_isBetter_28 : decode cX2_isBetter 28 = .ok (.iaload, 1) := by decide +kernel
theorem dX2_isBetter_29 : decode cX2_isBetter 29 = .ok (.if_icmp .ge 7, 3) := by decide +kernel
theorem dX2_isBetter_32 : decode cX2_isBetter 32 = .ok (.iconst 1, 1) := by decide +kernel
theorem dX2_isBetter_33 : decode cX2_isBetter 33 = .ok (.goto 4, 3) := by decide +kernel
theorem dX2_isBetter_36 : decode cX2_isBetter 36 = .ok (.iconst 0, 1) := by decide +kernel
theorem dX2_isBetter_37 : decode cX2_isBetter 37 = .ok (.ireturn, 1) := by decide +kernel
theorem dX2_isBetter_38 : decode cX2_isBetter 38 = .ok (.iload 4, 2) := by decide +kernel
theorem dX2_isBetter_40 : decode cX2_isBetter 40 = .ok (.aload_n 0, 1) := by decide +kernel
theorem dX2_isBetter_41 : decode cX2_isBetter 41 = .ok (.getfield 21, 3) := by decide +kernel
theorem dX2_isBetter_44 : decode cX2_isBetter 44 = .ok (.iload_n 1, 1) := by decide +kernel
theorem dX2_isBetter_45 : decode cX2_isBetter 45 = .ok (.iaload, 1) := by decide +kernel
theorem dX2_isBetter_46 : decode cX2_isBetter 46 = .ok (.if_icmp .eq 20, 3) := by decide +kernel
theorem dX2_isBetter_49 : decode cX2_isBetter 49 = .ok (.iload 4, 2) := by decide +kernel
theorem dX2_isBetter_51 : decode cX2_isBetter 51 = .ok (.aload_n 0, 1) := by decide +kernel
theorem dX2_isBetter_52 : decode cX2_isBetter 52 = .ok (.getfield 21, 3) := by decide +kernel
theorem dX2_isBetter_55 : decode cX2_isBetter 55 = .ok (.iload_n 1, 1) := by decide +kernel
theorem dX2_isBetter_56 : decode cX2_isBetter 56 = .ok (.iaload, 1) := by decide +kernel
theorem dX2_isBetter_57 : decode cX2_isBetter 57 = .ok (.if_icmp .ge 7, 3) := by decide +kernel
theorem dX2_isBetter_60 : decode cX2_isBetter 60 = .ok (.iconst 1, 1) := by decide +kernel
theorem dX2_isBetter_61 : decode cX2_isBetter 61 = .ok (.goto 4, 3) := by decide +kernel
theorem dX2_isBetter_64 : decode cX2_isBetter 64 = .ok (.iconst 0, 1) := by decide +kernel
theorem dX2_isBetter_65 : decode cX2_isBetter 65 = .ok (.ireturn, 1) := by decide +kernel
theorem dX2_isBetter_66 : decode cX2_isBetter 66 = .ok (.aload_n 0, 1) := by decide +kernel
theorem dX2_isBetter_67 : decode cX2_isBetter 67 = .ok (.getfield 9, 3) := by decide +kernel
theorem dX2_isBetter_70 : decode cX2_isBetter 70 = .ok (.iload_n 2, 1) := by decide +kernel
theorem dX2_isBetter_71 : decode cX2_isBetter 71 = .ok (.iaload, 1) := by decide +kernel
theorem dX2_isBetter_72 : decode cX2_isBetter 72 = .ok (.istore 5, 2) := by decide +kernel
theorem dX2_isBetter_74 : decode cX2_isBetter 74 = .ok (.aload_n 0, 1) := by decide +kernel
theorem dX2_isBetter_75 : decode cX2_isBetter 75 = .ok (.getfield 9, 3) := by decide +kernel
theorem dX2_isBetter_78 : decode cX2_isBetter 78 = .ok (.aload_n 0, 1) := by decide +kernel
theorem dX2_isBetter_79 : decode cX2_isBetter 79 = .ok (.getfield 24, 3) := by decide +kernel
theorem dX2_isBetter_82 : decode cX2_isBetter 82 = .ok (.iload_n 1, 1) := by decide +kernel
theorem dX2_isBetter_83 : decode cX2_isBetter 83 = .ok (.iaload, 1) := by decide +kernel
theorem dX2_isBetter_84 : decode cX2_isBetter 84 = .ok (.iaload, 1) := by decide +kernel
theorem dX2_isBetter_85 : decode cX2_isBetter 85 = .ok (.istore 6, 2) := by decide +kernel
theorem dX2_isBetter_87 : decode cX2_isBetter 87 = .ok (.iload 5, 2) := by decide +kernel
theorem dX2_isBetter_89 : decode cX2_isBetter 89 = .ok (.iload 6, 2) := by decide +kernel
theorem dX2_isBetter_91 : decode cX2_isBetter 91 = .ok (.if_icmp .eq 18, 3) := by decide +kernel
theorem dX2_isBetter_94 : decode cX2_isBetter 94 = .ok (.iload 5, 2) := by decide +kernel
theorem dX2_isBetter_96 : decode cX2_isBetter 96 = .ok (.iload 6, 2) := by decide +kernel
theorem dX2_isBetter_98 : decode cX2_isBetter 98 = .ok (.if_icmp .ge 7, 3) := by decide +kernel
theorem dX2_isBetter_101 : decode cX2_isBetter 101 = .ok (.iconst 1, 1) := by decide +kernel
theorem dX2_isBetter_102 : decode cX2_isBetter 102 = .ok (.goto 22, 3) := by decide +kernel
theorem dX2_isBetter_105 : decode cX2_isBetter 105 = .ok (.iconst 0, 1) := by decide +kernel
theorem dX2_isBetter_106 : decode cX2_isBetter 106 = .ok (.goto 18, 3) := by decide +kernel
theorem dX2_isBetter_109 : decode cX2_isBetter 109 = .ok (.iload_n 2, 1) := by decide +kernel
theorem dX2_isBetter_110 : decode cX2_isBetter 110 = .ok (.aload_n 0, 1) := by decide +kernel
theorem dX2_isBetter_111 : decode cX2_isBetter 111 = .ok (.getfield 24, 3) := by decide +kernel
theorem dX2_isBetter_114 : decode cX2_isBetter 114 = .ok (.iload_n 1, 1) := by decide +kernel
theorem dX2_isBetter_115 : decode cX2_isBetter 115 = .ok (.iaload, 1) := by decide +kernel
theorem dX2_isBetter_116 : decode cX2_isBetter 116 = .ok (.if_icmp .ge 7, 3) := by decide +kernel
theorem dX2_isBetter_119 : decode cX2_isBetter 119 = .ok (.iconst 1, 1) := by decide +kernel
end
section
theorem dX2_isBetter_120 : decode cX2_isBetter 120 = .ok (.goto 4, 3) := by decide +kernel
theorem dX2_isBetter_123 : decode cX2_isBetter 123 = .ok (.iconst 0, 1) := by decide +kernel
theorem dX2_isBetter_124 : decode cX2_isBetter 124 = .ok (.ireturn, 1) := by decide +kernel
theorem dX1_append_0 : decode cX1_append 0 = .ok (.aload_n 0, 1) := by decide +kernel
theorem dX1_append_1 : decode cX1_append 1 = .ok (.getfield 18, 3) := by decide +kernel
theorem dX1_append_4 : decode cX1_append 4 = .ok (.bipush 8, 2) := by decide +kernel
theorem dX1_append_6 : decode cX1_append 6 = .ok (.if_icmp .lt 4, 3) := by decide +kernel
theorem dX1_append_9 : decode cX1_append 9 = .ok (.return_, 1) := by decide +kernel
theorem dX1_append_10 : decode cX1_append 10 = .ok (.aload_n 0, 1) := by decide +kernel
theorem dX1_append_11 : decode cX1_append 11 = .ok (.getfield 9, 3) := by decide +kernel
theorem dX1_append_14 : decode cX1_append 14 = .ok (.aload_n 0, 1) := by decide +kernel
theorem dX1_append_15 : decode cX1_append 15 = .ok (.getfield 18, 3) := by decide +kernel
theorem dX1_append_18 : decode cX1_append 18 = .ok (.iload_n 1, 1) := by decide +kernel
theorem dX1_append_19 : decode cX1_append 19 = .ok (.iastore, 1) := by decide +kernel
theorem dX1_append_20 : decode cX1_append 20 = .ok (.aload_n 0, 1) := by decide +kernel
theorem dX1_append_21 : decode cX1_append 21 = .ok (.getfield 15, 3) := by decide +kernel
theorem dX1_append_24 : decode cX1_append 24 = .ok (.aload_n 0, 1) := by decide +kernel
theorem dX1_append_25 : decode cX1_append 25 = .ok (.getfield 18, 3) := by decide +kernel
theorem dX1_append_28 : decode cX1_append 28 = .ok (.iload_n 2, 1) := by decide +kernel
theorem dX1_append_29 : decode cX1_append 29 = .ok (.iastore, 1) := by decide +kernel
theorem dX1_append_30 : decode cX1_append 30 = .ok (.aload_n 0, 1) := by decide +kernel
theorem dX1_append_31 : decode cX1_append 31 = .ok (.dup, 1) := by decide +kernel
theorem dX1_append_32 : decode cX1_append 32 = .ok (.getfield 18, 3) := by decide +kernel
theorem dX1_append_35 : decode cX1_append 35 = .ok (.iconst 1, 1) := by decide +kernel
theorem dX1_append_36 : decode cX1_append 36 = .ok (.iadd, 1) := by decide +kernel
theorem dX1_append_37 : decode cX1_append 37 = .ok (.putfield 18, 3) := by decide +kernel
theorem dX1_append_40 : decode cX1_append 40 = .ok (.aload_n 0, 1) := by decide +kernel
theorem dX1_append_41 : decode cX1_append 41 = .ok (.dup, 1) := by decide +kernel
theorem dX1_append_42 : decode cX1_append 42 = .ok (.getfield 22, 3) := by decide +kernel
theorem dX1_append_45 : decode cX1_append 45 = .ok (.iload_n 3, 1) := by decide +kernel
theorem dX1_append_46 : decode cX1_append 46 = .ok (.iadd, 1) := by decide +kernel
theorem dX1_append_47 : decode cX1_append 47 = .ok (.putfield 22, 3) := by decide +kernel
theorem dX1_append_50 : decode cX1_append 50 = .ok (.return_, 1) := by decide +kernel
theorem dX4_putByRule_0 : decode cX4_putByRule 0 = .ok (.iconst 0, 1) := by decide +kernel
theorem dX4_putByRule_1 : decode cX4_putByRule 1 = .ok (.istore_n 1, 1) := by decide +kernel
theorem dX4_putByRule_2 : decode cX4_putByRule 2 = .ok (.iconst 0, 1) := by decide +kernel
theorem dX4_putByRule_3 : decode cX4_putByRule 3 = .ok (.istore_n 2, 1) := by decide +kernel
theorem dX4_putByRule_4 : decode cX4_putByRule 4 = .ok (.iload_n 2, 1) := by decide +kernel
theorem dX4_putByRule_5 : decode cX4_putByRule 5 = .ok (.aload_n 0, 1) := by decide +kernel
theorem dX4_putByRule_6 : decode cX4_putByRule 6 = .ok (.getfield 19, 3) := by decide +kernel
theorem dX4_putByRule_9 : decode cX4_putByRule 9 = .ok (.getfield 84, 3) := by decide +kernel
theorem dX4_putByRule_12 : decode cX4_putByRule 12 = .ok (.if_icmp .ge 40, 3) := by decide +kernel
theorem dX4_putByRule_15 : decode cX4_putByRule 15 = .ok (.iload_n 1, 1) := by decide +kernel
theorem dX4_putByRule_16 : decode cX4_putByRule 16 = .ok (.iload_n 2, 1) := by decide +kernel
theorem dX4_putByRule_17 : decode cX4_putByRule 17 = .ok (.invokestatic 163, 3) := by decide +kernel
theorem dX4_putByRule_20 : decode cX4_putByRule 20 = .ok (.ifCond .ne 26, 3) := by decide +kernel
theorem dX4_putByRule_23 : decode cX4_putByRule 23 = .ok (.aload_n 0, 1) := by decide +kernel
theorem dX4_putByRule_24 : decode cX4_putByRule 24 = .ok (.getfield 19, 3) := by decide +kernel
theorem dX4_putByRule_27 : decode cX4_putByRule 27 = .ok (.iload_n 2, 1) := by decide +kernel
theorem dX4_putByRule_28 : decode cX4_putByRule 28 = .ok (.invokevirtual 139, 3) := by decide +kernel
theorem dX4_putByRule_31 : decode cX4_putByRule 31 = .ok (.istore_n 3, 1) := by decide +kernel
theorem dX4_putByRule_32 : decode cX4_putByRule 32 = .ok (.aload_n 0, 1) := by decide +kernel
theorem dX4_putByRule_33 : decode cX4_putByRule 33 = .ok (.iload_n 3, 1) := by decide +kernel
theorem dX4_putByRule_34 : decode cX4_putByRule 34 = .ok (.invokevirtual 221, 3) := by decide +kernel
theorem dX4_putByRule_37 : decode cX4_putByRule 37 = .ok (.ifCond .ne 5, 3) := by decide +kernel
theorem dX4_putByRule_40 : decode cX4_putByRule 40 = .ok (.iconst 0, 1) := by decide +kernel
theorem dX4_putByRule_41 : decode cX4_putByRule 41 = .ok (.ireturn, 1) := by decide +kernel
theorem dX4_putByRule_42 : decode cX4_putByRule 42 = .ok (.iload_n 1, 1) := by decide +kernel
theorem dX4_putByRule_43 : decode cX4_putByRule 43 = .ok (.iload_n 3, 1) := by decide +kernel
theorem dX4_putByRule_44 : decode cX4_putByRule 44 = .ok (.ior, 1) := by decide +kernel
theorem dX4_putByRule_45 : decode cX4_putByRule 45 = .ok (.istore_n 1, 1) := by decide +kernel
theorem dX4_putByRule_46 : decode cX4_putByRule 46 = .ok (.iinc 2 1, 3) := by decide +kernel
theorem dX4_putByRule_49 : decode cX4_putByRule 49 = .ok (.goto (-45), 3) := by decide +kernel
theorem dX4_putByRule_52 : decode cX4_putByRule 52 = .ok (.iconst 1, 1) := by decide +kernel
theorem dX4_putByRule_53 : decode cX4_putByRule 53 = .ok (.ireturn, 1) := by decide +kernel
theorem dX3_companyOf_0 : decode cX3_companyOf 0 = .ok (.aload_n 0, 1) := by decide +kernel
theorem dX3_companyOf_1 : decode cX3_companyOf 1 = .ok (.iload_n 1, 1) := by decide +kernel
theorem dX3_companyOf_2 : decode cX3_companyOf 2 = .ok (.invokevirtual 35, 3) := by decide +kernel
theorem dX3_companyOf_5 : decode cX3_companyOf 5 = .ok (.ifCond .ne 5, 3) := by decide +kernel
theorem dX3_companyOf_8 : decode cX3_companyOf 8 = .ok (.iconst 0, 1) := by decide +kernel
theorem dX3_companyOf_9 : decode cX3_companyOf 9 = .ok (.ireturn, 1) := by decide +kernel
theorem dX3_companyOf_10 : decode cX3_companyOf 10 = .ok (.iconst 1, 1) := by decide +kernel
theorem dX3_companyOf_11 : decode cX3_companyOf 11 = .ok (.iload_n 1, 1) := by decide +kernel
theorem dX3_companyOf_12 : decode cX3_companyOf 12 = .ok (.ishl, 1) := by decide +kernel
theorem dX3_companyOf_13 : decode cX3_companyOf 13 = .ok (.istore_n 2, 1) := by decide +kernel
theorem dX3_companyOf_14 : decode cX3_companyOf 14 = .ok (.iconst 0, 1) := by decide +kernel
theorem dX3_companyOf_15 : decode cX3_companyOf 15 = .ok (.istore_n 3, 1) := by decide +kernel
theorem dX3_companyOf_16 : decode cX3_companyOf 16 = .ok (.iload_n 3, 1) := by decide +kernel
theorem dX3_companyOf_17 : decode cX3_companyOf 17 = .ok (.aload_n 0, 1) := by decide +kernel
theorem dX3_companyOf_18 : decode cX3_companyOf 18 = .ok (.getfield 27, 3) := by decide +kernel
theorem dX3_companyOf_21 : decode cX3_companyOf 21 = .ok (.if_icmp .ge 46, 3) := by decide +kernel
theorem dX3_companyOf_24 : decode cX3_companyOf 24 = .ok (.iconst 0, 1) := by decide +kernel
theorem dX3_companyOf_25 : decode cX3_companyOf 25 = .ok (.istore 4, 2) := by decide +kernel
theorem dX3_companyOf_27 : decode cX3_companyOf 27 = .ok (.iload 4, 2) := by decide +kernel
theorem dX3_companyOf_29 : decode cX3_companyOf 29 = .ok (.aload_n 0, 1) := by decide +kernel
theorem dX3_companyOf_30 : decode cX3_companyOf 30 = .ok (.getfield 27, 3) := by decide +kernel
theorem dX3_companyOf_33 : decode cX3_companyOf 33 = .ok (.if_icmp .ge 28, 3) := by decide +kernel
theorem dX3_companyOf_36 : decode cX3_companyOf 36 = .ok (.iload_n 2, 1) := by decide +kernel
theorem dX3_companyOf_37 : decode cX3_companyOf 37 = .ok (.iload 4, 2) := by decide +kernel
theorem dX3_companyOf_39 : decode cX3_companyOf 39 = .ok (.invokestatic 39, 3) := by decide +kernel
theorem dX3_companyOf_42 : decode cX3_companyOf 42 = .ok (.ifCond .eq 13, 3) := by decide +kernel
theorem dX3_companyOf_45 : decode cX3_companyOf 45 = .ok (.iload_n 2, 1) := by decide +kernel
theorem dX3_companyOf_46 : decode cX3_companyOf 46 = .ok (.aload_n 0, 1) := by decide +kernel
theorem dX3_companyOf_47 : decode cX3_companyOf 47 = .ok (.getfield 24, 3) := by decide +kernel
theorem dX3_companyOf_50 : decode cX3_companyOf 50 = .ok (.iload 4, 2) := by decide +kernel
theorem dX3_companyOf_52 : decode cX3_companyOf 52 = .ok (.iaload, 1) := by decide +kernel
theorem dX3_companyOf_53 : decode cX3_companyOf 53 = .ok (.ior, 1) := by decide +kernel
theorem dX3_companyOf_54 : decode cX3_companyOf 54 = .ok (.istore_n 2, 1) := by decide +kernel
theorem dX3_companyOf_55 : decode cX3_companyOf 55 = .ok (.iinc 4 1, 3) := by decide +kernel
theorem dX3_companyOf_58 : decode cX3_companyOf 58 = .ok (.goto (-31), 3) := by decide +kernel
theorem dX3_companyOf_61 : decode cX3_companyOf 61 = .ok (.iinc 3 1, 3) := by decide +kernel
theorem dX3_companyOf_64 : decode cX3_companyOf 64 = .ok (.goto (-48), 3) := by decide +kernel
theorem dX3_companyOf_67 : decode cX3_companyOf 67 = .ok (.iload_n 2, 1) := by decide +kernel
theorem dX3_companyOf_68 : decode cX3_companyOf 68 = .ok (.ireturn, 1) := by decide +kernel
theorem dX4_putCompany_0 : decode cX4_putCompany 0 = .ok (.iconst 0, 1) := by decide +kernel
theorem dX4_putCompany_1 : decode cX4_putCompany 1 = .ok (.istore_n 2, 1) := by decide +kernel
theorem dX4_putCompany_2 : decode cX4_putCompany 2 = .ok (.iload_n 2, 1) := by decide +kernel
theorem dX4_putCompany_3 : decode cX4_putCompany 3 = .ok (.aload_n 0, 1) := by decide +kernel
theorem dX4_putCompany_4 : decode cX4_putCompany 4 = .ok (.getfield 26, 3) := by decide +kernel
theorem dX4_putCompany_7 : decode cX4_putCompany 7 = .ok (.getfield 111, 3) := by decide +kernel
theorem dX4_putCompany_10 : decode cX4_putCompany 10 = .ok (.if_icmp .ge 50, 3) := by decide +kernel
theorem dX4_putCompany_13 : decode cX4_putCompany 13 = .ok (.aload_n 0, 1) := by decide +kernel
theorem dX4_putCompany_14 : decode cX4_putCompany 14 = .ok (.getfield 26, 3) := by decide +kernel
theorem dX4_putCompany_17 : decode cX4_putCompany 17 = .ok (.iload_n 2, 1) := by decide +kernel
theorem dX4_putCompany_18 : decode cX4_putCompany 18 = .ok (.invokevirtual 125, 3) := by decide +kernel
theorem dX4_putCompany_21 : decode cX4_putCompany 21 = .ok (.iload_n 1, 1) := by decide +kernel
theorem dX4_putCompany_22 : decode cX4_putCompany 22 = .ok (.ior, 1) := by decide +kernel
theorem dX4_putCompany_23 : decode cX4_putCompany 23 = .ok (.istore_n 3, 1) := by decide +kernel
theorem dX4_putCompany_24 : decode cX4_putCompany 24 = .ok (.aload_n 0, 1) := by decide +kernel
theorem dX4_putCompany_25 : decode cX4_putCompany 25 = .ok (.iload_n 3, 1) := by decide +kernel
theorem dX4_putCompany_26 : decode cX4_putCompany 26 = .ok (.invokevirtual 205, 3) := by decide +kernel
theorem dX4_putCompany_29 : decode cX4_putCompany 29 = .ok (.aload_n 0, 1) := by decide +kernel
theorem dX4_putCompany_30 : decode cX4_putCompany 30 = .ok (.getfield 26, 3) := by decide +kernel
theorem dX4_putCompany_33 : decode cX4_putCompany 33 = .ok (.iload_n 2, 1) := by decide +kernel
theorem dX4_putCompany_34 : decode cX4_putCompany 34 = .ok (.invokevirtual 121, 3) := by decide +kernel
theorem dX4_putCompany_37 : decode cX4_putCompany 37 = .ok (.invokestatic 163, 3) := by decide +kernel
theorem dX4_putCompany_40 : decode cX4_putCompany 40 = .ok (.ifCond .eq 14, 3) := by decide +kernel
theorem dX4_putCompany_43 : decode cX4_putCompany 43 = .ok (.aload_n 0, 1) := by decide +kernel
theorem dX4_putCompany_44 : decode cX4_putCompany 44 = .ok (.getfield 26, 3) := by decide +kernel
theorem dX4_putCompany_47 : decode cX4_putCompany 47 = .ok (.iload_n 2, 1) := by decide +kernel
theorem dX4_putCompany_48 : decode cX4_putCompany 48 = .ok (.iload_n 3, 1) := by decide +kernel
theorem dX4_putCompany_49 : decode cX4_putCompany 49 = .ok (.invokevirtual 224, 3) := by decide +kernel
theorem dX4_putCompany_52 : decode cX4_putCompany 52 = .ok (.iconst 1, 1) := by decide +kernel
theorem dX4_putCompany_53 : decode cX4_putCompany 53 = .ok (.ireturn, 1) := by decide +kernel
theorem dX4_putCompany_54 : decode cX4_putCompany 54 = .ok (.iinc 2 1, 3) := by decide +kernel
theorem dX4_putCompany_57 : decode cX4_putCompany 57 = .ok (.goto (-55), 3) := by decide +kernel
theorem dX4_putCompany_60 : decode cX4_putCompany 60 = .ok (.aload_n 0, 1) := by decide +kernel
theorem dX4_putCompany_61 : decode cX4_putCompany 61 = .ok (.getfield 12, 3) := by decide +kernel
theorem dX4_putCompany_64 : decode cX4_putCompany 64 = .ok (.aload_n 0, 1) := by decide +kernel
theorem dX4_putCompany_65 : decode cX4_putCompany 65 = .ok (.iload_n 1, 1) := by decide +kernel
theorem dX4_putCompany_66 : decode cX4_putCompany 66 = .ok (.invokevirtual 205, 3) := by decide +kernel
theorem dX4_putCompany_69 : decode cX4_putCompany 69 = .ok (.invokevirtual 208, 3) := by decide +kernel
theorem dX4_putCompany_72 : decode cX4_putCompany 72 = .ok (.istore_n 2, 1) := by decide +kernel
theorem dX4_putCompany_73 : decode cX4_putCompany 73 = .ok (.iload_n 2, 1) := by decide +kernel
theorem dX4_putCompany_74 : decode cX4_putCompany 74 = .ok (.iconst (-1), 1) := by decide +kernel
theorem dX4_putCompany_75 : decode cX4_putCompany 75 = .ok (.if_icmp .ne 5, 3) := by decide +kernel
theorem dX4_putCompany_78 : decode cX4_putCompany 78 = .ok (.iconst 0, 1) := by decide +kernel
theorem dX4_putCompany_79 : decode cX4_putCompany 79 = .ok (.ireturn, 1) := by decide +kernel
theorem dX4_putCompany_80 : decode cX4_putCompany 80 = .ok (.aload_n 0, 1) := by decide +kernel
theorem dX4_putCompany_81 : decode cX4_putCompany 81 = .ok (.getfield 26, 3) := by decide +kernel
theorem dX4_putCompany_84 : decode cX4_putCompany 84 = .ok (.iload_n 2, 1) := by decide +kernel
theorem dX4_putCompany_85 : decode cX4_putCompany 85 = .ok (.iload_n 1, 1) := by decide +kernel
theorem dX4_putCompany_86 : decode cX4_putCompany 86 = .ok (.aload_n 0, 1) := by decide +kernel
theorem dX4_putCompany_87 : decode cX4_putCompany 87 = .ok (.getfield 12, 3) := by decide +kernel
theorem dX4_putCompany_90 : decode cX4_putCompany 90 = .ok (.iload_n 2, 1) := by decide +kernel
theorem dX4_putCompany_91 : decode cX4_putCompany 91 = .ok (.invokevirtual 211, 3) := by decide +kernel
theorem dX4_putCompany_94 : decode cX4_putCompany 94 = .ok (.invokevirtual 228, 3) := by decide +kernel
theorem dX4_putCompany_97 : decode cX4_putCompany 97 = .ok (.iconst 1, 1) := by decide +kernel
theorem dX4_putCompany_98 : decode cX4_putCompany 98 = .ok (.ireturn, 1) := by decide +kernel
theorem dX1_setAt_0 : decode cX1_setAt 0 = .ok (.aload_n 0, 1) := by decide +kernel
theorem dX1_setAt_1 : decode cX1_setAt 1 = .ok (.iload_n 1, 1) := by decide +kernel
theorem dX1_setAt_2 : decode cX1_setAt 2 = .ok (.invokevirtual 32, 3) := by decide +kernel
theorem dX1_setAt_5 : decode cX1_setAt 5 = .ok (.ifCond .eq 12, 3) := by decide +kernel
theorem dX1_setAt_8 : decode cX1_setAt 8 = .ok (.aload_n 0, 1) := by decide +kernel
theorem dX1_setAt_9 : decode cX1_setAt 9 = .ok (.getfield 15, 3) := by decide +kernel
theorem dX1_setAt_12 : decode cX1_setAt 12 = .ok (.iload_n 1, 1) := by decide +kernel
theorem dX1_setAt_13 : decode cX1_setAt 13 = .ok (.iaload, 1) := by decide +kernel
theorem dX1_setAt_14 : decode cX1_setAt 14 = .ok (.goto 4, 3) := by decide +kernel
theorem dX1_setAt_17 : decode cX1_setAt 17 = .ok (.iconst 0, 1) := by decide +kernel
theorem dX1_setAt_18 : decode cX1_setAt 18 = .ok (.ireturn, 1) := by decide +kernel
theorem dX1_has_0 : decode cX1_has 0 = .ok (.iload_n 1, 1) := by decide +kernel
theorem dX1_has_1 : decode cX1_has 1 = .ok (.ifCond .lt 15, 3) := by decide +kernel
theorem dX1_has_4 : decode cX1_has 4 = .ok (.iload_n 1, 1) := by decide +kernel
theorem dX1_has_5 : decode cX1_has 5 = .ok (.aload_n 0, 1) := by decide +kernel
theorem dX1_has_6 : decode cX1_has 6 = .ok (.getfield 18, 3) := by decide +kernel
theorem dX1_has_9 : decode cX1_has 9 = .ok (.if_icmp .ge 7, 3) := by decide +kernel
theorem dX1_has_12 : decode cX1_has 12 = .ok (.iconst 1, 1) := by decide +kernel
theorem dX1_has_13 : decode cX1_has 13 = .ok (.goto 4, 3) := by decide +kernel
theorem dX1_has_16 : decode cX1_has 16 = .ok (.iconst 0, 1) := by decide +kernel
theorem dX1_has_17 : decode cX1_has 17 = .ok (.ireturn, 1) := by decide +kernel
theorem dX1_boxAt_0 : decode cX1_boxAt 0 = .ok (.aload_n 0, 1) := by decide +kernel
theorem dX1_boxAt_1 : decode cX1_boxAt 1 = .ok (.iload_n 1, 1) := by decide +kernel
theorem dX1_boxAt_2 : decode cX1_boxAt 2 = .ok (.invokevirtual 32, 3) := by decide +kernel
theorem dX1_boxAt_5 : decode cX1_boxAt 5 = .ok (.ifCond .eq 12, 3) := by decide +kernel
theorem dX1_boxAt_8 : decode cX1_boxAt 8 = .ok (.aload_n 0, 1) := by decide +kernel
theorem dX1_boxAt_9 : decode cX1_boxAt 9 = .ok (.getfield 9, 3) := by decide +kernel
theorem dX1_boxAt_12 : decode cX1_boxAt 12 = .ok (.iload_n 1, 1) := by decide +kernel
theorem dX1_boxAt_13 : decode cX1_boxAt 13 = .ok (.iaload, 1) := by decide +kernel
theorem dX1_boxAt_14 : decode cX1_boxAt 14 = .ok (.goto 4, 3) := by decide +kernel
theorem dX1_boxAt_17 : decode cX1_boxAt 17 = .ok (.iconst (-1), 1) := by decide +kernel
theorem dX1_boxAt_18 : decode cX1_boxAt 18 = .ok (.ireturn, 1) := by decide +kernel
theorem dX1_replaceSet_0 : decode cX1_replaceSet 0 = .ok (.aload_n 0, 1) := by decide +kernel
theorem dX1_replaceSet_1 : decode cX1_replaceSet 1 = .ok (.iload_n 1, 1) := by decide +kernel
theorem dX1_replaceSet_2 : decode cX1_replaceSet 2 = .ok (.invokevirtual 32, 3) := by decide +kernel
theorem dX1_replaceSet_5 : decode cX1_replaceSet 5 = .ok (.ifCond .eq 10, 3) := by decide +kernel
theorem dX1_replaceSet_8 : decode cX1_replaceSet 8 = .ok (.aload_n 0, 1) := by decide +kernel
theorem dX1_replaceSet_9 : decode cX1_replaceSet 9 = .ok (.getfield 15, 3) := by decide +kernel
theorem dX1_replaceSet_12 : decode cX1_replaceSet 12 = .ok (.iload_n 1, 1) := by decide +kernel
theorem dX1_replaceSet_13 : decode cX1_replaceSet 13 = .ok (.iload_n 2, 1) := by decide +kernel
theorem dX1_replaceSet_14 : decode cX1_replaceSet 14 = .ok (.iastore, 1) := by decide +kernel
theorem dX1_replaceSet_15 : decode cX1_replaceSet 15 = .ok (.return_, 1) := by decide +kernel
theorem dX1_finish_0 : decode cX1_finish 0 = .ok (.aload_n 0, 1) := by decide +kernel
theorem dX1_finish_1 : decode cX1_finish 1 = .ok (.iconst 1, 1) := by decide +kernel
theorem dX1_finish_2 : decode cX1_finish 2 = .ok (.putfield 25, 3) := by decide +kernel
theorem dX1_finish_5 : decode cX1_finish 5 = .ok (.aload_n 0, 1) := by decide +kernel
theorem dX1_finish_6 : decode cX1_finish 6 = .ok (.iload_n 1, 1) := by decide +kernel
theorem dX1_finish_7 : decode cX1_finish 7 = .ok (.putfield 29, 3) := by decide +kernel
theorem dX1_finish_10 : decode cX1_finish 10 = .ok (.return_, 1) := by decide +kernel
theorem dL_chosen_0 : decode cL_chosen 0 = .ok (.aload_n 3, 1) := by decide +kernel
theorem dL_chosen_1 : decode cL_chosen 1 = .ok (.iconst 0, 1) := by decide +kernel
theorem dL_chosen_2 : decode cL_chosen 2 = .ok (.aload_n 0, 1) := by decide +kernel
theorem dL_chosen_3 : decode cL_chosen 3 = .ok (.iload_n 1, 1) := by decide +kernel
theorem dL_chosen_4 : decode cL_chosen 4 = .ok (.iload_n 2, 1) := by decide +kernel
theorem dL_chosen_5 : decode cL_chosen 5 = .ok (.invokevirtual 38, 3) := by decide +kernel
theorem dL_chosen_8 : decode cL_chosen 8 = .ok (.i2l, 1) := by decide +kernel
theorem dL_chosen_9 : decode cL_chosen 9 = .ok (.lastore, 1) := by decide +kernel
theorem dL_chosen_10 : decode cL_chosen 10 = .ok (.goto 11, 3) := by decide +kernel
theorem dL_chosen_13 : decode cL_chosen 13 = .ok (.astore 4, 2) := by decide +kernel
theorem dL_chosen_15 : decode cL_chosen 15 = .ok (.iconst 1, 1) := by decide +kernel
theorem dL_chosen_16 : decode cL_chosen 16 = .ok (.ireturn, 1) := by decide +kernel
theorem dL_chosen_17 : decode cL_chosen 17 = .ok (.astore 4, 2) := by decide +kernel
theorem dL_chosen_19 : decode cL_chosen 19 = .ok (.iconst 2, 1) := by decide +kernel
theorem dL_chosen_20 : decode cL_chosen 20 = .ok (.ireturn, 1) := by decide +kernel
theorem dL_chosen_21 : decode cL_chosen 21 = .ok (.iconst 0, 1) := by decide +kernel
theorem dL_chosen_22 : decode cL_chosen 22 = .ok (.ireturn, 1) := by decide +kernel
theorem dX4_chosen_0 : decode cX4_chosen 0 = .ok (.aload_n 0, 1) := by decide +kernel
theorem dX4_chosen_1 : decode cX4_chosen 1 = .ok (.getfield 26, 3) := by decide +kernel
theorem dX4_chosen_4 : decode cX4_chosen 4 = .ok (.iload_n 1, 1) := by decide +kernel
theorem dX4_chosen_5 : decode cX4_chosen 5 = .ok (.invokevirtual 112, 3) := by decide +kernel
theorem dX4_chosen_8 : decode cX4_chosen 8 = .ok (.ifCond .ne 13, 3) := by decide +kernel
theorem dX4_chosen_11 : decode cX4_chosen 11 = .ok (.new 116, 3) := by decide +kernel
theorem dX4_chosen_14 : decode cX4_chosen 14 = .ok (.dup, 1) := by decide +kernel
theorem dX4_chosen_15 : decode cX4_chosen 15 = .ok (.ldc 118, 2) := by decide +kernel
theorem dX4_chosen_17 : decode cX4_chosen 17 = .ok (.invokespecial 120, 3) := by decide +kernel
theorem dX4_chosen_20 : decode cX4_chosen 20 = .ok (.athrow, 1) := by decide +kernel
theorem dX4_chosen_21 : decode cX4_chosen 21 = .ok (.iload_n 2, 1) := by decide +kernel
theorem dX4_chosen_22 : decode cX4_chosen 22 = .ok (.tableswitch 80 0 3 #[30, 39, 48, 64], 30) := by decide +kernel
theorem dX4_chosen_52 : decode cX4_chosen 52 = .ok (.aload_n 0, 1) := by decide +kernel
theorem dX4_chosen_53 : decode cX4_chosen 53 = .ok (.getfield 26, 3) := by decide +kernel
theorem dX4_chosen_56 : decode cX4_chosen 56 = .ok (.iload_n 1, 1) := by decide +kernel
theorem dX4_chosen_57 : decode cX4_chosen 57 = .ok (.invokevirtual 121, 3) := by decide +kernel
theorem dX4_chosen_60 : decode cX4_chosen 60 = .ok (.ireturn, 1) := by decide +kernel
theorem dX4_chosen_61 : decode cX4_chosen 61 = .ok (.aload_n 0, 1) := by decide +kernel
theorem dX4_chosen_62 : decode cX4_chosen 62 = .ok (.getfield 26, 3) := by decide +kernel
theorem dX4_chosen_65 : decode cX4_chosen 65 = .ok (.iload_n 1, 1) := by decide +kernel
theorem dX4_chosen_66 : decode cX4_chosen 66 = .ok (.invokevirtual 125, 3) := by decide +kernel
theorem dX4_chosen_69 : decode cX4_chosen 69 = .ok (.ireturn, 1) := by decide +kernel
theorem dX4_chosen_70 : decode cX4_chosen 70 = .ok (.aload_n 0, 1) := by decide +kernel
theorem dX4_chosen_71 : decode cX4_chosen 71 = .ok (.getfield 19, 3) := by decide +kernel
theorem dX4_chosen_74 : decode cX4_chosen 74 = .ok (.aload_n 0, 1) := by decide +kernel
theorem dX4_chosen_75 : decode cX4_chosen 75 = .ok (.getfield 26, 3) := by decide +kernel
theorem dX4_chosen_78 : decode cX4_chosen 78 = .ok (.iload_n 1, 1) := by decide +kernel
theorem dX4_chosen_79 : decode cX4_chosen 79 = .ok (.invokevirtual 125, 3) := by decide +kernel
theorem dX4_chosen_82 : decode cX4_chosen 82 = .ok (.invokevirtual 128, 3) := by decide +kernel
theorem dX4_chosen_85 : decode cX4_chosen 85 = .ok (.ireturn, 1) := by decide +kernel
theorem dX4_chosen_86 : decode cX4_chosen 86 = .ok (.aload_n 0, 1) := by decide +kernel
theorem dX4_chosen_87 : decode cX4_chosen 87 = .ok (.getfield 19, 3) := by decide +kernel
theorem dX4_chosen_90 : decode cX4_chosen 90 = .ok (.aload_n 0, 1) := by decide +kernel
theorem dX4_chosen_91 : decode cX4_chosen 91 = .ok (.getfield 26, 3) := by decide +kernel
theorem dX4_chosen_94 : decode cX4_chosen 94 = .ok (.iload_n 1, 1) := by decide +kernel
theorem dX4_chosen_95 : decode cX4_chosen 95 = .ok (.invokevirtual 125, 3) := by decide +kernel
theorem dX4_chosen_98 : decode cX4_chosen 98 = .ok (.invokevirtual 131, 3) := by decide +kernel
theorem dX4_chosen_101 : decode cX4_chosen 101 = .ok (.ireturn, 1) := by decide +kernel
theorem dX4_chosen_102 : decode cX4_chosen 102 = .ok (.new 66, 3) := by decide +kernel
theorem dX4_chosen_105 : decode cX4_chosen 105 = .ok (.dup, 1) := by decide +kernel
theorem dX4_chosen_106 : decode cX4_chosen 106 = .ok (.ldc 134, 2) := by decide +kernel
theorem dX4_chosen_108 : decode cX4_chosen 108 = .ok (.invokespecial 70, 3) := by decide +kernel
theorem dX4_chosen_111 : decode cX4_chosen 111 = .ok (.athrow, 1) := by decide +kernel
theorem dL_where_0 : decode cL_where 0 = .ok (.aload_n 2, 1) := by decide +kernel
theorem dL_where_1 : decode cL_where 1 = .ok (.iconst 0, 1) := by decide +kernel
theorem dL_where_2 : decode cL_where 2 = .ok (.aload_n 0, 1) := by decide +kernel
theorem dL_where_3 : decode cL_where 3 = .ok (.iload_n 1, 1) := by decide +kernel
theorem dL_where_4 : decode cL_where 4 = .ok (.invokevirtual 41, 3) := by decide +kernel
theorem dL_where_7 : decode cL_where 7 = .ok (.i2l, 1) := by decide +kernel
theorem dL_where_8 : decode cL_where 8 = .ok (.lastore, 1) := by decide +kernel
theorem dL_where_9 : decode cL_where 9 = .ok (.goto 6, 3) := by decide +kernel
theorem dL_where_12 : decode cL_where 12 = .ok (.astore_n 3, 1) := by decide +kernel
theorem dL_where_13 : decode cL_where 13 = .ok (.iconst 1, 1) := by decide +kernel
theorem dL_where_14 : decode cL_where 14 = .ok (.ireturn, 1) := by decide +kernel
theorem dL_where_15 : decode cL_where 15 = .ok (.iconst 0, 1) := by decide +kernel
theorem dL_where_16 : decode cL_where 16 = .ok (.ireturn, 1) := by decide +kernel
theorem dX4_where_0 : decode cX4_where 0 = .ok (.aload_n 0, 1) := by decide +kernel
theorem dX4_where_1 : decode cX4_where 1 = .ok (.iload_n 1, 1) := by decide +kernel
theorem dX4_where_2 : decode cX4_where 2 = .ok (.invokevirtual 62, 3) := by decide +kernel
theorem dX4_where_5 : decode cX4_where 5 = .ok (.aload_n 0, 1) := by decide +kernel
theorem dX4_where_6 : decode cX4_where 6 = .ok (.getfield 26, 3) := by decide +kernel
theorem dX4_where_9 : decode cX4_where 9 = .ok (.iload_n 1, 1) := by decide +kernel
theorem dX4_where_10 : decode cX4_where 10 = .ok (.invokevirtual 136, 3) := by decide +kernel
theorem dX4_where_13 : decode cX4_where 13 = .ok (.ireturn, 1) := by decide +kernel
theorem dX1_holderOf_0 : decode cX1_holderOf 0 = .ok (.iconst 0, 1) := by decide +kernel
theorem dX1_holderOf_1 : decode cX1_holderOf 1 = .ok (.istore_n 2, 1) := by decide +kernel
theorem dX1_holderOf_2 : decode cX1_holderOf 2 = .ok (.iload_n 2, 1) := by decide +kernel
theorem dX1_holderOf_3 : decode cX1_holderOf 3 = .ok (.aload_n 0, 1) := by decide +kernel
theorem dX1_holderOf_4 : decode cX1_holderOf 4 = .ok (.getfield 18, 3) := by decide +kernel
theorem dX1_holderOf_7 : decode cX1_holderOf 7 = .ok (.if_icmp .ge 24, 3) := by decide +kernel
theorem dX1_holderOf_10 : decode cX1_holderOf 10 = .ok (.aload_n 0, 1) := by decide +kernel
theorem dX1_holderOf_11 : decode cX1_holderOf 11 = .ok (.getfield 15, 3) := by decide +kernel
theorem dX1_holderOf_14 : decode cX1_holderOf 14 = .ok (.iload_n 2, 1) := by decide +kernel
theorem dX1_holderOf_15 : decode cX1_holderOf 15 = .ok (.iaload, 1) := by decide +kernel
theorem dX1_holderOf_16 : decode cX1_holderOf 16 = .ok (.iload_n 1, 1) := by decide +kernel
theorem dX1_holderOf_17 : decode cX1_holderOf 17 = .ok (.invokestatic 36, 3) := by decide +kernel
theorem dX1_holderOf_20 : decode cX1_holderOf 20 = .ok (.ifCond .eq 5, 3) := by decide +kernel
theorem dX1_holderOf_23 : decode cX1_holderOf 23 = .ok (.iload_n 2, 1) := by decide +kernel
theorem dX1_holderOf_24 : decode cX1_holderOf 24 = .ok (.ireturn, 1) := by decide +kernel
theorem dX1_holderOf_25 : decode cX1_holderOf 25 = .ok (.iinc 2 1, 3) := by decide +kernel
theorem dX1_holderOf_28 : decode cX1_holderOf 28 = .ok (.goto (-26), 3) := by decide +kernel
theorem dX1_holderOf_31 : decode cX1_holderOf 31 = .ok (.iconst (-1), 1) := by decide +kernel
theorem dX1_holderOf_32 : decode cX1_holderOf 32 = .ok (.ireturn, 1) := by decide +kernel
theorem dL_bar_0 : decode cL_bar 0 = .ok (.aload_n 2, 1) := by decide +kernel
theorem dL_bar_1 : decode cL_bar 1 = .ok (.iconst 0, 1) := by decide +kernel
theorem dL_bar_2 : decode cL_bar 2 = .ok (.aload_n 0, 1) := by decide +kernel
theorem dL_bar_3 : decode cL_bar 3 = .ok (.iload_n 1, 1) := by decide +kernel
theorem dL_bar_4 : decode cL_bar 4 = .ok (.invokevirtual 44, 3) := by decide +kernel
theorem dL_bar_7 : decode cL_bar 7 = .ok (.i2l, 1) := by decide +kernel
theorem dL_bar_8 : decode cL_bar 8 = .ok (.lastore, 1) := by decide +kernel
theorem dL_bar_9 : decode cL_bar 9 = .ok (.goto 6, 3) := by decide +kernel
theorem dL_bar_12 : decode cL_bar 12 = .ok (.astore_n 3, 1) := by decide +kernel
theorem dL_bar_13 : decode cL_bar 13 = .ok (.iconst 1, 1) := by decide +kernel
theorem dL_bar_14 : decode cL_bar 14 = .ok (.ireturn, 1) := by decide +kernel
theorem dL_bar_15 : decode cL_bar 15 = .ok (.iconst 0, 1) := by decide +kernel
theorem dL_bar_16 : decode cL_bar 16 = .ok (.ireturn, 1) := by decide +kernel
theorem dX4_bar_0 : decode cX4_bar 0 = .ok (.aload_n 0, 1) := by decide +kernel
theorem dX4_bar_1 : decode cX4_bar 1 = .ok (.iload_n 1, 1) := by decide +kernel
theorem dX4_bar_2 : decode cX4_bar 2 = .ok (.invokevirtual 62, 3) := by decide +kernel
theorem dX4_bar_5 : decode cX4_bar 5 = .ok (.aload_n 0, 1) := by decide +kernel
theorem dX4_bar_6 : decode cX4_bar 6 = .ok (.getfield 19, 3) := by decide +kernel
theorem dX4_bar_9 : decode cX4_bar 9 = .ok (.iload_n 1, 1) := by decide +kernel
theorem dX4_bar_10 : decode cX4_bar 10 = .ok (.invokevirtual 139, 3) := by decide +kernel
theorem dX4_bar_13 : decode cX4_bar 13 = .ok (.istore_n 2, 1) := by decide +kernel
theorem dX4_bar_14 : decode cX4_bar 14 = .ok (.aload_n 0, 1) := by decide +kernel
theorem dX4_bar_15 : decode cX4_bar 15 = .ok (.getfield 12, 3) := by decide +kernel
theorem dX4_bar_18 : decode cX4_bar 18 = .ok (.aload_n 0, 1) := by decide +kernel
theorem dX4_bar_19 : decode cX4_bar 19 = .ok (.getfield 19, 3) := by decide +kernel
theorem dX4_bar_22 : decode cX4_bar 22 = .ok (.iload_n 2, 1) := by decide +kernel
theorem dX4_bar_23 : decode cX4_bar 23 = .ok (.invokevirtual 142, 3) := by decide +kernel
theorem dX4_bar_26 : decode cX4_bar 26 = .ok (.invokevirtual 145, 3) := by decide +kernel
theorem dX4_bar_29 : decode cX4_bar 29 = .ok (.istore_n 3, 1) := by decide +kernel
theorem dX4_bar_30 : decode cX4_bar 30 = .ok (.iload_n 3, 1) := by decide +kernel
theorem dX4_bar_31 : decode cX4_bar 31 = .ok (.ifCond .ne 5, 3) := by decide +kernel
theorem dX4_bar_34 : decode cX4_bar 34 = .ok (.iconst 1, 1) := by decide +kernel
theorem dX4_bar_35 : decode cX4_bar 35 = .ok (.ireturn, 1) := by decide +kernel
theorem dX4_bar_36 : decode cX4_bar 36 = .ok (.iload_n 3, 1) := by decide +kernel
theorem dX4_bar_37 : decode cX4_bar 37 = .ok (.aload_n 0, 1) := by decide +kernel
theorem dX4_bar_38 : decode cX4_bar 38 = .ok (.getfield 12, 3) := by decide +kernel
theorem dX4_bar_41 : decode cX4_bar 41 = .ok (.aload_n 0, 1) := by decide +kernel
theorem dX4_bar_42 : decode cX4_bar 42 = .ok (.getfield 19, 3) := by decide +kernel
theorem dX4_bar_45 : decode cX4_bar 45 = .ok (.iload_n 2, 1) := by decide +kernel
theorem dX4_bar_46 : decode cX4_bar 46 = .ok (.invokevirtual 128, 3) := by decide +kernel
theorem dX4_bar_49 : decode cX4_bar 49 = .ok (.invokevirtual 148, 3) := by decide +kernel
theorem dX4_bar_52 : decode cX4_bar 52 = .ok (.iand, 1) := by decide +kernel
theorem dX4_bar_53 : decode cX4_bar 53 = .ok (.istore_n 3, 1) := by decide +kernel
theorem dX4_bar_54 : decode cX4_bar 54 = .ok (.iload_n 3, 1) := by decide +kernel
theorem dX4_bar_55 : decode cX4_bar 55 = .ok (.ifCond .ne 5, 3) := by decide +kernel
theorem dX4_bar_58 : decode cX4_bar 58 = .ok (.iconst 2, 1) := by decide +kernel
theorem dX4_bar_59 : decode cX4_bar 59 = .ok (.ireturn, 1) := by decide +kernel
theorem dX4_bar_60 : decode cX4_bar 60 = .ok (.iload_n 3, 1) := by decide +kernel
theorem dX4_bar_61 : decode cX4_bar 61 = .ok (.aload_n 0, 1) := by decide +kernel
theorem dX4_bar_62 : decode cX4_bar 62 = .ok (.getfield 12, 3) := by decide +kernel
theorem dX4_bar_65 : decode cX4_bar 65 = .ok (.aload_n 0, 1) := by decide +kernel
theorem dX4_bar_66 : decode cX4_bar 66 = .ok (.getfield 19, 3) := by decide +kernel
theorem dX4_bar_69 : decode cX4_bar 69 = .ok (.iload_n 2, 1) := by decide +kernel
theorem dX4_bar_70 : decode cX4_bar 70 = .ok (.invokevirtual 131, 3) := by decide +kernel
theorem dX4_bar_73 : decode cX4_bar 73 = .ok (.invokevirtual 151, 3) := by decide +kernel
theorem dX4_bar_76 : decode cX4_bar 76 = .ok (.iand, 1) := by decide +kernel
theorem dX4_bar_77 : decode cX4_bar 77 = .ok (.istore_n 3, 1) := by decide +kernel
theorem dX4_bar_78 : decode cX4_bar 78 = .ok (.iload_n 3, 1) := by decide +kernel
theorem dX4_bar_79 : decode cX4_bar 79 = .ok (.ifCond .ne 5, 3) := by decide +kernel
theorem dX4_bar_82 : decode cX4_bar 82 = .ok (.iconst 3, 1) := by decide +kernel
theorem dX4_bar_83 : decode cX4_bar 83 = .ok (.ireturn, 1) := by decide +kernel
theorem dX4_bar_84 : decode cX4_bar 84 = .ok (.aload_n 0, 1) := by decide +kernel
theorem dX4_bar_85 : decode cX4_bar 85 = .ok (.getfield 19, 3) := by decide +kernel
theorem dX4_bar_88 : decode cX4_bar 88 = .ok (.iload_n 2, 1) := by decide +kernel
theorem dX4_bar_89 : decode cX4_bar 89 = .ok (.invokevirtual 154, 3) := by decide +kernel
theorem dX4_bar_92 : decode cX4_bar 92 = .ok (.ifCond .eq 7, 3) := by decide +kernel
theorem dX4_bar_95 : decode cX4_bar 95 = .ok (.iconst 4, 1) := by decide +kernel
theorem dX4_bar_96 : decode cX4_bar 96 = .ok (.goto 4, 3) := by decide +kernel
theorem dX4_bar_99 : decode cX4_bar 99 = .ok (.iconst 0, 1) := by decide +kernel
theorem dX4_bar_100 : decode cX4_bar 100 = .ok (.ireturn, 1) := by decide +kernel
theorem dL_fits_0 : decode cL_fits 0 = .ok (.aload_n 3, 1) := by decide +kernel
theorem dL_fits_1 : decode cL_fits 1 = .ok (.iconst 0, 1) := by decide +kernel
theorem dL_fits_2 : decode cL_fits 2 = .ok (.aload_n 0, 1) := by decide +kernel
theorem dL_fits_3 : decode cL_fits 3 = .ok (.iload_n 1, 1) := by decide +kernel
theorem dL_fits_4 : decode cL_fits 4 = .ok (.iload_n 2, 1) := by decide +kernel
theorem dL_fits_5 : decode cL_fits 5 = .ok (.invokevirtual 47, 3) := by decide +kernel
theorem dL_fits_8 : decode cL_fits 8 = .ok (.ifCond .eq 7, 3) := by decide +kernel
theorem dL_fits_11 : decode cL_fits 11 = .ok (.lconst 1, 1) := by decide +kernel
theorem dL_fits_12 : decode cL_fits 12 = .ok (.goto 4, 3) := by decide +kernel
theorem dL_fits_15 : decode cL_fits 15 = .ok (.lconst 0, 1) := by decide +kernel
theorem dL_fits_16 : decode cL_fits 16 = .ok (.lastore, 1) := by decide +kernel
theorem dL_fits_17 : decode cL_fits 17 = .ok (.goto 7, 3) := by decide +kernel
theorem dL_fits_20 : decode cL_fits 20 = .ok (.astore 4, 2) := by decide +kernel
theorem dL_fits_22 : decode cL_fits 22 = .ok (.iconst 1, 1) := by decide +kernel
theorem dL_fits_23 : decode cL_fits 23 = .ok (.ireturn, 1) := by decide +kernel
theorem dL_fits_24 : decode cL_fits 24 = .ok (.iconst 0, 1) := by decide +kernel
theorem dL_fits_25 : decode cL_fits 25 = .ok (.ireturn, 1) := by decide +kernel
theorem dX4_fits_0 : decode cX4_fits 0 = .ok (.aload_n 0, 1) := by decide +kernel
theorem dX4_fits_1 : decode cX4_fits 1 = .ok (.iload_n 1, 1) := by decide +kernel
theorem dX4_fits_2 : decode cX4_fits 2 = .ok (.invokevirtual 157, 3) := by decide +kernel
theorem dX4_fits_5 : decode cX4_fits 5 = .ok (.aload_n 0, 1) := by decide +kernel
theorem dX4_fits_6 : decode cX4_fits 6 = .ok (.iload_n 2, 1) := by decide +kernel
theorem dX4_fits_7 : decode cX4_fits 7 = .ok (.invokevirtual 62, 3) := by decide +kernel
theorem dX4_fits_10 : decode cX4_fits 10 = .ok (.aload_n 0, 1) := by decide +kernel
theorem dX4_fits_11 : decode cX4_fits 11 = .ok (.iconst 1, 1) := by decide +kernel
theorem dX4_fits_12 : decode cX4_fits 12 = .ok (.iload_n 2, 1) := by decide +kernel
theorem dX4_fits_13 : decode cX4_fits 13 = .ok (.ishl, 1) := by decide +kernel
theorem dX4_fits_14 : decode cX4_fits 14 = .ok (.invokevirtual 160, 3) := by decide +kernel
theorem dX4_fits_17 : decode cX4_fits 17 = .ok (.iload_n 1, 1) := by decide +kernel
theorem dX4_fits_18 : decode cX4_fits 18 = .ok (.invokestatic 163, 3) := by decide +kernel
theorem dX4_fits_21 : decode cX4_fits 21 = .ok (.ireturn, 1) := by decide +kernel
theorem dX4_needBox_0 : decode cX4_needBox 0 = .ok (.aload_n 0, 1) := by decide +kernel
theorem dX4_needBox_1 : decode cX4_needBox 1 = .ok (.getfield 12, 3) := by decide +kernel
theorem dX4_needBox_4 : decode cX4_needBox 4 = .ok (.iload_n 1, 1) := by decide +kernel
theorem dX4_needBox_5 : decode cX4_needBox 5 = .ok (.invokevirtual 189, 3) := by decide +kernel
theorem dX4_needBox_8 : decode cX4_needBox 8 = .ok (.ifCond .ne 13, 3) := by decide +kernel
theorem dX4_needBox_11 : decode cX4_needBox 11 = .ok (.new 116, 3) := by decide +kernel
theorem dX4_needBox_14 : decode cX4_needBox 14 = .ok (.dup, 1) := by decide +kernel
theorem dX4_needBox_15 : decode cX4_needBox 15 = .ok (.ldc 190, 2) := by decide +kernel
theorem dX4_needBox_17 : decode cX4_needBox 17 = .ok (.invokespecial 120, 3) := by decide +kernel
theorem dX4_needBox_20 : decode cX4_needBox 20 = .ok (.athrow, 1) := by decide +kernel
theorem dX4_needBox_21 : decode cX4_needBox 21 = .ok (.return_, 1) := by decide +kernel
end
section
theorem dL_used_0 : decode cL_used 0 = .ok (.aload_n 2, 1) := by decide +kernel
theorem dL_used_1 : decode cL_used 1 = .ok (.iconst 0, 1) := by decide +kernel
theorem dL_used_2 : decode cL_used 2 = .ok (.aload_n 0, 1) := by decide +kernel
theorem dL_used_3 : decode cL_used 3 = .ok (.iload_n 1, 1) := by decide +kernel
theorem dL_used_4 : decode cL_used 4 = .ok (.invokevirtual 51, 3) := by decide +kernel
theorem dL_used_7 : decode cL_used 7 = .ok (.i2l, 1) := by decide +kernel
theorem dL_used_8 : decode cL_used 8 = .ok (.lastore, 1) := by decide +kernel
theorem dL_used_9 : decode cL_used 9 = .ok (.goto 12, 3) := by decide +kernel
theorem dL_used_12 : decode cL_used 12 = .ok (.astore_n 3, 1) := by decide +kernel
theorem dL_used_13 : decode cL_used 13 = .ok (.iconst 1, 1) := by decide +kernel
theorem dL_used_14 : decode cL_used 14 = .ok (.ireturn, 1) := by decide +kernel
theorem dL_used_15 : decode cL_used 15 = .ok (.astore_n 3, 1) := by decide +kernel
theorem dL_used_16 : decode cL_used 16 = .ok (.iconst 2, 1) := by decide +kernel
theorem dL_used_17 : decode cL_used 17 = .ok (.ireturn, 1) := by decide +kernel
theorem dL_used_18 : decode cL_used 18 = .ok (.astore_n 3, 1) := by decide +kernel
theorem dL_used_19 : decode cL_used 19 = .ok (.iconst 3, 1) := by decide +kernel
theorem dL_used_20 : decode cL_used 20 = .ok (.ireturn, 1) := by decide +kernel
theorem dL_used_21 : decode cL_used 21 = .ok (.iconst 0, 1) := by decide +kernel
theorem dL_used_22 : decode cL_used 22 = .ok (.ireturn, 1) := by decide +kernel
theorem dX4_used_0 : decode cX4_used 0 = .ok (.iload_n 1, 1) := by decide +kernel
theorem dX4_used_1 : decode cX4_used 1 = .ok (.iconst 0, 1) := by decide +kernel
theorem dX4_used_2 : decode cX4_used 2 = .ok (.iconst 1, 1) := by decide +kernel
theorem dX4_used_3 : decode cX4_used 3 = .ok (.invokestatic 37, 3) := by decide +kernel
theorem dX4_used_6 : decode cX4_used 6 = .ok (.aload_n 0, 1) := by decide +kernel
theorem dX4_used_7 : decode cX4_used 7 = .ok (.getfield 26, 3) := by decide +kernel
theorem dX4_used_10 : decode cX4_used 10 = .ok (.getfield 104, 3) := by decide +kernel
theorem dX4_used_13 : decode cX4_used 13 = .ok (.ifCond .ne 13, 3) := by decide +kernel
theorem dX4_used_16 : decode cX4_used 16 = .ok (.new 167, 3) := by decide +kernel
theorem dX4_used_19 : decode cX4_used 19 = .ok (.dup, 1) := by decide +kernel
theorem dX4_used_20 : decode cX4_used 20 = .ok (.ldc 169, 2) := by decide +kernel
theorem dX4_used_22 : decode cX4_used 22 = .ok (.invokespecial 171, 3) := by decide +kernel
theorem dX4_used_25 : decode cX4_used 25 = .ok (.athrow, 1) := by decide +kernel
theorem dX4_used_26 : decode cX4_used 26 = .ok (.iconst 0, 1) := by decide +kernel
theorem dX4_used_27 : decode cX4_used 27 = .ok (.istore_n 2, 1) := by decide +kernel
theorem dX4_used_28 : decode cX4_used 28 = .ok (.iconst 0, 1) := by decide +kernel
theorem dX4_used_29 : decode cX4_used 29 = .ok (.istore_n 3, 1) := by decide +kernel
theorem dX4_used_30 : decode cX4_used 30 = .ok (.iconst 0, 1) := by decide +kernel
theorem dX4_used_31 : decode cX4_used 31 = .ok (.istore 4, 2) := by decide +kernel
theorem dX4_used_33 : decode cX4_used 33 = .ok (.iload 4, 2) := by decide +kernel
theorem dX4_used_35 : decode cX4_used 35 = .ok (.aload_n 0, 1) := by decide +kernel
theorem dX4_used_36 : decode cX4_used 36 = .ok (.getfield 26, 3) := by decide +kernel
theorem dX4_used_39 : decode cX4_used 39 = .ok (.getfield 111, 3) := by decide +kernel
theorem dX4_used_42 : decode cX4_used 42 = .ok (.if_icmp .ge 47, 3) := by decide +kernel
theorem dX4_used_45 : decode cX4_used 45 = .ok (.iload_n 2, 1) := by decide +kernel
theorem dX4_used_46 : decode cX4_used 46 = .ok (.aload_n 0, 1) := by decide +kernel
theorem dX4_used_47 : decode cX4_used 47 = .ok (.getfield 19, 3) := by decide +kernel
theorem dX4_used_50 : decode cX4_used 50 = .ok (.aload_n 0, 1) := by decide +kernel
theorem dX4_used_51 : decode cX4_used 51 = .ok (.getfield 26, 3) := by decide +kernel
theorem dX4_used_54 : decode cX4_used 54 = .ok (.iload 4, 2) := by decide +kernel
theorem dX4_used_56 : decode cX4_used 56 = .ok (.invokevirtual 125, 3) := by decide +kernel
theorem dX4_used_59 : decode cX4_used 59 = .ok (.invokevirtual 128, 3) := by decide +kernel
theorem dX4_used_62 : decode cX4_used 62 = .ok (.iadd, 1) := by decide +kernel
theorem dX4_used_63 : decode cX4_used 63 = .ok (.istore_n 2, 1) := by decide +kernel
theorem dX4_used_64 : decode cX4_used 64 = .ok (.iload_n 3, 1) := by decide +kernel
theorem dX4_used_65 : decode cX4_used 65 = .ok (.aload_n 0, 1) := by decide +kernel
theorem dX4_used_66 : decode cX4_used 66 = .ok (.getfield 12, 3) := by decide +kernel
theorem dX4_used_69 : decode cX4_used 69 = .ok (.aload_n 0, 1) := by decide +kernel
theorem dX4_used_70 : decode cX4_used 70 = .ok (.getfield 26, 3) := by decide +kernel
theorem dX4_used_73 : decode cX4_used 73 = .ok (.iload 4, 2) := by decide +kernel
theorem dX4_used_75 : decode cX4_used 75 = .ok (.invokevirtual 121, 3) := by decide +kernel
theorem dX4_used_78 : decode cX4_used 78 = .ok (.invokevirtual 172, 3) := by decide +kernel
theorem dX4_used_81 : decode cX4_used 81 = .ok (.iadd, 1) := by decide +kernel
theorem dX4_used_82 : decode cX4_used 82 = .ok (.istore_n 3, 1) := by decide +kernel
theorem dX4_used_83 : decode cX4_used 83 = .ok (.iinc 4 1, 3) := by decide +kernel
theorem dX4_used_86 : decode cX4_used 86 = .ok (.goto (-53), 3) := by decide +kernel
theorem dX4_used_89 : decode cX4_used 89 = .ok (.iload_n 2, 1) := by decide +kernel
theorem dX4_used_90 : decode cX4_used 90 = .ok (.iload_n 3, 1) := by decide +kernel
theorem dX4_used_91 : decode cX4_used 91 = .ok (.invokestatic 175, 3) := by decide +kernel
theorem dX4_used_94 : decode cX4_used 94 = .ok (.istore 4, 2) := by decide +kernel
theorem dX4_used_96 : decode cX4_used 96 = .ok (.iload 4, 2) := by decide +kernel
theorem dX4_used_98 : decode cX4_used 98 = .ok (.ifCond .ne 13, 3) := by decide +kernel
theorem dX4_used_101 : decode cX4_used 101 = .ok (.new 178, 3) := by decide +kernel
theorem dX4_used_104 : decode cX4_used 104 = .ok (.dup, 1) := by decide +kernel
theorem dX4_used_105 : decode cX4_used 105 = .ok (.ldc 180, 2) := by decide +kernel
theorem dX4_used_107 : decode cX4_used 107 = .ok (.invokespecial 182, 3) := by decide +kernel
theorem dX4_used_110 : decode cX4_used 110 = .ok (.athrow, 1) := by decide +kernel
theorem dX4_used_111 : decode cX4_used 111 = .ok (.iload_n 1, 1) := by decide +kernel
theorem dX4_used_112 : decode cX4_used 112 = .ok (.ifCond .ne 7, 3) := by decide +kernel
theorem dX4_used_115 : decode cX4_used 115 = .ok (.iload_n 2, 1) := by decide +kernel
theorem dX4_used_116 : decode cX4_used 116 = .ok (.goto 4, 3) := by decide +kernel
theorem dX4_used_119 : decode cX4_used 119 = .ok (.iload_n 3, 1) := by decide +kernel
theorem dX4_used_120 : decode cX4_used 120 = .ok (.iload 4, 2) := by decide +kernel
theorem dX4_used_122 : decode cX4_used 122 = .ok (.idiv, 1) := by decide +kernel
theorem dX4_used_123 : decode cX4_used 123 = .ok (.ireturn, 1) := by decide +kernel
theorem dX0_roomOf_0 : decode cX0_roomOf 0 = .ok (.aload_n 0, 1) := by decide +kernel
theorem dX0_roomOf_1 : decode cX0_roomOf 1 = .ok (.iload_n 1, 1) := by decide +kernel
theorem dX0_roomOf_2 : decode cX0_roomOf 2 = .ok (.invokevirtual 35, 3) := by decide +kernel
theorem dX0_roomOf_5 : decode cX0_roomOf 5 = .ok (.ifCond .eq 12, 3) := by decide +kernel
theorem dX0_roomOf_8 : decode cX0_roomOf 8 = .ok (.aload_n 0, 1) := by decide +kernel
theorem dX0_roomOf_9 : decode cX0_roomOf 9 = .ok (.getfield 9, 3) := by decide +kernel
theorem dX0_roomOf_12 : decode cX0_roomOf 12 = .ok (.iload_n 1, 1) := by decide +kernel
theorem dX0_roomOf_13 : decode cX0_roomOf 13 = .ok (.iaload, 1) := by decide +kernel
theorem dX0_roomOf_14 : decode cX0_roomOf 14 = .ok (.goto 4, 3) := by decide +kernel
theorem dX0_roomOf_17 : decode cX0_roomOf 17 = .ok (.iconst 0, 1) := by decide +kernel
theorem dX0_roomOf_18 : decode cX0_roomOf 18 = .ok (.ireturn, 1) := by decide +kernel
theorem dX4_commonDivisor_0 : decode cX4_commonDivisor 0 = .ok (.iload_n 0, 1) := by decide +kernel
theorem dX4_commonDivisor_1 : decode cX4_commonDivisor 1 = .ok (.istore_n 2, 1) := by decide +kernel
theorem dX4_commonDivisor_2 : decode cX4_commonDivisor 2 = .ok (.iload_n 1, 1) := by decide +kernel
theorem dX4_commonDivisor_3 : decode cX4_commonDivisor 3 = .ok (.istore_n 3, 1) := by decide +kernel
theorem dX4_commonDivisor_4 : decode cX4_commonDivisor 4 = .ok (.iconst 0, 1) := by decide +kernel
theorem dX4_commonDivisor_5 : decode cX4_commonDivisor 5 = .ok (.istore 4, 2) := by decide +kernel
theorem dX4_commonDivisor_7 : decode cX4_commonDivisor 7 = .ok (.iload 4, 2) := by decide +kernel
theorem dX4_commonDivisor_9 : decode cX4_commonDivisor 9 = .ok (.sipush 1000, 3) := by decide +kernel
theorem dX4_commonDivisor_12 : decode cX4_commonDivisor 12 = .ok (.if_icmp .ge 23, 3) := by decide +kernel
theorem dX4_commonDivisor_15 : decode cX4_commonDivisor 15 = .ok (.iload_n 3, 1) := by decide +kernel
theorem dX4_commonDivisor_16 : decode cX4_commonDivisor 16 = .ok (.ifCond .le 19, 3) := by decide +kernel
theorem dX4_commonDivisor_19 : decode cX4_commonDivisor 19 = .ok (.iload_n 2, 1) := by decide +kernel
theorem dX4_commonDivisor_20 : decode cX4_commonDivisor 20 = .ok (.iload_n 3, 1) := by decide +kernel
theorem dX4_commonDivisor_21 : decode cX4_commonDivisor 21 = .ok (.irem, 1) := by decide +kernel
theorem dX4_commonDivisor_22 : decode cX4_commonDivisor 22 = .ok (.istore 5, 2) := by decide +kernel
theorem dX4_commonDivisor_24 : decode cX4_commonDivisor 24 = .ok (.iload_n 3, 1) := by decide +kernel
theorem dX4_commonDivisor_25 : decode cX4_commonDivisor 25 = .ok (.istore_n 2, 1) := by decide +kernel
theorem dX4_commonDivisor_26 : decode cX4_commonDivisor 26 = .ok (.iload 5, 2) := by decide +kernel
theorem dX4_commonDivisor_28 : decode cX4_commonDivisor 28 = .ok (.istore_n 3, 1) := by decide +kernel
theorem dX4_commonDivisor_29 : decode cX4_commonDivisor 29 = .ok (.iinc 4 1, 3) := by decide +kernel
theorem dX4_commonDivisor_32 : decode cX4_commonDivisor 32 = .ok (.goto (-25), 3) := by decide +kernel
theorem dX4_commonDivisor_35 : decode cX4_commonDivisor 35 = .ok (.iload_n 2, 1) := by decide +kernel
theorem dX4_commonDivisor_36 : decode cX4_commonDivisor 36 = .ok (.ireturn, 1) := by decide +kernel
theorem dL_dimensional_0 : decode cL_dimensional 0 = .ok (.aload_n 3, 1) := by decide +kernel
theorem dL_dimensional_1 : decode cL_dimensional 1 = .ok (.iconst 0, 1) := by decide +kernel
theorem dL_dimensional_2 : decode cL_dimensional 2 = .ok (.aload_n 0, 1) := by decide +kernel
theorem dL_dimensional_3 : decode cL_dimensional 3 = .ok (.iload_n 1, 1) := by decide +kernel
theorem dL_dimensional_4 : decode cL_dimensional 4 = .ok (.iload_n 2, 1) := by decide +kernel
theorem dL_dimensional_5 : decode cL_dimensional 5 = .ok (.invokevirtual 58, 3) := by decide +kernel
theorem dL_dimensional_8 : decode cL_dimensional 8 = .ok (.i2l, 1) := by decide +kernel
theorem dL_dimensional_9 : decode cL_dimensional 9 = .ok (.lastore, 1) := by decide +kernel
theorem dL_dimensional_10 : decode cL_dimensional 10 = .ok (.goto 15, 3) := by decide +kernel
theorem dL_dimensional_13 : decode cL_dimensional 13 = .ok (.astore 4, 2) := by decide +kernel
theorem dL_dimensional_15 : decode cL_dimensional 15 = .ok (.iconst 1, 1) := by decide +kernel
theorem dL_dimensional_16 : decode cL_dimensional 16 = .ok (.ireturn, 1) := by decide +kernel
theorem dL_dimensional_17 : decode cL_dimensional 17 = .ok (.astore 4, 2) := by decide +kernel
theorem dL_dimensional_19 : decode cL_dimensional 19 = .ok (.iconst 2, 1) := by decide +kernel
theorem dL_dimensional_20 : decode cL_dimensional 20 = .ok (.ireturn, 1) := by decide +kernel
theorem dL_dimensional_21 : decode cL_dimensional 21 = .ok (.astore 4, 2) := by decide +kernel
theorem dL_dimensional_23 : decode cL_dimensional 23 = .ok (.iconst 3, 1) := by decide +kernel
theorem dL_dimensional_24 : decode cL_dimensional 24 = .ok (.ireturn, 1) := by decide +kernel
theorem dL_dimensional_25 : decode cL_dimensional 25 = .ok (.iconst 0, 1) := by decide +kernel
theorem dL_dimensional_26 : decode cL_dimensional 26 = .ok (.ireturn, 1) := by decide +kernel
theorem dX4_dimensional_0 : decode cX4_dimensional 0 = .ok (.aload_n 0, 1) := by decide +kernel
theorem dX4_dimensional_1 : decode cX4_dimensional 1 = .ok (.iload_n 1, 1) := by decide +kernel
theorem dX4_dimensional_2 : decode cX4_dimensional 2 = .ok (.invokevirtual 157, 3) := by decide +kernel
theorem dX4_dimensional_5 : decode cX4_dimensional 5 = .ok (.iload_n 2, 1) := by decide +kernel
theorem dX4_dimensional_6 : decode cX4_dimensional 6 = .ok (.ifCond .ge 13, 3) := by decide +kernel
theorem dX4_dimensional_9 : decode cX4_dimensional 9 = .ok (.new 66, 3) := by decide +kernel
theorem dX4_dimensional_12 : decode cX4_dimensional 12 = .ok (.dup, 1) := by decide +kernel
theorem dX4_dimensional_13 : decode cX4_dimensional 13 = .ok (.ldc 183, 2) := by decide +kernel
theorem dX4_dimensional_15 : decode cX4_dimensional 15 = .ok (.invokespecial 70, 3) := by decide +kernel
theorem dX4_dimensional_18 : decode cX4_dimensional 18 = .ok (.athrow, 1) := by decide +kernel
theorem dX4_dimensional_19 : decode cX4_dimensional 19 = .ok (.iload_n 2, 1) := by decide +kernel
theorem dX4_dimensional_20 : decode cX4_dimensional 20 = .ok (.ifCond .ne 13, 3) := by decide +kernel
theorem dX4_dimensional_23 : decode cX4_dimensional 23 = .ok (.new 178, 3) := by decide +kernel
theorem dX4_dimensional_26 : decode cX4_dimensional 26 = .ok (.dup, 1) := by decide +kernel
theorem dX4_dimensional_27 : decode cX4_dimensional 27 = .ok (.ldc 180, 2) := by decide +kernel
theorem dX4_dimensional_29 : decode cX4_dimensional 29 = .ok (.invokespecial 182, 3) := by decide +kernel
theorem dX4_dimensional_32 : decode cX4_dimensional 32 = .ok (.athrow, 1) := by decide +kernel
theorem dX4_dimensional_33 : decode cX4_dimensional 33 = .ok (.aload_n 0, 1) := by decide +kernel
theorem dX4_dimensional_34 : decode cX4_dimensional 34 = .ok (.getfield 12, 3) := by decide +kernel
theorem dX4_dimensional_37 : decode cX4_dimensional 37 = .ok (.iload_n 1, 1) := by decide +kernel
theorem dX4_dimensional_38 : decode cX4_dimensional 38 = .ok (.invokevirtual 172, 3) := by decide +kernel
theorem dX4_dimensional_41 : decode cX4_dimensional 41 = .ok (.iconst 1, 1) := by decide +kernel
theorem dX4_dimensional_42 : decode cX4_dimensional 42 = .ok (.isub, 1) := by decide +kernel
theorem dX4_dimensional_43 : decode cX4_dimensional 43 = .ok (.iload_n 2, 1) := by decide +kernel
theorem dX4_dimensional_44 : decode cX4_dimensional 44 = .ok (.idiv, 1) := by decide +kernel
theorem dX4_dimensional_45 : decode cX4_dimensional 45 = .ok (.iconst 1, 1) := by decide +kernel
theorem dX4_dimensional_46 : decode cX4_dimensional 46 = .ok (.iadd, 1) := by decide +kernel
theorem dX4_dimensional_47 : decode cX4_dimensional 47 = .ok (.ireturn, 1) := by decide +kernel
theorem dX5_init_0 : decode cX5_init 0 = .ok (.aload_n 0, 1) := by decide +kernel
theorem dX5_init_1 : decode cX5_init 1 = .ok (.invokespecial 1, 3) := by decide +kernel
theorem dX5_init_4 : decode cX5_init 4 = .ok (.aload_n 0, 1) := by decide +kernel
theorem dX5_init_5 : decode cX5_init 5 = .ok (.bipush 6, 2) := by decide +kernel
theorem dX5_init_7 : decode cX5_init 7 = .ok (.newarray .int, 2) := by decide +kernel
theorem dX5_init_9 : decode cX5_init 9 = .ok (.putfield 7, 3) := by decide +kernel
theorem dX5_init_12 : decode cX5_init 12 = .ok (.aload_n 0, 1) := by decide +kernel
theorem dX5_init_13 : decode cX5_init 13 = .ok (.bipush 6, 2) := by decide +kernel
theorem dX5_init_15 : decode cX5_init 15 = .ok (.newarray .int, 2) := by decide +kernel
theorem dX5_init_17 : decode cX5_init 17 = .ok (.putfield 13, 3) := by decide +kernel
theorem dX5_init_20 : decode cX5_init 20 = .ok (.aload_n 0, 1) := by decide +kernel
theorem dX5_init_21 : decode cX5_init 21 = .ok (.bipush 6, 2) := by decide +kernel
theorem dX5_init_23 : decode cX5_init 23 = .ok (.newarray .int, 2) := by decide +kernel
theorem dX5_init_25 : decode cX5_init 25 = .ok (.putfield 16, 3) := by decide +kernel
theorem dX5_init_28 : decode cX5_init 28 = .ok (.aload_n 0, 1) := by decide +kernel
theorem dX5_init_29 : decode cX5_init 29 = .ok (.bipush 6, 2) := by decide +kernel
theorem dX5_init_31 : decode cX5_init 31 = .ok (.newarray .int, 2) := by decide +kernel
theorem dX5_init_33 : decode cX5_init 33 = .ok (.putfield 19, 3) := by decide +kernel
theorem dX5_init_36 : decode cX5_init 36 = .ok (.aload_n 0, 1) := by decide +kernel
theorem dX5_init_37 : decode cX5_init 37 = .ok (.bipush 8, 2) := by decide +kernel
theorem dX5_init_39 : decode cX5_init 39 = .ok (.newarray .int, 2) := by decide +kernel
theorem dX5_init_41 : decode cX5_init 41 = .ok (.putfield 22, 3) := by decide +kernel
theorem dX5_init_44 : decode cX5_init 44 = .ok (.aload_n 0, 1) := by decide +kernel
theorem dX5_init_45 : decode cX5_init 45 = .ok (.bipush 8, 2) := by decide +kernel
theorem dX5_init_47 : decode cX5_init 47 = .ok (.newarray .int, 2) := by decide +kernel
theorem dX5_init_49 : decode cX5_init 49 = .ok (.putfield 25, 3) := by decide +kernel
theorem dX5_init_52 : decode cX5_init 52 = .ok (.aload_n 0, 1) := by decide +kernel
theorem dX5_init_53 : decode cX5_init 53 = .ok (.bipush 8, 2) := by decide +kernel
theorem dX5_init_55 : decode cX5_init 55 = .ok (.newarray .int, 2) := by decide +kernel
theorem dX5_init_57 : decode cX5_init 57 = .ok (.putfield 28, 3) := by decide +kernel
theorem dX5_init_60 : decode cX5_init 60 = .ok (.aload_n 0, 1) := by decide +kernel
theorem dX5_init_61 : decode cX5_init 61 = .ok (.bipush 64, 2) := by decide +kernel
theorem dX5_init_63 : decode cX5_init 63 = .ok (.newarray .int, 2) := by decide +kernel
theorem dX5_init_65 : decode cX5_init 65 = .ok (.putfield 31, 3) := by decide +kernel
theorem dX5_init_68 : decode cX5_init 68 = .ok (.aload_n 0, 1) := by decide +kernel
theorem dX5_init_69 : decode cX5_init 69 = .ok (.iconst (-1), 1) := by decide +kernel
theorem dX5_init_70 : decode cX5_init 70 = .ok (.putfield 34, 3) := by decide +kernel
theorem dX5_init_73 : decode cX5_init 73 = .ok (.aload_n 0, 1) := by decide +kernel
theorem dX5_init_74 : decode cX5_init 74 = .ok (.bipush 8, 2) := by decide +kernel
theorem dX5_init_76 : decode cX5_init 76 = .ok (.newarray .int, 2) := by decide +kernel
theorem dX5_init_78 : decode cX5_init 78 = .ok (.putfield 38, 3) := by decide +kernel
theorem dX5_init_81 : decode cX5_init 81 = .ok (.aload_n 0, 1) := by decide +kernel
theorem dX5_init_82 : decode cX5_init 82 = .ok (.bipush 8, 2) := by decide +kernel
theorem dX5_init_84 : decode cX5_init 84 = .ok (.newarray .int, 2) := by decide +kernel
theorem dX5_init_86 : decode cX5_init 86 = .ok (.putfield 41, 3) := by decide +kernel
theorem dX5_init_89 : decode cX5_init 89 = .ok (.aload_n 0, 1) := by decide +kernel
theorem dX5_init_90 : decode cX5_init 90 = .ok (.bipush 8, 2) := by decide +kernel
theorem dX5_init_92 : decode cX5_init 92 = .ok (.newarray .int, 2) := by decide +kernel
theorem dX5_init_94 : decode cX5_init 94 = .ok (.putfield 44, 3) := by decide +kernel
theorem dX5_init_97 : decode cX5_init 97 = .ok (.aload_n 0, 1) := by decide +kernel
theorem dX5_init_98 : decode cX5_init 98 = .ok (.bipush 8, 2) := by decide +kernel
theorem dX5_init_100 : decode cX5_init 100 = .ok (.newarray .int, 2) := by decide +kernel
theorem dX5_init_102 : decode cX5_init 102 = .ok (.putfield 47, 3) := by decide +kernel
theorem dX5_init_105 : decode cX5_init 105 = .ok (.aload_n 0, 1) := by decide +kernel
theorem dX5_init_106 : decode cX5_init 106 = .ok (.bipush 8, 2) := by decide +kernel
theorem dX5_init_108 : decode cX5_init 108 = .ok (.newarray .int, 2) := by decide +kernel
theorem dX5_init_110 : decode cX5_init 110 = .ok (.putfield 50, 3) := by decide +kernel
theorem dX5_init_113 : decode cX5_init 113 = .ok (.return_, 1) := by decide +kernel
theorem dX5_thrown_0 : decode cX5_thrown 0 = .ok (.aload_n 0, 1) := by decide +kernel
theorem dX5_thrown_1 : decode cX5_thrown 1 = .ok (.getfield 53, 3) := by decide +kernel
theorem dX5_thrown_4 : decode cX5_thrown 4 = .ok (.ireturn, 1) := by decide +kernel
theorem dX5_box_0 : decode cX5_box 0 = .ok (.aload_n 0, 1) := by decide +kernel
theorem dX5_box_1 : decode cX5_box 1 = .ok (.iload_n 1, 1) := by decide +kernel
theorem dX5_box_2 : decode cX5_box 2 = .ok (.iconst 1, 1) := by decide +kernel
theorem dX5_box_3 : decode cX5_box 3 = .ok (.sipush 1000, 3) := by decide +kernel
theorem dX5_box_6 : decode cX5_box 6 = .ok (.invokestatic 59, 3) := by decide +kernel
theorem dX5_box_9 : decode cX5_box 9 = .ok (.ifCond .eq 37, 3) := by decide +kernel
theorem dX5_box_12 : decode cX5_box 12 = .ok (.iload_n 2, 1) := by decide +kernel
theorem dX5_box_13 : decode cX5_box 13 = .ok (.iconst 1, 1) := by decide +kernel
theorem dX5_box_14 : decode cX5_box 14 = .ok (.sipush 1000, 3) := by decide +kernel
theorem dX5_box_17 : decode cX5_box 17 = .ok (.invokestatic 59, 3) := by decide +kernel
theorem dX5_box_20 : decode cX5_box 20 = .ok (.ifCond .eq 26, 3) := by decide +kernel
theorem dX5_box_23 : decode cX5_box 23 = .ok (.iload_n 3, 1) := by decide +kernel
theorem dX5_box_24 : decode cX5_box 24 = .ok (.iconst 0, 1) := by decide +kernel
theorem dX5_box_25 : decode cX5_box 25 = .ok (.sipush 1000, 3) := by decide +kernel
theorem dX5_box_28 : decode cX5_box 28 = .ok (.invokestatic 59, 3) := by decide +kernel
theorem dX5_box_31 : decode cX5_box 31 = .ok (.ifCond .eq 15, 3) := by decide +kernel
theorem dX5_box_34 : decode cX5_box 34 = .ok (.iload 4, 2) := by decide +kernel
theorem dX5_box_36 : decode cX5_box 36 = .ok (.iconst 0, 1) := by decide +kernel
theorem dX5_box_37 : decode cX5_box 37 = .ok (.sipush 255, 3) := by decide +kernel
theorem dX5_box_40 : decode cX5_box 40 = .ok (.invokestatic 59, 3) := by decide +kernel
theorem dX5_box_43 : decode cX5_box 43 = .ok (.ifCond .ne 7, 3) := by decide +kernel
theorem dX5_box_46 : decode cX5_box 46 = .ok (.iconst 1, 1) := by decide +kernel
theorem dX5_box_47 : decode cX5_box 47 = .ok (.goto 17, 3) := by decide +kernel
theorem dX5_box_50 : decode cX5_box 50 = .ok (.aload_n 0, 1) := by decide +kernel
theorem dX5_box_51 : decode cX5_box 51 = .ok (.getfield 56, 3) := by decide +kernel
theorem dX5_box_54 : decode cX5_box 54 = .ok (.bipush 6, 2) := by decide +kernel
theorem dX5_box_56 : decode cX5_box 56 = .ok (.if_icmp .ne 7, 3) := by decide +kernel
theorem dX5_box_59 : decode cX5_box 59 = .ok (.iconst 2, 1) := by decide +kernel
theorem dX5_box_60 : decode cX5_box 60 = .ok (.goto 4, 3) := by decide +kernel
theorem dX5_box_63 : decode cX5_box 63 = .ok (.iconst 0, 1) := by decide +kernel
theorem dX5_box_64 : decode cX5_box 64 = .ok (.putfield 53, 3) := by decide +kernel
theorem dX5_box_67 : decode cX5_box 67 = .ok (.aload_n 0, 1) := by decide +kernel
theorem dX5_box_68 : decode cX5_box 68 = .ok (.getfield 53, 3) := by decide +kernel
theorem dX5_box_71 : decode cX5_box 71 = .ok (.ifCond .le 5, 3) := by decide +kernel
theorem dX5_box_74 : decode cX5_box 74 = .ok (.iconst 0, 1) := by decide +kernel
theorem dX5_box_75 : decode cX5_box 75 = .ok (.ireturn, 1) := by decide +kernel
theorem dX5_box_76 : decode cX5_box 76 = .ok (.aload_n 0, 1) := by decide +kernel
theorem dX5_box_77 : decode cX5_box 77 = .ok (.getfield 7, 3) := by decide +kernel
theorem dX5_box_80 : decode cX5_box 80 = .ok (.aload_n 0, 1) := by decide +kernel
theorem dX5_box_81 : decode cX5_box 81 = .ok (.getfield 56, 3) := by decide +kernel
theorem dX5_box_84 : decode cX5_box 84 = .ok (.iload_n 1, 1) := by decide +kernel
theorem dX5_box_85 : decode cX5_box 85 = .ok (.iastore, 1) := by decide +kernel
theorem dX5_box_86 : decode cX5_box 86 = .ok (.aload_n 0, 1) := by decide +kernel
theorem dX5_box_87 : decode cX5_box 87 = .ok (.getfield 13, 3) := by decide +kernel
theorem dX5_box_90 : decode cX5_box 90 = .ok (.aload_n 0, 1) := by decide +kernel
theorem dX5_box_91 : decode cX5_box 91 = .ok (.getfield 56, 3) := by decide +kernel
theorem dX5_box_94 : decode cX5_box 94 = .ok (.iload_n 2, 1) := by decide +kernel
theorem dX5_box_95 : decode cX5_box 95 = .ok (.iastore, 1) := by decide +kernel
theorem dX5_box_96 : decode cX5_box 96 = .ok (.aload_n 0, 1) := by decide +kernel
theorem dX5_box_97 : decode cX5_box 97 = .ok (.getfield 16, 3) := by decide +kernel
theorem dX5_box_100 : decode cX5_box 100 = .ok (.aload_n 0, 1) := by decide +kernel
theorem dX5_box_101 : decode cX5_box 101 = .ok (.getfield 56, 3) := by decide +kernel
theorem dX5_box_104 : decode cX5_box 104 = .ok (.iload_n 3, 1) := by decide +kernel
theorem dX5_box_105 : decode cX5_box 105 = .ok (.iastore, 1) := by decide +kernel
theorem dX5_box_106 : decode cX5_box 106 = .ok (.aload_n 0, 1) := by decide +kernel
theorem dX5_box_107 : decode cX5_box 107 = .ok (.getfield 19, 3) := by decide +kernel
theorem dX5_box_110 : decode cX5_box 110 = .ok (.aload_n 0, 1) := by decide +kernel
theorem dX5_box_111 : decode cX5_box 111 = .ok (.getfield 56, 3) := by decide +kernel
theorem dX5_box_114 : decode cX5_box 114 = .ok (.iload 4, 2) := by decide +kernel
theorem dX5_box_116 : decode cX5_box 116 = .ok (.iastore, 1) := by decide +kernel
theorem dX5_box_117 : decode cX5_box 117 = .ok (.aload_n 0, 1) := by decide +kernel
theorem dX5_box_118 : decode cX5_box 118 = .ok (.dup, 1) := by decide +kernel
theorem dX5_box_119 : decode cX5_box 119 = .ok (.getfield 56, 3) := by decide +kernel
theorem dX5_box_122 : decode cX5_box 122 = .ok (.iconst 1, 1) := by decide +kernel
theorem dX5_box_123 : decode cX5_box 123 = .ok (.iadd, 1) := by decide +kernel
theorem dX5_box_124 : decode cX5_box 124 = .ok (.putfield 56, 3) := by decide +kernel
theorem dX5_box_127 : decode cX5_box 127 = .ok (.aload_n 0, 1) := by decide +kernel
theorem dX5_box_128 : decode cX5_box 128 = .ok (.getfield 56, 3) := by decide +kernel
theorem dX5_box_131 : decode cX5_box 131 = .ok (.iconst 1, 1) := by decide +kernel
theorem dX5_box_132 : decode cX5_box 132 = .ok (.isub, 1) := by decide +kernel
theorem dX5_box_133 : decode cX5_box 133 = .ok (.ireturn, 1) := by decide +kernel
theorem dX5_in_0 : decode cX5_in 0 = .ok (.iload_n 0, 1) := by decide +kernel
theorem dX5_in_1 : decode cX5_in 1 = .ok (.iload_n 1, 1) := by decide +kernel
theorem dX5_in_2 : decode cX5_in 2 = .ok (.if_icmp .lt 12, 3) := by decide +kernel
theorem dX5_in_5 : decode cX5_in 5 = .ok (.iload_n 0, 1) := by decide +kernel
theorem dX5_in_6 : decode cX5_in 6 = .ok (.iload_n 2, 1) := by decide +kernel
theorem dX5_in_7 : decode cX5_in 7 = .ok (.if_icmp .gt 7, 3) := by decide +kernel
theorem dX5_in_10 : decode cX5_in 10 = .ok (.iconst 1, 1) := by decide +kernel
theorem dX5_in_11 : decode cX5_in 11 = .ok (.goto 4, 3) := by decide +kernel
theorem dX5_in_14 : decode cX5_in 14 = .ok (.iconst 0, 1) := by decide +kernel
theorem dX5_in_15 : decode cX5_in 15 = .ok (.ireturn, 1) := by decide +kernel
theorem dX5_unit_0 : decode cX5_unit 0 = .ok (.aload_n 0, 1) := by decide +kernel
theorem dX5_unit_1 : decode cX5_unit 1 = .ok (.iload_n 1, 1) := by decide +kernel
theorem dX5_unit_2 : decode cX5_unit 2 = .ok (.iconst 1, 1) := by decide +kernel
theorem dX5_unit_3 : decode cX5_unit 3 = .ok (.sipush 1000, 3) := by decide +kernel
theorem dX5_unit_6 : decode cX5_unit 6 = .ok (.invokestatic 59, 3) := by decide +kernel
theorem dX5_unit_9 : decode cX5_unit 9 = .ok (.ifCond .eq 24, 3) := by decide +kernel
theorem dX5_unit_12 : decode cX5_unit 12 = .ok (.iload_n 2, 1) := by decide +kernel
theorem dX5_unit_13 : decode cX5_unit 13 = .ok (.iconst 0, 1) := by decide +kernel
theorem dX5_unit_14 : decode cX5_unit 14 = .ok (.sipush 1000, 3) := by decide +kernel
theorem dX5_unit_17 : decode cX5_unit 17 = .ok (.invokestatic 59, 3) := by decide +kernel
theorem dX5_unit_20 : decode cX5_unit 20 = .ok (.ifCond .eq 13, 3) := by decide +kernel
theorem dX5_unit_23 : decode cX5_unit 23 = .ok (.iload_n 3, 1) := by decide +kernel
theorem dX5_unit_24 : decode cX5_unit 24 = .ok (.iconst 0, 1) := by decide +kernel
theorem dX5_unit_25 : decode cX5_unit 25 = .ok (.bipush 7, 2) := by decide +kernel
theorem dX5_unit_27 : decode cX5_unit 27 = .ok (.invokestatic 59, 3) := by decide +kernel
theorem dX5_unit_30 : decode cX5_unit 30 = .ok (.ifCond .ne 7, 3) := by decide +kernel
theorem dX5_unit_33 : decode cX5_unit 33 = .ok (.iconst 1, 1) := by decide +kernel
theorem dX5_unit_34 : decode cX5_unit 34 = .ok (.goto 17, 3) := by decide +kernel
theorem dX5_unit_37 : decode cX5_unit 37 = .ok (.aload_n 0, 1) := by decide +kernel
theorem dX5_unit_38 : decode cX5_unit 38 = .ok (.getfield 63, 3) := by decide +kernel
theorem dX5_unit_41 : decode cX5_unit 41 = .ok (.bipush 8, 2) := by decide +kernel
theorem dX5_unit_43 : decode cX5_unit 43 = .ok (.if_icmp .ne 7, 3) := by decide +kernel
theorem dX5_unit_46 : decode cX5_unit 46 = .ok (.iconst 2, 1) := by decide +kernel
theorem dX5_unit_47 : decode cX5_unit 47 = .ok (.goto 4, 3) := by decide +kernel
theorem dX5_unit_50 : decode cX5_unit 50 = .ok (.iconst 0, 1) := by decide +kernel
theorem dX5_unit_51 : decode cX5_unit 51 = .ok (.putfield 53, 3) := by decide +kernel
theorem dX5_unit_54 : decode cX5_unit 54 = .ok (.aload_n 0, 1) := by decide +kernel
theorem dX5_unit_55 : decode cX5_unit 55 = .ok (.getfield 53, 3) := by decide +kernel
theorem dX5_unit_58 : decode cX5_unit 58 = .ok (.ifCond .le 5, 3) := by decide +kernel
theorem dX5_unit_61 : decode cX5_unit 61 = .ok (.iconst 0, 1) := by decide +kernel
theorem dX5_unit_62 : decode cX5_unit 62 = .ok (.ireturn, 1) := by decide +kernel
theorem dX5_unit_63 : decode cX5_unit 63 = .ok (.aload_n 0, 1) := by decide +kernel
theorem dX5_unit_64 : decode cX5_unit 64 = .ok (.getfield 22, 3) := by decide +kernel
theorem dX5_unit_67 : decode cX5_unit 67 = .ok (.aload_n 0, 1) := by decide +kernel
theorem dX5_unit_68 : decode cX5_unit 68 = .ok (.getfield 63, 3) := by decide +kernel
theorem dX5_unit_71 : decode cX5_unit 71 = .ok (.iload_n 1, 1) := by decide +kernel
theorem dX5_unit_72 : decode cX5_unit 72 = .ok (.iastore, 1) := by decide +kernel
theorem dX5_unit_73 : decode cX5_unit 73 = .ok (.aload_n 0, 1) := by decide +kernel
theorem dX5_unit_74 : decode cX5_unit 74 = .ok (.getfield 25, 3) := by decide +kernel
theorem dX5_unit_77 : decode cX5_unit 77 = .ok (.aload_n 0, 1) := by decide +kernel
theorem dX5_unit_78 : decode cX5_unit 78 = .ok (.getfield 63, 3) := by decide +kernel
theorem dX5_unit_81 : decode cX5_unit 81 = .ok (.iload_n 2, 1) := by decide +kernel
theorem dX5_unit_82 : decode cX5_unit 82 = .ok (.iastore, 1) := by decide +kernel
theorem dX5_unit_83 : decode cX5_unit 83 = .ok (.aload_n 0, 1) := by decide +kernel
theorem dX5_unit_84 : decode cX5_unit 84 = .ok (.getfield 28, 3) := by decide +kernel
theorem dX5_unit_87 : decode cX5_unit 87 = .ok (.aload_n 0, 1) := by decide +kernel
theorem dX5_unit_88 : decode cX5_unit 88 = .ok (.getfield 63, 3) := by decide +kernel
theorem dX5_unit_91 : decode cX5_unit 91 = .ok (.iload_n 3, 1) := by decide +kernel
theorem dX5_unit_92 : decode cX5_unit 92 = .ok (.iastore, 1) := by decide +kernel
theorem dX5_unit_93 : decode cX5_unit 93 = .ok (.aload_n 0, 1) := by decide +kernel
theorem dX5_unit_94 : decode cX5_unit 94 = .ok (.dup, 1) := by decide +kernel
theorem dX5_unit_95 : decode cX5_unit 95 = .ok (.getfield 63, 3) := by decide +kernel
theorem dX5_unit_98 : decode cX5_unit 98 = .ok (.iconst 1, 1) := by decide +kernel
theorem dX5_unit_99 : decode cX5_unit 99 = .ok (.iadd, 1) := by decide +kernel
theorem dX5_unit_100 : decode cX5_unit 100 = .ok (.putfield 63, 3) := by decide +kernel
theorem dX5_unit_103 : decode cX5_unit 103 = .ok (.aload_n 0, 1) := by decide +kernel
theorem dX5_unit_104 : decode cX5_unit 104 = .ok (.getfield 63, 3) := by decide +kernel
theorem dX5_unit_107 : decode cX5_unit 107 = .ok (.iconst 1, 1) := by decide +kernel
theorem dX5_unit_108 : decode cX5_unit 108 = .ok (.isub, 1) := by decide +kernel
theorem dX5_unit_109 : decode cX5_unit 109 = .ok (.ireturn, 1) := by decide +kernel
theorem dX5_group_0 : decode cX5_group 0 = .ok (.aload_n 0, 1) := by decide +kernel
theorem dX5_group_1 : decode cX5_group 1 = .ok (.aload_n 0, 1) := by decide +kernel
theorem dX5_group_2 : decode cX5_group 2 = .ok (.iload_n 1, 1) := by decide +kernel
theorem dX5_group_3 : decode cX5_group 3 = .ok (.invokevirtual 66, 3) := by decide +kernel
theorem dX5_group_6 : decode cX5_group 6 = .ok (.ifCond .eq 11, 3) := by decide +kernel
theorem dX5_group_9 : decode cX5_group 9 = .ok (.aload_n 0, 1) := by decide +kernel
theorem dX5_group_10 : decode cX5_group 10 = .ok (.iload_n 2, 1) := by decide +kernel
theorem dX5_group_11 : decode cX5_group 11 = .ok (.invokevirtual 66, 3) := by decide +kernel
theorem dX5_group_14 : decode cX5_group 14 = .ok (.ifCond .ne 7, 3) := by decide +kernel
theorem dX5_group_17 : decode cX5_group 17 = .ok (.iconst 1, 1) := by decide +kernel
theorem dX5_group_18 : decode cX5_group 18 = .ok (.goto 22, 3) := by decide +kernel
theorem dX5_group_21 : decode cX5_group 21 = .ok (.iload_n 3, 1) := by decide +kernel
theorem dX5_group_22 : decode cX5_group 22 = .ok (.iconst 0, 1) := by decide +kernel
theorem dX5_group_23 : decode cX5_group 23 = .ok (.iconst 2, 1) := by decide +kernel
theorem dX5_group_24 : decode cX5_group 24 = .ok (.invokestatic 59, 3) := by decide +kernel
theorem dX5_group_27 : decode cX5_group 27 = .ok (.ifCond .eq 8, 3) := by decide +kernel
theorem dX5_group_30 : decode cX5_group 30 = .ok (.iload_n 1, 1) := by decide +kernel
theorem dX5_group_31 : decode cX5_group 31 = .ok (.iload_n 2, 1) := by decide +kernel
theorem dX5_group_32 : decode cX5_group 32 = .ok (.if_icmp .ne 7, 3) := by decide +kernel
theorem dX5_group_35 : decode cX5_group 35 = .ok (.iconst 2, 1) := by decide +kernel
theorem dX5_group_36 : decode cX5_group 36 = .ok (.goto 4, 3) := by decide +kernel
theorem dX5_group_39 : decode cX5_group 39 = .ok (.iconst 0, 1) := by decide +kernel
theorem dX5_group_40 : decode cX5_group 40 = .ok (.putfield 53, 3) := by decide +kernel
theorem dX5_group_43 : decode cX5_group 43 = .ok (.aload_n 0, 1) := by decide +kernel
theorem dX5_group_44 : decode cX5_group 44 = .ok (.getfield 53, 3) := by decide +kernel
theorem dX5_group_47 : decode cX5_group 47 = .ok (.ifCond .le 5, 3) := by decide +kernel
theorem dX5_group_50 : decode cX5_group 50 = .ok (.iconst 0, 1) := by decide +kernel
theorem dX5_group_51 : decode cX5_group 51 = .ok (.ireturn, 1) := by decide +kernel
theorem dX5_group_52 : decode cX5_group 52 = .ok (.aload_n 0, 1) := by decide +kernel
theorem dX5_group_53 : decode cX5_group 53 = .ok (.getfield 31, 3) := by decide +kernel
theorem dX5_group_56 : decode cX5_group 56 = .ok (.bipush 8, 2) := by decide +kernel
theorem dX5_group_58 : decode cX5_group 58 = .ok (.iload_n 1, 1) := by decide +kernel
theorem dX5_group_59 : decode cX5_group 59 = .ok (.imul, 1) := by decide +kernel
theorem dX5_group_60 : decode cX5_group 60 = .ok (.iload_n 2, 1) := by decide +kernel
theorem dX5_group_61 : decode cX5_group 61 = .ok (.iadd, 1) := by decide +kernel
theorem dX5_group_62 : decode cX5_group 62 = .ok (.iaload, 1) := by decide +kernel
theorem dX5_group_63 : decode cX5_group 63 = .ok (.istore 4, 2) := by decide +kernel
theorem dX5_group_65 : decode cX5_group 65 = .ok (.aload_n 0, 1) := by decide +kernel
theorem dX5_group_66 : decode cX5_group 66 = .ok (.getfield 31, 3) := by decide +kernel
theorem dX5_group_69 : decode cX5_group 69 = .ok (.bipush 8, 2) := by decide +kernel
theorem dX5_group_71 : decode cX5_group 71 = .ok (.iload_n 1, 1) := by decide +kernel
theorem dX5_group_72 : decode cX5_group 72 = .ok (.imul, 1) := by decide +kernel
theorem dX5_group_73 : decode cX5_group 73 = .ok (.iload_n 2, 1) := by decide +kernel
theorem dX5_group_74 : decode cX5_group 74 = .ok (.iadd, 1) := by decide +kernel
theorem dX5_group_75 : decode cX5_group 75 = .ok (.iload_n 3, 1) := by decide +kernel
theorem dX5_group_76 : decode cX5_group 76 = .ok (.iastore, 1) := by decide +kernel
theorem dX5_group_77 : decode cX5_group 77 = .ok (.aload_n 0, 1) := by decide +kernel
theorem dX5_group_78 : decode cX5_group 78 = .ok (.getfield 31, 3) := by decide +kernel
theorem dX5_group_81 : decode cX5_group 81 = .ok (.bipush 8, 2) := by decide +kernel
theorem dX5_group_83 : decode cX5_group 83 = .ok (.iload_n 2, 1) := by decide +kernel
theorem dX5_group_84 : decode cX5_group 84 = .ok (.imul, 1) := by decide +kernel
theorem dX5_group_85 : decode cX5_group 85 = .ok (.iload_n 1, 1) := by decide +kernel
end
section
theorem dX5_group_86 : decode cX5_group 86 = .ok (.iadd, 1) := by decide +kernel
theorem dX5_group_87 : decode cX5_group 87 = .ok (.iload_n 3, 1) := by decide +kernel
theorem dX5_group_88 : decode cX5_group 88 = .ok (.iastore, 1) := by decide +kernel
theorem dX5_group_89 : decode cX5_group 89 = .ok (.iload 4, 2) := by decide +kernel
theorem dX5_group_91 : decode cX5_group 91 = .ok (.ireturn, 1) := by decide +kernel
theorem dX5_isUnit_0 : decode cX5_isUnit 0 = .ok (.iload_n 1, 1) := by decide +kernel
theorem dX5_isUnit_1 : decode cX5_isUnit 1 = .ok (.iconst 0, 1) := by decide +kernel
theorem dX5_isUnit_2 : decode cX5_isUnit 2 = .ok (.aload_n 0, 1) := by decide +kernel
theorem dX5_isUnit_3 : decode cX5_isUnit 3 = .ok (.getfield 63, 3) := by decide +kernel
theorem dX5_isUnit_6 : decode cX5_isUnit 6 = .ok (.iconst 1, 1) := by decide +kernel
theorem dX5_isUnit_7 : decode cX5_isUnit 7 = .ok (.isub, 1) := by decide +kernel
theorem dX5_isUnit_8 : decode cX5_isUnit 8 = .ok (.invokestatic 59, 3) := by decide +kernel
theorem dX5_isUnit_11 : decode cX5_isUnit 11 = .ok (.ireturn, 1) := by decide +kernel
theorem dX5_change_0 : decode cX5_change 0 = .ok (.aload_n 0, 1) := by decide +kernel
theorem dX5_change_1 : decode cX5_change 1 = .ok (.aload_n 0, 1) := by decide +kernel
theorem dX5_change_2 : decode cX5_change 2 = .ok (.iload_n 1, 1) := by decide +kernel
theorem dX5_change_3 : decode cX5_change 3 = .ok (.invokevirtual 66, 3) := by decide +kernel
theorem dX5_change_6 : decode cX5_change 6 = .ok (.ifCond .ne 7, 3) := by decide +kernel
theorem dX5_change_9 : decode cX5_change 9 = .ok (.iconst 1, 1) := by decide +kernel
theorem dX5_change_10 : decode cX5_change 10 = .ok (.goto 19, 3) := by decide +kernel
theorem dX5_change_13 : decode cX5_change 13 = .ok (.iload_n 2, 1) := by decide +kernel
theorem dX5_change_14 : decode cX5_change 14 = .ok (.iconst 0, 1) := by decide +kernel
theorem dX5_change_15 : decode cX5_change 15 = .ok (.sipush 1000, 3) := by decide +kernel
theorem dX5_change_18 : decode cX5_change 18 = .ok (.invokestatic 59, 3) := by decide +kernel
theorem dX5_change_21 : decode cX5_change 21 = .ok (.ifCond .ne 7, 3) := by decide +kernel
theorem dX5_change_24 : decode cX5_change 24 = .ok (.iconst 2, 1) := by decide +kernel
theorem dX5_change_25 : decode cX5_change 25 = .ok (.goto 4, 3) := by decide +kernel
theorem dX5_change_28 : decode cX5_change 28 = .ok (.iconst 0, 1) := by decide +kernel
theorem dX5_change_29 : decode cX5_change 29 = .ok (.putfield 53, 3) := by decide +kernel
theorem dX5_change_32 : decode cX5_change 32 = .ok (.aload_n 0, 1) := by decide +kernel
theorem dX5_change_33 : decode cX5_change 33 = .ok (.getfield 53, 3) := by decide +kernel
theorem dX5_change_36 : decode cX5_change 36 = .ok (.ifCond .le 5, 3) := by decide +kernel
theorem dX5_change_39 : decode cX5_change 39 = .ok (.iconst 0, 1) := by decide +kernel
theorem dX5_change_40 : decode cX5_change 40 = .ok (.ireturn, 1) := by decide +kernel
theorem dX5_change_41 : decode cX5_change 41 = .ok (.aload_n 0, 1) := by decide +kernel
theorem dX5_change_42 : decode cX5_change 42 = .ok (.getfield 25, 3) := by decide +kernel
theorem dX5_change_45 : decode cX5_change 45 = .ok (.iload_n 1, 1) := by decide +kernel
theorem dX5_change_46 : decode cX5_change 46 = .ok (.iaload, 1) := by decide +kernel
theorem dX5_change_47 : decode cX5_change 47 = .ok (.istore_n 3, 1) := by decide +kernel
theorem dX5_change_48 : decode cX5_change 48 = .ok (.aload_n 0, 1) := by decide +kernel
theorem dX5_change_49 : decode cX5_change 49 = .ok (.getfield 25, 3) := by decide +kernel
theorem dX5_change_52 : decode cX5_change 52 = .ok (.iload_n 1, 1) := by decide +kernel
theorem dX5_change_53 : decode cX5_change 53 = .ok (.iload_n 2, 1) := by decide +kernel
theorem dX5_change_54 : decode cX5_change 54 = .ok (.iastore, 1) := by decide +kernel
theorem dX5_change_55 : decode cX5_change 55 = .ok (.iload_n 3, 1) := by decide +kernel
theorem dX5_change_56 : decode cX5_change 56 = .ok (.ireturn, 1) := by decide +kernel
theorem dX5_slack_0 : decode cX5_slack 0 = .ok (.aload_n 0, 1) := by decide +kernel
theorem dX5_slack_1 : decode cX5_slack 1 = .ok (.iload_n 1, 1) := by decide +kernel
theorem dX5_slack_2 : decode cX5_slack 2 = .ok (.iconst 0, 1) := by decide +kernel
theorem dX5_slack_3 : decode cX5_slack 3 = .ok (.sipush 1000, 3) := by decide +kernel
theorem dX5_slack_6 : decode cX5_slack 6 = .ok (.invokestatic 59, 3) := by decide +kernel
theorem dX5_slack_9 : decode cX5_slack 9 = .ok (.ifCond .eq 7, 3) := by decide +kernel
theorem dX5_slack_12 : decode cX5_slack 12 = .ok (.iconst 0, 1) := by decide +kernel
theorem dX5_slack_13 : decode cX5_slack 13 = .ok (.goto 4, 3) := by decide +kernel
theorem dX5_slack_16 : decode cX5_slack 16 = .ok (.iconst 1, 1) := by decide +kernel
theorem dX5_slack_17 : decode cX5_slack 17 = .ok (.putfield 53, 3) := by decide +kernel
theorem dX5_slack_20 : decode cX5_slack 20 = .ok (.aload_n 0, 1) := by decide +kernel
theorem dX5_slack_21 : decode cX5_slack 21 = .ok (.getfield 53, 3) := by decide +kernel
theorem dX5_slack_24 : decode cX5_slack 24 = .ok (.ifCond .ne 8, 3) := by decide +kernel
theorem dX5_slack_27 : decode cX5_slack 27 = .ok (.aload_n 0, 1) := by decide +kernel
theorem dX5_slack_28 : decode cX5_slack 28 = .ok (.iload_n 1, 1) := by decide +kernel
theorem dX5_slack_29 : decode cX5_slack 29 = .ok (.putfield 70, 3) := by decide +kernel
theorem dX5_slack_32 : decode cX5_slack 32 = .ok (.return_, 1) := by decide +kernel
theorem dX5_choose_0 : decode cX5_choose 0 = .ok (.aload_n 0, 1) := by decide +kernel
theorem dX5_choose_1 : decode cX5_choose 1 = .ok (.iload_n 1, 1) := by decide +kernel
theorem dX5_choose_2 : decode cX5_choose 2 = .ok (.iconst 0, 1) := by decide +kernel
theorem dX5_choose_3 : decode cX5_choose 3 = .ok (.bipush 6, 2) := by decide +kernel
theorem dX5_choose_5 : decode cX5_choose 5 = .ok (.invokestatic 59, 3) := by decide +kernel
theorem dX5_choose_8 : decode cX5_choose 8 = .ok (.ifCond .eq 7, 3) := by decide +kernel
theorem dX5_choose_11 : decode cX5_choose 11 = .ok (.iconst 0, 1) := by decide +kernel
theorem dX5_choose_12 : decode cX5_choose 12 = .ok (.goto 4, 3) := by decide +kernel
theorem dX5_choose_15 : decode cX5_choose 15 = .ok (.iconst 1, 1) := by decide +kernel
theorem dX5_choose_16 : decode cX5_choose 16 = .ok (.putfield 53, 3) := by decide +kernel
theorem dX5_choose_19 : decode cX5_choose 19 = .ok (.aload_n 0, 1) := by decide +kernel
theorem dX5_choose_20 : decode cX5_choose 20 = .ok (.getfield 53, 3) := by decide +kernel
theorem dX5_choose_23 : decode cX5_choose 23 = .ok (.ifCond .le 5, 3) := by decide +kernel
theorem dX5_choose_26 : decode cX5_choose 26 = .ok (.iconst 0, 1) := by decide +kernel
theorem dX5_choose_27 : decode cX5_choose 27 = .ok (.ireturn, 1) := by decide +kernel
theorem dX5_choose_28 : decode cX5_choose 28 = .ok (.aload_n 0, 1) := by decide +kernel
theorem dX5_choose_29 : decode cX5_choose 29 = .ok (.iconst (-1), 1) := by decide +kernel
theorem dX5_choose_30 : decode cX5_choose 30 = .ok (.putfield 34, 3) := by decide +kernel
theorem dX5_choose_33 : decode cX5_choose 33 = .ok (.aload_n 0, 1) := by decide +kernel
theorem dX5_choose_34 : decode cX5_choose 34 = .ok (.getfield 63, 3) := by decide +kernel
theorem dX5_choose_37 : decode cX5_choose 37 = .ok (.iload_n 1, 1) := by decide +kernel
theorem dX5_choose_38 : decode cX5_choose 38 = .ok (.if_icmp .gt 7, 3) := by decide +kernel
theorem dX5_choose_41 : decode cX5_choose 41 = .ok (.iconst 1, 1) := by decide +kernel
theorem dX5_choose_42 : decode cX5_choose 42 = .ok (.goto 4, 3) := by decide +kernel
theorem dX5_choose_45 : decode cX5_choose 45 = .ok (.iconst 0, 1) := by decide +kernel
theorem dX5_choose_46 : decode cX5_choose 46 = .ok (.istore_n 2, 1) := by decide +kernel
theorem dX5_choose_47 : decode cX5_choose 47 = .ok (.iload_n 2, 1) := by decide +kernel
theorem dX5_choose_48 : decode cX5_choose 48 = .ok (.ifCond .eq 10, 3) := by decide +kernel
theorem dX5_choose_51 : decode cX5_choose 51 = .ok (.aload_n 0, 1) := by decide +kernel
theorem dX5_choose_52 : decode cX5_choose 52 = .ok (.invokevirtual 125, 3) := by decide +kernel
theorem dX5_choose_55 : decode cX5_choose 55 = .ok (.goto 7, 3) := by decide +kernel
theorem dX5_choose_58 : decode cX5_choose 58 = .ok (.aload_n 0, 1) := by decide +kernel
theorem dX5_choose_59 : decode cX5_choose 59 = .ok (.invokevirtual 128, 3) := by decide +kernel
theorem dX5_choose_62 : decode cX5_choose 62 = .ok (.aload_n 0, 1) := by decide +kernel
theorem dX5_choose_63 : decode cX5_choose 63 = .ok (.iload_n 2, 1) := by decide +kernel
theorem dX5_choose_64 : decode cX5_choose 64 = .ok (.ifCond .eq 15, 3) := by decide +kernel
theorem dX5_choose_67 : decode cX5_choose 67 = .ok (.aload_n 0, 1) := by decide +kernel
theorem dX5_choose_68 : decode cX5_choose 68 = .ok (.getfield 34, 3) := by decide +kernel
theorem dX5_choose_71 : decode cX5_choose 71 = .ok (.iconst (-1), 1) := by decide +kernel
theorem dX5_choose_72 : decode cX5_choose 72 = .ok (.if_icmp .eq 7, 3) := by decide +kernel
theorem dX5_choose_75 : decode cX5_choose 75 = .ok (.iconst 1, 1) := by decide +kernel
theorem dX5_choose_76 : decode cX5_choose 76 = .ok (.goto 4, 3) := by decide +kernel
theorem dX5_choose_79 : decode cX5_choose 79 = .ok (.iconst 0, 1) := by decide +kernel
theorem dX5_choose_80 : decode cX5_choose 80 = .ok (.putfield 131, 3) := by decide +kernel
theorem dX5_choose_83 : decode cX5_choose 83 = .ok (.aload_n 0, 1) := by decide +kernel
theorem dX5_choose_84 : decode cX5_choose 84 = .ok (.getfield 34, 3) := by decide +kernel
theorem dX5_choose_87 : decode cX5_choose 87 = .ok (.iconst (-1), 1) := by decide +kernel
theorem dX5_choose_88 : decode cX5_choose 88 = .ok (.if_icmp .ne 7, 3) := by decide +kernel
theorem dX5_choose_91 : decode cX5_choose 91 = .ok (.iconst (-1), 1) := by decide +kernel
theorem dX5_choose_92 : decode cX5_choose 92 = .ok (.goto 15, 3) := by decide +kernel
theorem dX5_choose_95 : decode cX5_choose 95 = .ok (.aload_n 0, 1) := by decide +kernel
theorem dX5_choose_96 : decode cX5_choose 96 = .ok (.aload_n 0, 1) := by decide +kernel
theorem dX5_choose_97 : decode cX5_choose 97 = .ok (.getfield 38, 3) := by decide +kernel
theorem dX5_choose_100 : decode cX5_choose 100 = .ok (.aload_n 0, 1) := by decide +kernel
theorem dX5_choose_101 : decode cX5_choose 101 = .ok (.getfield 34, 3) := by decide +kernel
theorem dX5_choose_104 : decode cX5_choose 104 = .ok (.invokevirtual 102, 3) := by decide +kernel
theorem dX5_choose_107 : decode cX5_choose 107 = .ok (.ireturn, 1) := by decide +kernel
theorem dX5_exactly_0 : decode cX5_exactly 0 = .ok (.iconst 0, 1) := by decide +kernel
theorem dX5_exactly_1 : decode cX5_exactly 1 = .ok (.istore_n 1, 1) := by decide +kernel
theorem dX5_exactly_2 : decode cX5_exactly 2 = .ok (.iload_n 1, 1) := by decide +kernel
theorem dX5_exactly_3 : decode cX5_exactly 3 = .ok (.aload_n 0, 1) := by decide +kernel
theorem dX5_exactly_4 : decode cX5_exactly 4 = .ok (.getfield 63, 3) := by decide +kernel
theorem dX5_exactly_7 : decode cX5_exactly 7 = .ok (.if_icmp .ge 16, 3) := by decide +kernel
theorem dX5_exactly_10 : decode cX5_exactly 10 = .ok (.aload_n 0, 1) := by decide +kernel
theorem dX5_exactly_11 : decode cX5_exactly 11 = .ok (.getfield 50, 3) := by decide +kernel
theorem dX5_exactly_14 : decode cX5_exactly 14 = .ok (.iload_n 1, 1) := by decide +kernel
theorem dX5_exactly_15 : decode cX5_exactly 15 = .ok (.iconst 0, 1) := by decide +kernel
theorem dX5_exactly_16 : decode cX5_exactly 16 = .ok (.iastore, 1) := by decide +kernel
theorem dX5_exactly_17 : decode cX5_exactly 17 = .ok (.iinc 1 1, 3) := by decide +kernel
theorem dX5_exactly_20 : decode cX5_exactly 20 = .ok (.goto (-18), 3) := by decide +kernel
theorem dX5_exactly_23 : decode cX5_exactly 23 = .ok (.iconst 1, 1) := by decide +kernel
theorem dX5_exactly_24 : decode cX5_exactly 24 = .ok (.istore_n 1, 1) := by decide +kernel
theorem dX5_exactly_25 : decode cX5_exactly 25 = .ok (.iload_n 1, 1) := by decide +kernel
theorem dX5_exactly_26 : decode cX5_exactly 26 = .ok (.ifCond .eq 29, 3) := by decide +kernel
theorem dX5_exactly_29 : decode cX5_exactly 29 = .ok (.aload_n 0, 1) := by decide +kernel
theorem dX5_exactly_30 : decode cX5_exactly 30 = .ok (.invokevirtual 109, 3) := by decide +kernel
theorem dX5_exactly_33 : decode cX5_exactly 33 = .ok (.ifCond .eq 14, 3) := by decide +kernel
theorem dX5_exactly_36 : decode cX5_exactly 36 = .ok (.aload_n 0, 1) := by decide +kernel
theorem dX5_exactly_37 : decode cX5_exactly 37 = .ok (.invokevirtual 113, 3) := by decide +kernel
theorem dX5_exactly_40 : decode cX5_exactly 40 = .ok (.ifCond .eq 7, 3) := by decide +kernel
theorem dX5_exactly_43 : decode cX5_exactly 43 = .ok (.aload_n 0, 1) := by decide +kernel
theorem dX5_exactly_44 : decode cX5_exactly 44 = .ok (.invokevirtual 116, 3) := by decide +kernel
theorem dX5_exactly_47 : decode cX5_exactly 47 = .ok (.aload_n 0, 1) := by decide +kernel
theorem dX5_exactly_48 : decode cX5_exactly 48 = .ok (.invokevirtual 119, 3) := by decide +kernel
theorem dX5_exactly_51 : decode cX5_exactly 51 = .ok (.istore_n 1, 1) := by decide +kernel
theorem dX5_exactly_52 : decode cX5_exactly 52 = .ok (.goto (-27), 3) := by decide +kernel
theorem dX5_exactly_55 : decode cX5_exactly 55 = .ok (.return_, 1) := by decide +kernel
theorem dX5_isWay_0 : decode cX5_isWay 0 = .ok (.aload_n 0, 1) := by decide +kernel
theorem dX5_isWay_1 : decode cX5_isWay 1 = .ok (.iconst 0, 1) := by decide +kernel
theorem dX5_isWay_2 : decode cX5_isWay 2 = .ok (.putfield 99, 3) := by decide +kernel
theorem dX5_isWay_5 : decode cX5_isWay 5 = .ok (.iconst 0, 1) := by decide +kernel
theorem dX5_isWay_6 : decode cX5_isWay 6 = .ok (.istore_n 1, 1) := by decide +kernel
theorem dX5_isWay_7 : decode cX5_isWay 7 = .ok (.iload_n 1, 1) := by decide +kernel
theorem dX5_isWay_8 : decode cX5_isWay 8 = .ok (.bipush 8, 2) := by decide +kernel
theorem dX5_isWay_10 : decode cX5_isWay 10 = .ok (.if_icmp .ge 16, 3) := by decide +kernel
theorem dX5_isWay_13 : decode cX5_isWay 13 = .ok (.aload_n 0, 1) := by decide +kernel
theorem dX5_isWay_14 : decode cX5_isWay 14 = .ok (.getfield 47, 3) := by decide +kernel
theorem dX5_isWay_17 : decode cX5_isWay 17 = .ok (.iload_n 1, 1) := by decide +kernel
theorem dX5_isWay_18 : decode cX5_isWay 18 = .ok (.iconst 0, 1) := by decide +kernel
theorem dX5_isWay_19 : decode cX5_isWay 19 = .ok (.iastore, 1) := by decide +kernel
theorem dX5_isWay_20 : decode cX5_isWay 20 = .ok (.iinc 1 1, 3) := by decide +kernel
theorem dX5_isWay_23 : decode cX5_isWay 23 = .ok (.goto (-16), 3) := by decide +kernel
theorem dX5_isWay_26 : decode cX5_isWay 26 = .ok (.iconst 0, 1) := by decide +kernel
theorem dX5_isWay_27 : decode cX5_isWay 27 = .ok (.istore_n 1, 1) := by decide +kernel
theorem dX5_isWay_28 : decode cX5_isWay 28 = .ok (.iload_n 1, 1) := by decide +kernel
theorem dX5_isWay_29 : decode cX5_isWay 29 = .ok (.aload_n 0, 1) := by decide +kernel
theorem dX5_isWay_30 : decode cX5_isWay 30 = .ok (.getfield 63, 3) := by decide +kernel
theorem dX5_isWay_33 : decode cX5_isWay 33 = .ok (.if_icmp .ge 60, 3) := by decide +kernel
theorem dX5_isWay_36 : decode cX5_isWay 36 = .ok (.aload_n 0, 1) := by decide +kernel
theorem dX5_isWay_37 : decode cX5_isWay 37 = .ok (.getfield 47, 3) := by decide +kernel
theorem dX5_isWay_40 : decode cX5_isWay 40 = .ok (.aload_n 0, 1) := by decide +kernel
theorem dX5_isWay_41 : decode cX5_isWay 41 = .ok (.getfield 50, 3) := by decide +kernel
theorem dX5_isWay_44 : decode cX5_isWay 44 = .ok (.iload_n 1, 1) := by decide +kernel
theorem dX5_isWay_45 : decode cX5_isWay 45 = .ok (.iaload, 1) := by decide +kernel
theorem dX5_isWay_46 : decode cX5_isWay 46 = .ok (.dup2, 1) := by decide +kernel
theorem dX5_isWay_47 : decode cX5_isWay 47 = .ok (.iaload, 1) := by decide +kernel
theorem dX5_isWay_48 : decode cX5_isWay 48 = .ok (.iconst 1, 1) := by decide +kernel
theorem dX5_isWay_49 : decode cX5_isWay 49 = .ok (.iload_n 1, 1) := by decide +kernel
theorem dX5_isWay_50 : decode cX5_isWay 50 = .ok (.ishl, 1) := by decide +kernel
theorem dX5_isWay_51 : decode cX5_isWay 51 = .ok (.ior, 1) := by decide +kernel
theorem dX5_isWay_52 : decode cX5_isWay 52 = .ok (.iastore, 1) := by decide +kernel
theorem dX5_isWay_53 : decode cX5_isWay 53 = .ok (.aload_n 0, 1) := by decide +kernel
theorem dX5_isWay_54 : decode cX5_isWay 54 = .ok (.aload_n 0, 1) := by decide +kernel
theorem dX5_isWay_55 : decode cX5_isWay 55 = .ok (.getfield 50, 3) := by decide +kernel
theorem dX5_isWay_58 : decode cX5_isWay 58 = .ok (.iload_n 1, 1) := by decide +kernel
theorem dX5_isWay_59 : decode cX5_isWay 59 = .ok (.iaload, 1) := by decide +kernel
theorem dX5_isWay_60 : decode cX5_isWay 60 = .ok (.iconst 1, 1) := by decide +kernel
theorem dX5_isWay_61 : decode cX5_isWay 61 = .ok (.iadd, 1) := by decide +kernel
theorem dX5_isWay_62 : decode cX5_isWay 62 = .ok (.aload_n 0, 1) := by decide +kernel
theorem dX5_isWay_63 : decode cX5_isWay 63 = .ok (.getfield 99, 3) := by decide +kernel
theorem dX5_isWay_66 : decode cX5_isWay 66 = .ok (.if_icmp .le 14, 3) := by decide +kernel
theorem dX5_isWay_69 : decode cX5_isWay 69 = .ok (.aload_n 0, 1) := by decide +kernel
theorem dX5_isWay_70 : decode cX5_isWay 70 = .ok (.getfield 50, 3) := by decide +kernel
theorem dX5_isWay_73 : decode cX5_isWay 73 = .ok (.iload_n 1, 1) := by decide +kernel
theorem dX5_isWay_74 : decode cX5_isWay 74 = .ok (.iaload, 1) := by decide +kernel
theorem dX5_isWay_75 : decode cX5_isWay 75 = .ok (.iconst 1, 1) := by decide +kernel
theorem dX5_isWay_76 : decode cX5_isWay 76 = .ok (.iadd, 1) := by decide +kernel
theorem dX5_isWay_77 : decode cX5_isWay 77 = .ok (.goto 7, 3) := by decide +kernel
theorem dX5_isWay_80 : decode cX5_isWay 80 = .ok (.aload_n 0, 1) := by decide +kernel
theorem dX5_isWay_81 : decode cX5_isWay 81 = .ok (.getfield 99, 3) := by decide +kernel
theorem dX5_isWay_84 : decode cX5_isWay 84 = .ok (.putfield 99, 3) := by decide +kernel
theorem dX5_isWay_87 : decode cX5_isWay 87 = .ok (.iinc 1 1, 3) := by decide +kernel
theorem dX5_isWay_90 : decode cX5_isWay 90 = .ok (.goto (-62), 3) := by decide +kernel
theorem dX5_isWay_93 : decode cX5_isWay 93 = .ok (.iconst 0, 1) := by decide +kernel
theorem dX5_isWay_94 : decode cX5_isWay 94 = .ok (.istore_n 1, 1) := by decide +kernel
theorem dX5_isWay_95 : decode cX5_isWay 95 = .ok (.iload_n 1, 1) := by decide +kernel
theorem dX5_isWay_96 : decode cX5_isWay 96 = .ok (.aload_n 0, 1) := by decide +kernel
theorem dX5_isWay_97 : decode cX5_isWay 97 = .ok (.getfield 99, 3) := by decide +kernel
theorem dX5_isWay_100 : decode cX5_isWay 100 = .ok (.if_icmp .ge 37, 3) := by decide +kernel
theorem dX5_isWay_103 : decode cX5_isWay 103 = .ok (.aload_n 0, 1) := by decide +kernel
theorem dX5_isWay_104 : decode cX5_isWay 104 = .ok (.getfield 44, 3) := by decide +kernel
theorem dX5_isWay_107 : decode cX5_isWay 107 = .ok (.iload_n 1, 1) := by decide +kernel
theorem dX5_isWay_108 : decode cX5_isWay 108 = .ok (.aload_n 0, 1) := by decide +kernel
theorem dX5_isWay_109 : decode cX5_isWay 109 = .ok (.aload_n 0, 1) := by decide +kernel
theorem dX5_isWay_110 : decode cX5_isWay 110 = .ok (.getfield 47, 3) := by decide +kernel
theorem dX5_isWay_113 : decode cX5_isWay 113 = .ok (.iload_n 1, 1) := by decide +kernel
theorem dX5_isWay_114 : decode cX5_isWay 114 = .ok (.iaload, 1) := by decide +kernel
theorem dX5_isWay_115 : decode cX5_isWay 115 = .ok (.invokevirtual 106, 3) := by decide +kernel
theorem dX5_isWay_118 : decode cX5_isWay 118 = .ok (.iastore, 1) := by decide +kernel
theorem dX5_isWay_119 : decode cX5_isWay 119 = .ok (.aload_n 0, 1) := by decide +kernel
theorem dX5_isWay_120 : decode cX5_isWay 120 = .ok (.getfield 44, 3) := by decide +kernel
theorem dX5_isWay_123 : decode cX5_isWay 123 = .ok (.iload_n 1, 1) := by decide +kernel
theorem dX5_isWay_124 : decode cX5_isWay 124 = .ok (.iaload, 1) := by decide +kernel
theorem dX5_isWay_125 : decode cX5_isWay 125 = .ok (.iconst (-1), 1) := by decide +kernel
theorem dX5_isWay_126 : decode cX5_isWay 126 = .ok (.if_icmp .ne 5, 3) := by decide +kernel
theorem dX5_isWay_129 : decode cX5_isWay 129 = .ok (.iconst 0, 1) := by decide +kernel
theorem dX5_isWay_130 : decode cX5_isWay 130 = .ok (.ireturn, 1) := by decide +kernel
theorem dX5_isWay_131 : decode cX5_isWay 131 = .ok (.iinc 1 1, 3) := by decide +kernel
theorem dX5_isWay_134 : decode cX5_isWay 134 = .ok (.goto (-39), 3) := by decide +kernel
theorem dX5_isWay_137 : decode cX5_isWay 137 = .ok (.iconst 1, 1) := by decide +kernel
theorem dX5_isWay_138 : decode cX5_isWay 138 = .ok (.ireturn, 1) := by decide +kernel
theorem dX5_cheapest_0 : decode cX5_cheapest 0 = .ok (.iconst (-1), 1) := by decide +kernel
theorem dX5_cheapest_1 : decode cX5_cheapest 1 = .ok (.istore_n 2, 1) := by decide +kernel
theorem dX5_cheapest_2 : decode cX5_cheapest 2 = .ok (.iconst 0, 1) := by decide +kernel
theorem dX5_cheapest_3 : decode cX5_cheapest 3 = .ok (.istore_n 3, 1) := by decide +kernel
theorem dX5_cheapest_4 : decode cX5_cheapest 4 = .ok (.iload_n 3, 1) := by decide +kernel
theorem dX5_cheapest_5 : decode cX5_cheapest 5 = .ok (.aload_n 0, 1) := by decide +kernel
theorem dX5_cheapest_6 : decode cX5_cheapest 6 = .ok (.getfield 56, 3) := by decide +kernel
theorem dX5_cheapest_9 : decode cX5_cheapest 9 = .ok (.if_icmp .ge 40, 3) := by decide +kernel
theorem dX5_cheapest_12 : decode cX5_cheapest 12 = .ok (.aload_n 0, 1) := by decide +kernel
theorem dX5_cheapest_13 : decode cX5_cheapest 13 = .ok (.iload_n 3, 1) := by decide +kernel
theorem dX5_cheapest_14 : decode cX5_cheapest 14 = .ok (.iload_n 1, 1) := by decide +kernel
theorem dX5_cheapest_15 : decode cX5_cheapest 15 = .ok (.invokevirtual 96, 3) := by decide +kernel
theorem dX5_cheapest_18 : decode cX5_cheapest 18 = .ok (.ifCond .eq 25, 3) := by decide +kernel
theorem dX5_cheapest_21 : decode cX5_cheapest 21 = .ok (.iload_n 2, 1) := by decide +kernel
theorem dX5_cheapest_22 : decode cX5_cheapest 22 = .ok (.iconst (-1), 1) := by decide +kernel
theorem dX5_cheapest_23 : decode cX5_cheapest 23 = .ok (.if_icmp .eq 18, 3) := by decide +kernel
theorem dX5_cheapest_26 : decode cX5_cheapest 26 = .ok (.aload_n 0, 1) := by decide +kernel
theorem dX5_cheapest_27 : decode cX5_cheapest 27 = .ok (.getfield 16, 3) := by decide +kernel
theorem dX5_cheapest_30 : decode cX5_cheapest 30 = .ok (.iload_n 3, 1) := by decide +kernel
theorem dX5_cheapest_31 : decode cX5_cheapest 31 = .ok (.iaload, 1) := by decide +kernel
theorem dX5_cheapest_32 : decode cX5_cheapest 32 = .ok (.aload_n 0, 1) := by decide +kernel
theorem dX5_cheapest_33 : decode cX5_cheapest 33 = .ok (.getfield 16, 3) := by decide +kernel
theorem dX5_cheapest_36 : decode cX5_cheapest 36 = .ok (.iload_n 2, 1) := by decide +kernel
theorem dX5_cheapest_37 : decode cX5_cheapest 37 = .ok (.iaload, 1) := by decide +kernel
theorem dX5_cheapest_38 : decode cX5_cheapest 38 = .ok (.if_icmp .ge 5, 3) := by decide +kernel
theorem dX5_cheapest_41 : decode cX5_cheapest 41 = .ok (.iload_n 3, 1) := by decide +kernel
theorem dX5_cheapest_42 : decode cX5_cheapest 42 = .ok (.istore_n 2, 1) := by decide +kernel
theorem dX5_cheapest_43 : decode cX5_cheapest 43 = .ok (.iinc 3 1, 3) := by decide +kernel
theorem dX5_cheapest_46 : decode cX5_cheapest 46 = .ok (.goto (-42), 3) := by decide +kernel
theorem dX5_cheapest_49 : decode cX5_cheapest 49 = .ok (.iload_n 2, 1) := by decide +kernel
theorem dX5_cheapest_50 : decode cX5_cheapest 50 = .ok (.ireturn, 1) := by decide +kernel
theorem dX5_fitsSet_0 : decode cX5_fitsSet 0 = .ok (.aload_n 0, 1) := by decide +kernel
theorem dX5_fitsSet_1 : decode cX5_fitsSet 1 = .ok (.iload_n 1, 1) := by decide +kernel
theorem dX5_fitsSet_2 : decode cX5_fitsSet 2 = .ok (.iload_n 2, 1) := by decide +kernel
theorem dX5_fitsSet_3 : decode cX5_fitsSet 3 = .ok (.iconst 3, 1) := by decide +kernel
theorem dX5_fitsSet_4 : decode cX5_fitsSet 4 = .ok (.invokevirtual 87, 3) := by decide +kernel
theorem dX5_fitsSet_7 : decode cX5_fitsSet 7 = .ok (.ifCond .eq 23, 3) := by decide +kernel
theorem dX5_fitsSet_10 : decode cX5_fitsSet 10 = .ok (.aload_n 0, 1) := by decide +kernel
theorem dX5_fitsSet_11 : decode cX5_fitsSet 11 = .ok (.iload_n 2, 1) := by decide +kernel
theorem dX5_fitsSet_12 : decode cX5_fitsSet 12 = .ok (.invokevirtual 90, 3) := by decide +kernel
theorem dX5_fitsSet_15 : decode cX5_fitsSet 15 = .ok (.ifCond .ne 15, 3) := by decide +kernel
theorem dX5_fitsSet_18 : decode cX5_fitsSet 18 = .ok (.aload_n 0, 1) := by decide +kernel
theorem dX5_fitsSet_19 : decode cX5_fitsSet 19 = .ok (.iload_n 2, 1) := by decide +kernel
theorem dX5_fitsSet_20 : decode cX5_fitsSet 20 = .ok (.invokevirtual 93, 3) := by decide +kernel
theorem dX5_fitsSet_23 : decode cX5_fitsSet 23 = .ok (.ifCond .eq 7, 3) := by decide +kernel
theorem dX5_fitsSet_26 : decode cX5_fitsSet 26 = .ok (.iconst 1, 1) := by decide +kernel
theorem dX5_fitsSet_27 : decode cX5_fitsSet 27 = .ok (.goto 4, 3) := by decide +kernel
theorem dX5_fitsSet_30 : decode cX5_fitsSet 30 = .ok (.iconst 0, 1) := by decide +kernel
theorem dX5_fitsSet_31 : decode cX5_fitsSet 31 = .ok (.ireturn, 1) := by decide +kernel
theorem dX5_passes_0 : decode cX5_passes 0 = .ok (.iload_n 3, 1) := by decide +kernel
theorem dX5_passes_1 : decode cX5_passes 1 = .ok (.ifCond .le 14, 3) := by decide +kernel
theorem dX5_passes_4 : decode cX5_passes 4 = .ok (.aload_n 0, 1) := by decide +kernel
theorem dX5_passes_5 : decode cX5_passes 5 = .ok (.iload_n 1, 1) := by decide +kernel
theorem dX5_passes_6 : decode cX5_passes 6 = .ok (.iload_n 2, 1) := by decide +kernel
theorem dX5_passes_7 : decode cX5_passes 7 = .ok (.invokevirtual 77, 3) := by decide +kernel
theorem dX5_passes_10 : decode cX5_passes 10 = .ok (.ifCond .ne 5, 3) := by decide +kernel
theorem dX5_passes_13 : decode cX5_passes 13 = .ok (.iconst 0, 1) := by decide +kernel
theorem dX5_passes_14 : decode cX5_passes 14 = .ok (.ireturn, 1) := by decide +kernel
theorem dX5_passes_15 : decode cX5_passes 15 = .ok (.iload_n 3, 1) := by decide +kernel
theorem dX5_passes_16 : decode cX5_passes 16 = .ok (.iconst 1, 1) := by decide +kernel
theorem dX5_passes_17 : decode cX5_passes 17 = .ok (.if_icmp .le 24, 3) := by decide +kernel
theorem dX5_passes_20 : decode cX5_passes 20 = .ok (.aload_n 0, 1) := by decide +kernel
theorem dX5_passes_21 : decode cX5_passes 21 = .ok (.iload_n 2, 1) := by decide +kernel
theorem dX5_passes_22 : decode cX5_passes 22 = .ok (.invokevirtual 80, 3) := by decide +kernel
theorem dX5_passes_25 : decode cX5_passes 25 = .ok (.aload_n 0, 1) := by decide +kernel
theorem dX5_passes_26 : decode cX5_passes 26 = .ok (.getfield 7, 3) := by decide +kernel
theorem dX5_passes_29 : decode cX5_passes 29 = .ok (.iload_n 1, 1) := by decide +kernel
theorem dX5_passes_30 : decode cX5_passes 30 = .ok (.iaload, 1) := by decide +kernel
theorem dX5_passes_31 : decode cX5_passes 31 = .ok (.aload_n 0, 1) := by decide +kernel
theorem dX5_passes_32 : decode cX5_passes 32 = .ok (.getfield 70, 3) := by decide +kernel
theorem dX5_passes_35 : decode cX5_passes 35 = .ok (.isub, 1) := by decide +kernel
theorem dX5_passes_36 : decode cX5_passes 36 = .ok (.if_icmp .le 5, 3) := by decide +kernel
theorem dX5_passes_39 : decode cX5_passes 39 = .ok (.iconst 0, 1) := by decide +kernel
theorem dX5_passes_40 : decode cX5_passes 40 = .ok (.ireturn, 1) := by decide +kernel
theorem dX5_passes_41 : decode cX5_passes 41 = .ok (.iload_n 3, 1) := by decide +kernel
theorem dX5_passes_42 : decode cX5_passes 42 = .ok (.iconst 3, 1) := by decide +kernel
theorem dX5_passes_43 : decode cX5_passes 43 = .ok (.if_icmp .lt 17, 3) := by decide +kernel
theorem dX5_passes_46 : decode cX5_passes 46 = .ok (.aload_n 0, 1) := by decide +kernel
theorem dX5_passes_47 : decode cX5_passes 47 = .ok (.iload_n 2, 1) := by decide +kernel
theorem dX5_passes_48 : decode cX5_passes 48 = .ok (.invokevirtual 84, 3) := by decide +kernel
theorem dX5_passes_51 : decode cX5_passes 51 = .ok (.aload_n 0, 1) := by decide +kernel
theorem dX5_passes_52 : decode cX5_passes 52 = .ok (.getfield 13, 3) := by decide +kernel
theorem dX5_passes_55 : decode cX5_passes 55 = .ok (.iload_n 1, 1) := by decide +kernel
theorem dX5_passes_56 : decode cX5_passes 56 = .ok (.iaload, 1) := by decide +kernel
theorem dX5_passes_57 : decode cX5_passes 57 = .ok (.if_icmp .gt 7, 3) := by decide +kernel
theorem dX5_passes_60 : decode cX5_passes 60 = .ok (.iconst 1, 1) := by decide +kernel
theorem dX5_passes_61 : decode cX5_passes 61 = .ok (.goto 4, 3) := by decide +kernel
theorem dX5_passes_64 : decode cX5_passes 64 = .ok (.iconst 0, 1) := by decide +kernel
theorem dX5_passes_65 : decode cX5_passes 65 = .ok (.ireturn, 1) := by decide +kernel
theorem dX5_takesKinds_0 : decode cX5_takesKinds 0 = .ok (.iconst 0, 1) := by decide +kernel
theorem dX5_takesKinds_1 : decode cX5_takesKinds 1 = .ok (.istore_n 3, 1) := by decide +kernel
theorem dX5_takesKinds_2 : decode cX5_takesKinds 2 = .ok (.iload_n 3, 1) := by decide +kernel
theorem dX5_takesKinds_3 : decode cX5_takesKinds 3 = .ok (.aload_n 0, 1) := by decide +kernel
theorem dX5_takesKinds_4 : decode cX5_takesKinds 4 = .ok (.getfield 63, 3) := by decide +kernel
theorem dX5_takesKinds_7 : decode cX5_takesKinds 7 = .ok (.if_icmp .ge 37, 3) := by decide +kernel
theorem dX5_takesKinds_10 : decode cX5_takesKinds 10 = .ok (.iload_n 2, 1) := by decide +kernel
theorem dX5_takesKinds_11 : decode cX5_takesKinds 11 = .ok (.iload_n 3, 1) := by decide +kernel
theorem dX5_takesKinds_12 : decode cX5_takesKinds 12 = .ok (.invokestatic 73, 3) := by decide +kernel
theorem dX5_takesKinds_15 : decode cX5_takesKinds 15 = .ok (.ifCond .eq 23, 3) := by decide +kernel
theorem dX5_takesKinds_18 : decode cX5_takesKinds 18 = .ok (.aload_n 0, 1) := by decide +kernel
theorem dX5_takesKinds_19 : decode cX5_takesKinds 19 = .ok (.getfield 19, 3) := by decide +kernel
theorem dX5_takesKinds_22 : decode cX5_takesKinds 22 = .ok (.iload_n 1, 1) := by decide +kernel
theorem dX5_takesKinds_23 : decode cX5_takesKinds 23 = .ok (.iaload, 1) := by decide +kernel
theorem dX5_takesKinds_24 : decode cX5_takesKinds 24 = .ok (.aload_n 0, 1) := by decide +kernel
theorem dX5_takesKinds_25 : decode cX5_takesKinds 25 = .ok (.getfield 28, 3) := by decide +kernel
theorem dX5_takesKinds_28 : decode cX5_takesKinds 28 = .ok (.iload_n 3, 1) := by decide +kernel
theorem dX5_takesKinds_29 : decode cX5_takesKinds 29 = .ok (.iaload, 1) := by decide +kernel
theorem dX5_takesKinds_30 : decode cX5_takesKinds 30 = .ok (.ishr, 1) := by decide +kernel
theorem dX5_takesKinds_31 : decode cX5_takesKinds 31 = .ok (.iconst 1, 1) := by decide +kernel
theorem dX5_takesKinds_32 : decode cX5_takesKinds 32 = .ok (.iand, 1) := by decide +kernel
theorem dX5_takesKinds_33 : decode cX5_takesKinds 33 = .ok (.ifCond .ne 5, 3) := by decide +kernel
theorem dX5_takesKinds_36 : decode cX5_takesKinds 36 = .ok (.iconst 0, 1) := by decide +kernel
theorem dX5_takesKinds_37 : decode cX5_takesKinds 37 = .ok (.ireturn, 1) := by decide +kernel
theorem dX5_takesKinds_38 : decode cX5_takesKinds 38 = .ok (.iinc 3 1, 3) := by decide +kernel
theorem dX5_takesKinds_41 : decode cX5_takesKinds 41 = .ok (.goto (-39), 3) := by decide +kernel
theorem dX5_takesKinds_44 : decode cX5_takesKinds 44 = .ok (.iconst 1, 1) := by decide +kernel
theorem dX5_takesKinds_45 : decode cX5_takesKinds 45 = .ok (.ireturn, 1) := by decide +kernel
theorem dX5_has_0 : decode cX5_has 0 = .ok (.iload_n 0, 1) := by decide +kernel
theorem dX5_has_1 : decode cX5_has 1 = .ok (.iload_n 1, 1) := by decide +kernel
theorem dX5_has_2 : decode cX5_has 2 = .ok (.ishr, 1) := by decide +kernel
theorem dX5_has_3 : decode cX5_has 3 = .ok (.iconst 1, 1) := by decide +kernel
theorem dX5_has_4 : decode cX5_has 4 = .ok (.iand, 1) := by decide +kernel
theorem dX5_has_5 : decode cX5_has 5 = .ok (.iconst 1, 1) := by decide +kernel
theorem dX5_has_6 : decode cX5_has 6 = .ok (.if_icmp .ne 7, 3) := by decide +kernel
theorem dX5_has_9 : decode cX5_has 9 = .ok (.iconst 1, 1) := by decide +kernel
theorem dX5_has_10 : decode cX5_has 10 = .ok (.goto 4, 3) := by decide +kernel
theorem dX5_has_13 : decode cX5_has 13 = .ok (.iconst 0, 1) := by decide +kernel
theorem dX5_has_14 : decode cX5_has 14 = .ok (.ireturn, 1) := by decide +kernel
theorem dX5_sizes_0 : decode cX5_sizes 0 = .ok (.iconst 0, 1) := by decide +kernel
theorem dX5_sizes_1 : decode cX5_sizes 1 = .ok (.istore_n 2, 1) := by decide +kernel
theorem dX5_sizes_2 : decode cX5_sizes 2 = .ok (.iconst 0, 1) := by decide +kernel
theorem dX5_sizes_3 : decode cX5_sizes 3 = .ok (.istore_n 3, 1) := by decide +kernel
theorem dX5_sizes_4 : decode cX5_sizes 4 = .ok (.iload_n 3, 1) := by decide +kernel
theorem dX5_sizes_5 : decode cX5_sizes 5 = .ok (.aload_n 0, 1) := by decide +kernel
theorem dX5_sizes_6 : decode cX5_sizes 6 = .ok (.getfield 63, 3) := by decide +kernel
theorem dX5_sizes_9 : decode cX5_sizes 9 = .ok (.if_icmp .ge 30, 3) := by decide +kernel
theorem dX5_sizes_12 : decode cX5_sizes 12 = .ok (.iload_n 2, 1) := by decide +kernel
theorem dX5_sizes_13 : decode cX5_sizes 13 = .ok (.iload_n 1, 1) := by decide +kernel
theorem dX5_sizes_14 : decode cX5_sizes 14 = .ok (.iload_n 3, 1) := by decide +kernel
theorem dX5_sizes_15 : decode cX5_sizes 15 = .ok (.invokestatic 73, 3) := by decide +kernel
theorem dX5_sizes_18 : decode cX5_sizes 18 = .ok (.ifCond .eq 12, 3) := by decide +kernel
theorem dX5_sizes_21 : decode cX5_sizes 21 = .ok (.aload_n 0, 1) := by decide +kernel
theorem dX5_sizes_22 : decode cX5_sizes 22 = .ok (.getfield 22, 3) := by decide +kernel
theorem dX5_sizes_25 : decode cX5_sizes 25 = .ok (.iload_n 3, 1) := by decide +kernel
theorem dX5_sizes_26 : decode cX5_sizes 26 = .ok (.iaload, 1) := by decide +kernel
theorem dX5_sizes_27 : decode cX5_sizes 27 = .ok (.goto 4, 3) := by decide +kernel
theorem dX5_sizes_30 : decode cX5_sizes 30 = .ok (.iconst 0, 1) := by decide +kernel
theorem dX5_sizes_31 : decode cX5_sizes 31 = .ok (.iadd, 1) := by decide +kernel
theorem dX5_sizes_32 : decode cX5_sizes 32 = .ok (.istore_n 2, 1) := by decide +kernel
theorem dX5_sizes_33 : decode cX5_sizes 33 = .ok (.iinc 3 1, 3) := by decide +kernel
theorem dX5_sizes_36 : decode cX5_sizes 36 = .ok (.goto (-32), 3) := by decide +kernel
theorem dX5_sizes_39 : decode cX5_sizes 39 = .ok (.iload_n 2, 1) := by decide +kernel
theorem dX5_sizes_40 : decode cX5_sizes 40 = .ok (.ireturn, 1) := by decide +kernel
theorem dX5_weights_0 : decode cX5_weights 0 = .ok (.iconst 0, 1) := by decide +kernel
theorem dX5_weights_1 : decode cX5_weights 1 = .ok (.istore_n 2, 1) := by decide +kernel
theorem dX5_weights_2 : decode cX5_weights 2 = .ok (.iconst 0, 1) := by decide +kernel
theorem dX5_weights_3 : decode cX5_weights 3 = .ok (.istore_n 3, 1) := by decide +kernel
theorem dX5_weights_4 : decode cX5_weights 4 = .ok (.iload_n 3, 1) := by decide +kernel
theorem dX5_weights_5 : decode cX5_weights 5 = .ok (.aload_n 0, 1) := by decide +kernel
theorem dX5_weights_6 : decode cX5_weights 6 = .ok (.getfield 63, 3) := by decide +kernel
theorem dX5_weights_9 : decode cX5_weights 9 = .ok (.if_icmp .ge 30, 3) := by decide +kernel
theorem dX5_weights_12 : decode cX5_weights 12 = .ok (.iload_n 2, 1) := by decide +kernel
theorem dX5_weights_13 : decode cX5_weights 13 = .ok (.iload_n 1, 1) := by decide +kernel
theorem dX5_weights_14 : decode cX5_weights 14 = .ok (.iload_n 3, 1) := by decide +kernel
theorem dX5_weights_15 : decode cX5_weights 15 = .ok (.invokestatic 73, 3) := by decide +kernel
theorem dX5_weights_18 : decode cX5_weights 18 = .ok (.ifCond .eq 12, 3) := by decide +kernel
theorem dX5_weights_21 : decode cX5_weights 21 = .ok (.aload_n 0, 1) := by decide +kernel
theorem dX5_weights_22 : decode cX5_weights 22 = .ok (.getfield 25, 3) := by decide +kernel
theorem dX5_weights_25 : decode cX5_weights 25 = .ok (.iload_n 3, 1) := by decide +kernel
theorem dX5_weights_26 : decode cX5_weights 26 = .ok (.iaload, 1) := by decide +kernel
theorem dX5_weights_27 : decode cX5_weights 27 = .ok (.goto 4, 3) := by decide +kernel
theorem dX5_weights_30 : decode cX5_weights 30 = .ok (.iconst 0, 1) := by decide +kernel
theorem dX5_weights_31 : decode cX5_weights 31 = .ok (.iadd, 1) := by decide +kernel
theorem dX5_weights_32 : decode cX5_weights 32 = .ok (.istore_n 2, 1) := by decide +kernel
theorem dX5_weights_33 : decode cX5_weights 33 = .ok (.iinc 3 1, 3) := by decide +kernel
theorem dX5_weights_36 : decode cX5_weights 36 = .ok (.goto (-32), 3) := by decide +kernel
theorem dX5_weights_39 : decode cX5_weights 39 = .ok (.iload_n 2, 1) := by decide +kernel
theorem dX5_weights_40 : decode cX5_weights 40 = .ok (.ireturn, 1) := by decide +kernel
theorem dX5_hasApart_0 : decode cX5_hasApart 0 = .ok (.iconst 0, 1) := by decide +kernel
theorem dX5_hasApart_1 : decode cX5_hasApart 1 = .ok (.istore_n 2, 1) := by decide +kernel
theorem dX5_hasApart_2 : decode cX5_hasApart 2 = .ok (.iload_n 2, 1) := by decide +kernel
theorem dX5_hasApart_3 : decode cX5_hasApart 3 = .ok (.aload_n 0, 1) := by decide +kernel
theorem dX5_hasApart_4 : decode cX5_hasApart 4 = .ok (.getfield 63, 3) := by decide +kernel
theorem dX5_hasApart_7 : decode cX5_hasApart 7 = .ok (.if_icmp .ge 55, 3) := by decide +kernel
theorem dX5_hasApart_10 : decode cX5_hasApart 10 = .ok (.iconst 0, 1) := by decide +kernel
theorem dX5_hasApart_11 : decode cX5_hasApart 11 = .ok (.istore_n 3, 1) := by decide +kernel
end
section
theorem dX5_hasApart_12 : decode cX5_hasApart 12 = .ok (.iload_n 3, 1) := by decide +kernel
theorem dX5_hasApart_13 : decode cX5_hasApart 13 = .ok (.iload_n 2, 1) := by decide +kernel
theorem dX5_hasApart_14 : decode cX5_hasApart 14 = .ok (.if_icmp .ge 42, 3) := by decide +kernel
theorem dX5_hasApart_17 : decode cX5_hasApart 17 = .ok (.iload_n 1, 1) := by decide +kernel
theorem dX5_hasApart_18 : decode cX5_hasApart 18 = .ok (.iload_n 2, 1) := by decide +kernel
theorem dX5_hasApart_19 : decode cX5_hasApart 19 = .ok (.invokestatic 73, 3) := by decide +kernel
theorem dX5_hasApart_22 : decode cX5_hasApart 22 = .ok (.ifCond .eq 28, 3) := by decide +kernel
theorem dX5_hasApart_25 : decode cX5_hasApart 25 = .ok (.iload_n 1, 1) := by decide +kernel
theorem dX5_hasApart_26 : decode cX5_hasApart 26 = .ok (.iload_n 3, 1) := by decide +kernel
theorem dX5_hasApart_27 : decode cX5_hasApart 27 = .ok (.invokestatic 73, 3) := by decide +kernel
theorem dX5_hasApart_30 : decode cX5_hasApart 30 = .ok (.ifCond .eq 20, 3) := by decide +kernel
theorem dX5_hasApart_33 : decode cX5_hasApart 33 = .ok (.aload_n 0, 1) := by decide +kernel
theorem dX5_hasApart_34 : decode cX5_hasApart 34 = .ok (.getfield 31, 3) := by decide +kernel
theorem dX5_hasApart_37 : decode cX5_hasApart 37 = .ok (.bipush 8, 2) := by decide +kernel
theorem dX5_hasApart_39 : decode cX5_hasApart 39 = .ok (.iload_n 2, 1) := by decide +kernel
theorem dX5_hasApart_40 : decode cX5_hasApart 40 = .ok (.imul, 1) := by decide +kernel
theorem dX5_hasApart_41 : decode cX5_hasApart 41 = .ok (.iload_n 3, 1) := by decide +kernel
theorem dX5_hasApart_42 : decode cX5_hasApart 42 = .ok (.iadd, 1) := by decide +kernel
theorem dX5_hasApart_43 : decode cX5_hasApart 43 = .ok (.iaload, 1) := by decide +kernel
theorem dX5_hasApart_44 : decode cX5_hasApart 44 = .ok (.iconst 1, 1) := by decide +kernel
theorem dX5_hasApart_45 : decode cX5_hasApart 45 = .ok (.if_icmp .ne 5, 3) := by decide +kernel
theorem dX5_hasApart_48 : decode cX5_hasApart 48 = .ok (.iconst 1, 1) := by decide +kernel
theorem dX5_hasApart_49 : decode cX5_hasApart 49 = .ok (.ireturn, 1) := by decide +kernel
theorem dX5_hasApart_50 : decode cX5_hasApart 50 = .ok (.iinc 3 1, 3) := by decide +kernel
theorem dX5_hasApart_53 : decode cX5_hasApart 53 = .ok (.goto (-41), 3) := by decide +kernel
theorem dX5_hasApart_56 : decode cX5_hasApart 56 = .ok (.iinc 2 1, 3) := by decide +kernel
theorem dX5_hasApart_59 : decode cX5_hasApart 59 = .ok (.goto (-57), 3) := by decide +kernel
theorem dX5_hasApart_62 : decode cX5_hasApart 62 = .ok (.iconst 0, 1) := by decide +kernel
theorem dX5_hasApart_63 : decode cX5_hasApart 63 = .ok (.ireturn, 1) := by decide +kernel
theorem dX5_isWhole_0 : decode cX5_isWhole 0 = .ok (.iconst 0, 1) := by decide +kernel
theorem dX5_isWhole_1 : decode cX5_isWhole 1 = .ok (.istore_n 2, 1) := by decide +kernel
theorem dX5_isWhole_2 : decode cX5_isWhole 2 = .ok (.iload_n 2, 1) := by decide +kernel
theorem dX5_isWhole_3 : decode cX5_isWhole 3 = .ok (.aload_n 0, 1) := by decide +kernel
theorem dX5_isWhole_4 : decode cX5_isWhole 4 = .ok (.getfield 63, 3) := by decide +kernel
theorem dX5_isWhole_7 : decode cX5_isWhole 7 = .ok (.if_icmp .ge 58, 3) := by decide +kernel
theorem dX5_isWhole_10 : decode cX5_isWhole 10 = .ok (.iconst 0, 1) := by decide +kernel
theorem dX5_isWhole_11 : decode cX5_isWhole 11 = .ok (.istore_n 3, 1) := by decide +kernel
theorem dX5_isWhole_12 : decode cX5_isWhole 12 = .ok (.iload_n 3, 1) := by decide +kernel
theorem dX5_isWhole_13 : decode cX5_isWhole 13 = .ok (.aload_n 0, 1) := by decide +kernel
theorem dX5_isWhole_14 : decode cX5_isWhole 14 = .ok (.getfield 63, 3) := by decide +kernel
theorem dX5_isWhole_17 : decode cX5_isWhole 17 = .ok (.if_icmp .ge 42, 3) := by decide +kernel
theorem dX5_isWhole_20 : decode cX5_isWhole 20 = .ok (.iload_n 1, 1) := by decide +kernel
theorem dX5_isWhole_21 : decode cX5_isWhole 21 = .ok (.iload_n 2, 1) := by decide +kernel
theorem dX5_isWhole_22 : decode cX5_isWhole 22 = .ok (.invokestatic 73, 3) := by decide +kernel
theorem dX5_isWhole_25 : decode cX5_isWhole 25 = .ok (.ifCond .eq 28, 3) := by decide +kernel
theorem dX5_isWhole_28 : decode cX5_isWhole 28 = .ok (.iload_n 1, 1) := by decide +kernel
theorem dX5_isWhole_29 : decode cX5_isWhole 29 = .ok (.iload_n 3, 1) := by decide +kernel
theorem dX5_isWhole_30 : decode cX5_isWhole 30 = .ok (.invokestatic 73, 3) := by decide +kernel
theorem dX5_isWhole_33 : decode cX5_isWhole 33 = .ok (.ifCond .ne 20, 3) := by decide +kernel
theorem dX5_isWhole_36 : decode cX5_isWhole 36 = .ok (.aload_n 0, 1) := by decide +kernel
theorem dX5_isWhole_37 : decode cX5_isWhole 37 = .ok (.getfield 31, 3) := by decide +kernel
theorem dX5_isWhole_40 : decode cX5_isWhole 40 = .ok (.bipush 8, 2) := by decide +kernel
theorem dX5_isWhole_42 : decode cX5_isWhole 42 = .ok (.iload_n 2, 1) := by decide +kernel
theorem dX5_isWhole_43 : decode cX5_isWhole 43 = .ok (.imul, 1) := by decide +kernel
theorem dX5_isWhole_44 : decode cX5_isWhole 44 = .ok (.iload_n 3, 1) := by decide +kernel
theorem dX5_isWhole_45 : decode cX5_isWhole 45 = .ok (.iadd, 1) := by decide +kernel
theorem dX5_isWhole_46 : decode cX5_isWhole 46 = .ok (.iaload, 1) := by decide +kernel
theorem dX5_isWhole_47 : decode cX5_isWhole 47 = .ok (.iconst 2, 1) := by decide +kernel
theorem dX5_isWhole_48 : decode cX5_isWhole 48 = .ok (.if_icmp .ne 5, 3) := by decide +kernel
theorem dX5_isWhole_51 : decode cX5_isWhole 51 = .ok (.iconst 0, 1) := by decide +kernel
theorem dX5_isWhole_52 : decode cX5_isWhole 52 = .ok (.ireturn, 1) := by decide +kernel
theorem dX5_isWhole_53 : decode cX5_isWhole 53 = .ok (.iinc 3 1, 3) := by decide +kernel
theorem dX5_isWhole_56 : decode cX5_isWhole 56 = .ok (.goto (-44), 3) := by decide +kernel
theorem dX5_isWhole_59 : decode cX5_isWhole 59 = .ok (.iinc 2 1, 3) := by decide +kernel
theorem dX5_isWhole_62 : decode cX5_isWhole 62 = .ok (.goto (-60), 3) := by decide +kernel
theorem dX5_isWhole_65 : decode cX5_isWhole 65 = .ok (.iconst 1, 1) := by decide +kernel
theorem dX5_isWhole_66 : decode cX5_isWhole 66 = .ok (.ireturn, 1) := by decide +kernel
theorem dX5_isBetter_0 : decode cX5_isBetter 0 = .ok (.aload_n 0, 1) := by decide +kernel
theorem dX5_isBetter_1 : decode cX5_isBetter 1 = .ok (.getfield 34, 3) := by decide +kernel
theorem dX5_isBetter_4 : decode cX5_isBetter 4 = .ok (.iconst (-1), 1) := by decide +kernel
theorem dX5_isBetter_5 : decode cX5_isBetter 5 = .ok (.if_icmp .ne 5, 3) := by decide +kernel
theorem dX5_isBetter_8 : decode cX5_isBetter 8 = .ok (.iconst 1, 1) := by decide +kernel
theorem dX5_isBetter_9 : decode cX5_isBetter 9 = .ok (.ireturn, 1) := by decide +kernel
theorem dX5_isBetter_10 : decode cX5_isBetter 10 = .ok (.aload_n 0, 1) := by decide +kernel
theorem dX5_isBetter_11 : decode cX5_isBetter 11 = .ok (.aload_n 0, 1) := by decide +kernel
theorem dX5_isBetter_12 : decode cX5_isBetter 12 = .ok (.getfield 44, 3) := by decide +kernel
theorem dX5_isBetter_15 : decode cX5_isBetter 15 = .ok (.aload_n 0, 1) := by decide +kernel
theorem dX5_isBetter_16 : decode cX5_isBetter 16 = .ok (.getfield 99, 3) := by decide +kernel
theorem dX5_isBetter_19 : decode cX5_isBetter 19 = .ok (.invokevirtual 102, 3) := by decide +kernel
theorem dX5_isBetter_22 : decode cX5_isBetter 22 = .ok (.istore_n 1, 1) := by decide +kernel
theorem dX5_isBetter_23 : decode cX5_isBetter 23 = .ok (.aload_n 0, 1) := by decide +kernel
theorem dX5_isBetter_24 : decode cX5_isBetter 24 = .ok (.aload_n 0, 1) := by decide +kernel
theorem dX5_isBetter_25 : decode cX5_isBetter 25 = .ok (.getfield 38, 3) := by decide +kernel
theorem dX5_isBetter_28 : decode cX5_isBetter 28 = .ok (.aload_n 0, 1) := by decide +kernel
theorem dX5_isBetter_29 : decode cX5_isBetter 29 = .ok (.getfield 34, 3) := by decide +kernel
theorem dX5_isBetter_32 : decode cX5_isBetter 32 = .ok (.invokevirtual 102, 3) := by decide +kernel
theorem dX5_isBetter_35 : decode cX5_isBetter 35 = .ok (.istore_n 2, 1) := by decide +kernel
theorem dX5_isBetter_36 : decode cX5_isBetter 36 = .ok (.iload_n 1, 1) := by decide +kernel
theorem dX5_isBetter_37 : decode cX5_isBetter 37 = .ok (.iload_n 2, 1) := by decide +kernel
theorem dX5_isBetter_38 : decode cX5_isBetter 38 = .ok (.if_icmp .eq 14, 3) := by decide +kernel
theorem dX5_isBetter_41 : decode cX5_isBetter 41 = .ok (.iload_n 1, 1) := by decide +kernel
theorem dX5_isBetter_42 : decode cX5_isBetter 42 = .ok (.iload_n 2, 1) := by decide +kernel
theorem dX5_isBetter_43 : decode cX5_isBetter 43 = .ok (.if_icmp .ge 7, 3) := by decide +kernel
theorem dX5_isBetter_46 : decode cX5_isBetter 46 = .ok (.iconst 1, 1) := by decide +kernel
theorem dX5_isBetter_47 : decode cX5_isBetter 47 = .ok (.goto 4, 3) := by decide +kernel
theorem dX5_isBetter_50 : decode cX5_isBetter 50 = .ok (.iconst 0, 1) := by decide +kernel
theorem dX5_isBetter_51 : decode cX5_isBetter 51 = .ok (.ireturn, 1) := by decide +kernel
theorem dX5_isBetter_52 : decode cX5_isBetter 52 = .ok (.aload_n 0, 1) := by decide +kernel
theorem dX5_isBetter_53 : decode cX5_isBetter 53 = .ok (.getfield 99, 3) := by decide +kernel
theorem dX5_isBetter_56 : decode cX5_isBetter 56 = .ok (.aload_n 0, 1) := by decide +kernel
theorem dX5_isBetter_57 : decode cX5_isBetter 57 = .ok (.getfield 34, 3) := by decide +kernel
theorem dX5_isBetter_60 : decode cX5_isBetter 60 = .ok (.if_icmp .eq 20, 3) := by decide +kernel
theorem dX5_isBetter_63 : decode cX5_isBetter 63 = .ok (.aload_n 0, 1) := by decide +kernel
theorem dX5_isBetter_64 : decode cX5_isBetter 64 = .ok (.getfield 99, 3) := by decide +kernel
theorem dX5_isBetter_67 : decode cX5_isBetter 67 = .ok (.aload_n 0, 1) := by decide +kernel
theorem dX5_isBetter_68 : decode cX5_isBetter 68 = .ok (.getfield 34, 3) := by decide +kernel
theorem dX5_isBetter_71 : decode cX5_isBetter 71 = .ok (.if_icmp .ge 7, 3) := by decide +kernel
theorem dX5_isBetter_74 : decode cX5_isBetter 74 = .ok (.iconst 1, 1) := by decide +kernel
theorem dX5_isBetter_75 : decode cX5_isBetter 75 = .ok (.goto 4, 3) := by decide +kernel
theorem dX5_isBetter_78 : decode cX5_isBetter 78 = .ok (.iconst 0, 1) := by decide +kernel
theorem dX5_isBetter_79 : decode cX5_isBetter 79 = .ok (.ireturn, 1) := by decide +kernel
theorem dX5_isBetter_80 : decode cX5_isBetter 80 = .ok (.iconst 0, 1) := by decide +kernel
theorem dX5_isBetter_81 : decode cX5_isBetter 81 = .ok (.istore_n 3, 1) := by decide +kernel
theorem dX5_isBetter_82 : decode cX5_isBetter 82 = .ok (.iload_n 3, 1) := by decide +kernel
theorem dX5_isBetter_83 : decode cX5_isBetter 83 = .ok (.aload_n 0, 1) := by decide +kernel
theorem dX5_isBetter_84 : decode cX5_isBetter 84 = .ok (.getfield 99, 3) := by decide +kernel
theorem dX5_isBetter_87 : decode cX5_isBetter 87 = .ok (.if_icmp .ge 81, 3) := by decide +kernel
theorem dX5_isBetter_90 : decode cX5_isBetter 90 = .ok (.aload_n 0, 1) := by decide +kernel
theorem dX5_isBetter_91 : decode cX5_isBetter 91 = .ok (.getfield 44, 3) := by decide +kernel
theorem dX5_isBetter_94 : decode cX5_isBetter 94 = .ok (.iload_n 3, 1) := by decide +kernel
theorem dX5_isBetter_95 : decode cX5_isBetter 95 = .ok (.iaload, 1) := by decide +kernel
theorem dX5_isBetter_96 : decode cX5_isBetter 96 = .ok (.aload_n 0, 1) := by decide +kernel
theorem dX5_isBetter_97 : decode cX5_isBetter 97 = .ok (.getfield 38, 3) := by decide +kernel
theorem dX5_isBetter_100 : decode cX5_isBetter 100 = .ok (.iload_n 3, 1) := by decide +kernel
theorem dX5_isBetter_101 : decode cX5_isBetter 101 = .ok (.iaload, 1) := by decide +kernel
theorem dX5_isBetter_102 : decode cX5_isBetter 102 = .ok (.if_icmp .eq 24, 3) := by decide +kernel
theorem dX5_isBetter_105 : decode cX5_isBetter 105 = .ok (.aload_n 0, 1) := by decide +kernel
theorem dX5_isBetter_106 : decode cX5_isBetter 106 = .ok (.getfield 44, 3) := by decide +kernel
theorem dX5_isBetter_109 : decode cX5_isBetter 109 = .ok (.iload_n 3, 1) := by decide +kernel
theorem dX5_isBetter_110 : decode cX5_isBetter 110 = .ok (.iaload, 1) := by decide +kernel
theorem dX5_isBetter_111 : decode cX5_isBetter 111 = .ok (.aload_n 0, 1) := by decide +kernel
theorem dX5_isBetter_112 : decode cX5_isBetter 112 = .ok (.getfield 38, 3) := by decide +kernel
theorem dX5_isBetter_115 : decode cX5_isBetter 115 = .ok (.iload_n 3, 1) := by decide +kernel
theorem dX5_isBetter_116 : decode cX5_isBetter 116 = .ok (.iaload, 1) := by decide +kernel
theorem dX5_isBetter_117 : decode cX5_isBetter 117 = .ok (.if_icmp .ge 7, 3) := by decide +kernel
theorem dX5_isBetter_120 : decode cX5_isBetter 120 = .ok (.iconst 1, 1) := by decide +kernel
theorem dX5_isBetter_121 : decode cX5_isBetter 121 = .ok (.goto 4, 3) := by decide +kernel
theorem dX5_isBetter_124 : decode cX5_isBetter 124 = .ok (.iconst 0, 1) := by decide +kernel
theorem dX5_isBetter_125 : decode cX5_isBetter 125 = .ok (.ireturn, 1) := by decide +kernel
theorem dX5_isBetter_126 : decode cX5_isBetter 126 = .ok (.aload_n 0, 1) := by decide +kernel
theorem dX5_isBetter_127 : decode cX5_isBetter 127 = .ok (.getfield 47, 3) := by decide +kernel
theorem dX5_isBetter_130 : decode cX5_isBetter 130 = .ok (.iload_n 3, 1) := by decide +kernel
theorem dX5_isBetter_131 : decode cX5_isBetter 131 = .ok (.iaload, 1) := by decide +kernel
theorem dX5_isBetter_132 : decode cX5_isBetter 132 = .ok (.aload_n 0, 1) := by decide +kernel
theorem dX5_isBetter_133 : decode cX5_isBetter 133 = .ok (.getfield 41, 3) := by decide +kernel
theorem dX5_isBetter_136 : decode cX5_isBetter 136 = .ok (.iload_n 3, 1) := by decide +kernel
theorem dX5_isBetter_137 : decode cX5_isBetter 137 = .ok (.iaload, 1) := by decide +kernel
theorem dX5_isBetter_138 : decode cX5_isBetter 138 = .ok (.if_icmp .eq 24, 3) := by decide +kernel
theorem dX5_isBetter_141 : decode cX5_isBetter 141 = .ok (.aload_n 0, 1) := by decide +kernel
theorem dX5_isBetter_142 : decode cX5_isBetter 142 = .ok (.getfield 47, 3) := by decide +kernel
theorem dX5_isBetter_145 : decode cX5_isBetter 145 = .ok (.iload_n 3, 1) := by decide +kernel
theorem dX5_isBetter_146 : decode cX5_isBetter 146 = .ok (.iaload, 1) := by decide +kernel
theorem dX5_isBetter_147 : decode cX5_isBetter 147 = .ok (.aload_n 0, 1) := by decide +kernel
theorem dX5_isBetter_148 : decode cX5_isBetter 148 = .ok (.getfield 41, 3) := by decide +kernel
theorem dX5_isBetter_151 : decode cX5_isBetter 151 = .ok (.iload_n 3, 1) := by decide +kernel
theorem dX5_isBetter_152 : decode cX5_isBetter 152 = .ok (.iaload, 1) := by decide +kernel
theorem dX5_isBetter_153 : decode cX5_isBetter 153 = .ok (.if_icmp .ge 7, 3) := by decide +kernel
theorem dX5_isBetter_156 : decode cX5_isBetter 156 = .ok (.iconst 1, 1) := by decide +kernel
theorem dX5_isBetter_157 : decode cX5_isBetter 157 = .ok (.goto 4, 3) := by decide +kernel
theorem dX5_isBetter_160 : decode cX5_isBetter 160 = .ok (.iconst 0, 1) := by decide +kernel
theorem dX5_isBetter_161 : decode cX5_isBetter 161 = .ok (.ireturn, 1) := by decide +kernel
theorem dX5_isBetter_162 : decode cX5_isBetter 162 = .ok (.iinc 3 1, 3) := by decide +kernel
theorem dX5_isBetter_165 : decode cX5_isBetter 165 = .ok (.goto (-83), 3) := by decide +kernel
theorem dX5_isBetter_168 : decode cX5_isBetter 168 = .ok (.iconst 0, 1) := by decide +kernel
theorem dX5_isBetter_169 : decode cX5_isBetter 169 = .ok (.ireturn, 1) := by decide +kernel
theorem dX5_costOf_0 : decode cX5_costOf 0 = .ok (.iconst 0, 1) := by decide +kernel
theorem dX5_costOf_1 : decode cX5_costOf 1 = .ok (.istore_n 3, 1) := by decide +kernel
theorem dX5_costOf_2 : decode cX5_costOf 2 = .ok (.iconst 0, 1) := by decide +kernel
theorem dX5_costOf_3 : decode cX5_costOf 3 = .ok (.istore 4, 2) := by decide +kernel
theorem dX5_costOf_5 : decode cX5_costOf 5 = .ok (.iload 4, 2) := by decide +kernel
theorem dX5_costOf_7 : decode cX5_costOf 7 = .ok (.iload_n 2, 1) := by decide +kernel
theorem dX5_costOf_8 : decode cX5_costOf 8 = .ok (.if_icmp .ge 21, 3) := by decide +kernel
theorem dX5_costOf_11 : decode cX5_costOf 11 = .ok (.iload_n 3, 1) := by decide +kernel
theorem dX5_costOf_12 : decode cX5_costOf 12 = .ok (.aload_n 0, 1) := by decide +kernel
theorem dX5_costOf_13 : decode cX5_costOf 13 = .ok (.getfield 16, 3) := by decide +kernel
theorem dX5_costOf_16 : decode cX5_costOf 16 = .ok (.aload_n 1, 1) := by decide +kernel
theorem dX5_costOf_17 : decode cX5_costOf 17 = .ok (.iload 4, 2) := by decide +kernel
theorem dX5_costOf_19 : decode cX5_costOf 19 = .ok (.iaload, 1) := by decide +kernel
theorem dX5_costOf_20 : decode cX5_costOf 20 = .ok (.iaload, 1) := by decide +kernel
theorem dX5_costOf_21 : decode cX5_costOf 21 = .ok (.iadd, 1) := by decide +kernel
theorem dX5_costOf_22 : decode cX5_costOf 22 = .ok (.istore_n 3, 1) := by decide +kernel
theorem dX5_costOf_23 : decode cX5_costOf 23 = .ok (.iinc 4 1, 3) := by decide +kernel
theorem dX5_costOf_26 : decode cX5_costOf 26 = .ok (.goto (-21), 3) := by decide +kernel
theorem dX5_costOf_29 : decode cX5_costOf 29 = .ok (.iload_n 3, 1) := by decide +kernel
theorem dX5_costOf_30 : decode cX5_costOf 30 = .ok (.ireturn, 1) := by decide +kernel
theorem dX5_keep_0 : decode cX5_keep 0 = .ok (.aload_n 0, 1) := by decide +kernel
theorem dX5_keep_1 : decode cX5_keep 1 = .ok (.aload_n 0, 1) := by decide +kernel
theorem dX5_keep_2 : decode cX5_keep 2 = .ok (.getfield 99, 3) := by decide +kernel
theorem dX5_keep_5 : decode cX5_keep 5 = .ok (.putfield 34, 3) := by decide +kernel
theorem dX5_keep_8 : decode cX5_keep 8 = .ok (.iconst 0, 1) := by decide +kernel
theorem dX5_keep_9 : decode cX5_keep 9 = .ok (.istore_n 1, 1) := by decide +kernel
theorem dX5_keep_10 : decode cX5_keep 10 = .ok (.iload_n 1, 1) := by decide +kernel
theorem dX5_keep_11 : decode cX5_keep 11 = .ok (.aload_n 0, 1) := by decide +kernel
theorem dX5_keep_12 : decode cX5_keep 12 = .ok (.getfield 99, 3) := by decide +kernel
theorem dX5_keep_15 : decode cX5_keep 15 = .ok (.if_icmp .ge 33, 3) := by decide +kernel
theorem dX5_keep_18 : decode cX5_keep 18 = .ok (.aload_n 0, 1) := by decide +kernel
theorem dX5_keep_19 : decode cX5_keep 19 = .ok (.getfield 38, 3) := by decide +kernel
theorem dX5_keep_22 : decode cX5_keep 22 = .ok (.iload_n 1, 1) := by decide +kernel
theorem dX5_keep_23 : decode cX5_keep 23 = .ok (.aload_n 0, 1) := by decide +kernel
theorem dX5_keep_24 : decode cX5_keep 24 = .ok (.getfield 44, 3) := by decide +kernel
theorem dX5_keep_27 : decode cX5_keep 27 = .ok (.iload_n 1, 1) := by decide +kernel
theorem dX5_keep_28 : decode cX5_keep 28 = .ok (.iaload, 1) := by decide +kernel
theorem dX5_keep_29 : decode cX5_keep 29 = .ok (.iastore, 1) := by decide +kernel
theorem dX5_keep_30 : decode cX5_keep 30 = .ok (.aload_n 0, 1) := by decide +kernel
theorem dX5_keep_31 : decode cX5_keep 31 = .ok (.getfield 41, 3) := by decide +kernel
theorem dX5_keep_34 : decode cX5_keep 34 = .ok (.iload_n 1, 1) := by decide +kernel
theorem dX5_keep_35 : decode cX5_keep 35 = .ok (.aload_n 0, 1) := by decide +kernel
theorem dX5_keep_36 : decode cX5_keep 36 = .ok (.getfield 47, 3) := by decide +kernel
theorem dX5_keep_39 : decode cX5_keep 39 = .ok (.iload_n 1, 1) := by decide +kernel
theorem dX5_keep_40 : decode cX5_keep 40 = .ok (.iaload, 1) := by decide +kernel
theorem dX5_keep_41 : decode cX5_keep 41 = .ok (.iastore, 1) := by decide +kernel
theorem dX5_keep_42 : decode cX5_keep 42 = .ok (.iinc 1 1, 3) := by decide +kernel
theorem dX5_keep_45 : decode cX5_keep 45 = .ok (.goto (-35), 3) := by decide +kernel
theorem dX5_keep_48 : decode cX5_keep 48 = .ok (.return_, 1) := by decide +kernel
theorem dX5_next_0 : decode cX5_next 0 = .ok (.aload_n 0, 1) := by decide +kernel
theorem dX5_next_1 : decode cX5_next 1 = .ok (.getfield 63, 3) := by decide +kernel
theorem dX5_next_4 : decode cX5_next 4 = .ok (.iconst 1, 1) := by decide +kernel
theorem dX5_next_5 : decode cX5_next 5 = .ok (.isub, 1) := by decide +kernel
theorem dX5_next_6 : decode cX5_next 6 = .ok (.istore_n 1, 1) := by decide +kernel
theorem dX5_next_7 : decode cX5_next 7 = .ok (.iload_n 1, 1) := by decide +kernel
theorem dX5_next_8 : decode cX5_next 8 = .ok (.ifCond .le 92, 3) := by decide +kernel
theorem dX5_next_11 : decode cX5_next 11 = .ok (.iconst 0, 1) := by decide +kernel
theorem dX5_next_12 : decode cX5_next 12 = .ok (.istore_n 2, 1) := by decide +kernel
theorem dX5_next_13 : decode cX5_next 13 = .ok (.iconst 0, 1) := by decide +kernel
theorem dX5_next_14 : decode cX5_next 14 = .ok (.istore_n 3, 1) := by decide +kernel
theorem dX5_next_15 : decode cX5_next 15 = .ok (.iload_n 3, 1) := by decide +kernel
theorem dX5_next_16 : decode cX5_next 16 = .ok (.iload_n 1, 1) := by decide +kernel
theorem dX5_next_17 : decode cX5_next 17 = .ok (.if_icmp .ge 30, 3) := by decide +kernel
theorem dX5_next_20 : decode cX5_next 20 = .ok (.aload_n 0, 1) := by decide +kernel
theorem dX5_next_21 : decode cX5_next 21 = .ok (.getfield 50, 3) := by decide +kernel
theorem dX5_next_24 : decode cX5_next 24 = .ok (.iload_n 3, 1) := by decide +kernel
theorem dX5_next_25 : decode cX5_next 25 = .ok (.iaload, 1) := by decide +kernel
theorem dX5_next_26 : decode cX5_next 26 = .ok (.iload_n 2, 1) := by decide +kernel
theorem dX5_next_27 : decode cX5_next 27 = .ok (.if_icmp .le 12, 3) := by decide +kernel
theorem dX5_next_30 : decode cX5_next 30 = .ok (.aload_n 0, 1) := by decide +kernel
theorem dX5_next_31 : decode cX5_next 31 = .ok (.getfield 50, 3) := by decide +kernel
theorem dX5_next_34 : decode cX5_next 34 = .ok (.iload_n 3, 1) := by decide +kernel
theorem dX5_next_35 : decode cX5_next 35 = .ok (.iaload, 1) := by decide +kernel
theorem dX5_next_36 : decode cX5_next 36 = .ok (.goto 4, 3) := by decide +kernel
theorem dX5_next_39 : decode cX5_next 39 = .ok (.iload_n 2, 1) := by decide +kernel
theorem dX5_next_40 : decode cX5_next 40 = .ok (.istore_n 2, 1) := by decide +kernel
theorem dX5_next_41 : decode cX5_next 41 = .ok (.iinc 3 1, 3) := by decide +kernel
theorem dX5_next_44 : decode cX5_next 44 = .ok (.goto (-29), 3) := by decide +kernel
theorem dX5_next_47 : decode cX5_next 47 = .ok (.aload_n 0, 1) := by decide +kernel
theorem dX5_next_48 : decode cX5_next 48 = .ok (.getfield 50, 3) := by decide +kernel
theorem dX5_next_51 : decode cX5_next 51 = .ok (.iload_n 1, 1) := by decide +kernel
theorem dX5_next_52 : decode cX5_next 52 = .ok (.iaload, 1) := by decide +kernel
theorem dX5_next_53 : decode cX5_next 53 = .ok (.iload_n 2, 1) := by decide +kernel
theorem dX5_next_54 : decode cX5_next 54 = .ok (.if_icmp .gt 40, 3) := by decide +kernel
theorem dX5_next_57 : decode cX5_next 57 = .ok (.aload_n 0, 1) := by decide +kernel
theorem dX5_next_58 : decode cX5_next 58 = .ok (.getfield 50, 3) := by decide +kernel
theorem dX5_next_61 : decode cX5_next 61 = .ok (.iload_n 1, 1) := by decide +kernel
theorem dX5_next_62 : decode cX5_next 62 = .ok (.dup2, 1) := by decide +kernel
theorem dX5_next_63 : decode cX5_next 63 = .ok (.iaload, 1) := by decide +kernel
theorem dX5_next_64 : decode cX5_next 64 = .ok (.iconst 1, 1) := by decide +kernel
theorem dX5_next_65 : decode cX5_next 65 = .ok (.iadd, 1) := by decide +kernel
theorem dX5_next_66 : decode cX5_next 66 = .ok (.iastore, 1) := by decide +kernel
theorem dX5_next_67 : decode cX5_next 67 = .ok (.iload_n 1, 1) := by decide +kernel
theorem dX5_next_68 : decode cX5_next 68 = .ok (.iconst 1, 1) := by decide +kernel
theorem dX5_next_69 : decode cX5_next 69 = .ok (.iadd, 1) := by decide +kernel
theorem dX5_next_70 : decode cX5_next 70 = .ok (.istore_n 3, 1) := by decide +kernel
theorem dX5_next_71 : decode cX5_next 71 = .ok (.iload_n 3, 1) := by decide +kernel
theorem dX5_next_72 : decode cX5_next 72 = .ok (.aload_n 0, 1) := by decide +kernel
theorem dX5_next_73 : decode cX5_next 73 = .ok (.getfield 63, 3) := by decide +kernel
theorem dX5_next_76 : decode cX5_next 76 = .ok (.if_icmp .ge 16, 3) := by decide +kernel
theorem dX5_next_79 : decode cX5_next 79 = .ok (.aload_n 0, 1) := by decide +kernel
theorem dX5_next_80 : decode cX5_next 80 = .ok (.getfield 50, 3) := by decide +kernel
theorem dX5_next_83 : decode cX5_next 83 = .ok (.iload_n 3, 1) := by decide +kernel
theorem dX5_next_84 : decode cX5_next 84 = .ok (.iconst 0, 1) := by decide +kernel
theorem dX5_next_85 : decode cX5_next 85 = .ok (.iastore, 1) := by decide +kernel
theorem dX5_next_86 : decode cX5_next 86 = .ok (.iinc 3 1, 3) := by decide +kernel
theorem dX5_next_89 : decode cX5_next 89 = .ok (.goto (-18), 3) := by decide +kernel
theorem dX5_next_92 : decode cX5_next 92 = .ok (.iconst 1, 1) := by decide +kernel
theorem dX5_next_93 : decode cX5_next 93 = .ok (.ireturn, 1) := by decide +kernel
theorem dX5_next_94 : decode cX5_next 94 = .ok (.iinc 1 (-1), 3) := by decide +kernel
theorem dX5_next_97 : decode cX5_next 97 = .ok (.goto (-90), 3) := by decide +kernel
theorem dX5_next_100 : decode cX5_next 100 = .ok (.iconst 0, 1) := by decide +kernel
theorem dX5_next_101 : decode cX5_next 101 = .ok (.ireturn, 1) := by decide +kernel
theorem dX5_byRule_0 : decode cX5_byRule 0 = .ok (.aload_n 0, 1) := by decide +kernel
theorem dX5_byRule_1 : decode cX5_byRule 1 = .ok (.iconst 0, 1) := by decide +kernel
theorem dX5_byRule_2 : decode cX5_byRule 2 = .ok (.putfield 99, 3) := by decide +kernel
theorem dX5_byRule_5 : decode cX5_byRule 5 = .ok (.iconst 0, 1) := by decide +kernel
theorem dX5_byRule_6 : decode cX5_byRule 6 = .ok (.istore_n 1, 1) := by decide +kernel
theorem dX5_byRule_7 : decode cX5_byRule 7 = .ok (.iconst 0, 1) := by decide +kernel
theorem dX5_byRule_8 : decode cX5_byRule 8 = .ok (.istore_n 2, 1) := by decide +kernel
theorem dX5_byRule_9 : decode cX5_byRule 9 = .ok (.iload_n 2, 1) := by decide +kernel
theorem dX5_byRule_10 : decode cX5_byRule 10 = .ok (.aload_n 0, 1) := by decide +kernel
theorem dX5_byRule_11 : decode cX5_byRule 11 = .ok (.getfield 63, 3) := by decide +kernel
theorem dX5_byRule_14 : decode cX5_byRule 14 = .ok (.if_icmp .ge 133, 3) := by decide +kernel
theorem dX5_byRule_17 : decode cX5_byRule 17 = .ok (.iload_n 1, 1) := by decide +kernel
theorem dX5_byRule_18 : decode cX5_byRule 18 = .ok (.iload_n 2, 1) := by decide +kernel
theorem dX5_byRule_19 : decode cX5_byRule 19 = .ok (.invokestatic 73, 3) := by decide +kernel
theorem dX5_byRule_22 : decode cX5_byRule 22 = .ok (.ifCond .eq 6, 3) := by decide +kernel
theorem dX5_byRule_25 : decode cX5_byRule 25 = .ok (.goto 116, 3) := by decide +kernel
theorem dX5_byRule_28 : decode cX5_byRule 28 = .ok (.aload_n 0, 1) := by decide +kernel
theorem dX5_byRule_29 : decode cX5_byRule 29 = .ok (.iload_n 2, 1) := by decide +kernel
theorem dX5_byRule_30 : decode cX5_byRule 30 = .ok (.invokevirtual 122, 3) := by decide +kernel
theorem dX5_byRule_33 : decode cX5_byRule 33 = .ok (.istore_n 3, 1) := by decide +kernel
theorem dX5_byRule_34 : decode cX5_byRule 34 = .ok (.iload_n 1, 1) := by decide +kernel
theorem dX5_byRule_35 : decode cX5_byRule 35 = .ok (.iload_n 3, 1) := by decide +kernel
theorem dX5_byRule_36 : decode cX5_byRule 36 = .ok (.ior, 1) := by decide +kernel
theorem dX5_byRule_37 : decode cX5_byRule 37 = .ok (.istore_n 1, 1) := by decide +kernel
theorem dX5_byRule_38 : decode cX5_byRule 38 = .ok (.iconst 0, 1) := by decide +kernel
theorem dX5_byRule_39 : decode cX5_byRule 39 = .ok (.istore 4, 2) := by decide +kernel
theorem dX5_byRule_41 : decode cX5_byRule 41 = .ok (.iload 4, 2) := by decide +kernel
theorem dX5_byRule_43 : decode cX5_byRule 43 = .ok (.aload_n 0, 1) := by decide +kernel
theorem dX5_byRule_44 : decode cX5_byRule 44 = .ok (.getfield 99, 3) := by decide +kernel
theorem dX5_byRule_47 : decode cX5_byRule 47 = .ok (.if_icmp .ge 32, 3) := by decide +kernel
theorem dX5_byRule_50 : decode cX5_byRule 50 = .ok (.aload_n 0, 1) := by decide +kernel
theorem dX5_byRule_51 : decode cX5_byRule 51 = .ok (.aload_n 0, 1) := by decide +kernel
theorem dX5_byRule_52 : decode cX5_byRule 52 = .ok (.getfield 44, 3) := by decide +kernel
theorem dX5_byRule_55 : decode cX5_byRule 55 = .ok (.iload 4, 2) := by decide +kernel
theorem dX5_byRule_57 : decode cX5_byRule 57 = .ok (.iaload, 1) := by decide +kernel
theorem dX5_byRule_58 : decode cX5_byRule 58 = .ok (.aload_n 0, 1) := by decide +kernel
theorem dX5_byRule_59 : decode cX5_byRule 59 = .ok (.getfield 47, 3) := by decide +kernel
theorem dX5_byRule_62 : decode cX5_byRule 62 = .ok (.iload 4, 2) := by decide +kernel
theorem dX5_byRule_64 : decode cX5_byRule 64 = .ok (.iaload, 1) := by decide +kernel
theorem dX5_byRule_65 : decode cX5_byRule 65 = .ok (.iload_n 3, 1) := by decide +kernel
theorem dX5_byRule_66 : decode cX5_byRule 66 = .ok (.ior, 1) := by decide +kernel
theorem dX5_byRule_67 : decode cX5_byRule 67 = .ok (.invokevirtual 96, 3) := by decide +kernel
theorem dX5_byRule_70 : decode cX5_byRule 70 = .ok (.ifCond .ne 9, 3) := by decide +kernel
theorem dX5_byRule_73 : decode cX5_byRule 73 = .ok (.iinc 4 1, 3) := by decide +kernel
theorem dX5_byRule_76 : decode cX5_byRule 76 = .ok (.goto (-35), 3) := by decide +kernel
theorem dX5_byRule_79 : decode cX5_byRule 79 = .ok (.iload 4, 2) := by decide +kernel
theorem dX5_byRule_81 : decode cX5_byRule 81 = .ok (.aload_n 0, 1) := by decide +kernel
theorem dX5_byRule_82 : decode cX5_byRule 82 = .ok (.getfield 99, 3) := by decide +kernel
theorem dX5_byRule_85 : decode cX5_byRule 85 = .ok (.if_icmp .ne 45, 3) := by decide +kernel
theorem dX5_byRule_88 : decode cX5_byRule 88 = .ok (.aload_n 0, 1) := by decide +kernel
theorem dX5_byRule_89 : decode cX5_byRule 89 = .ok (.getfield 44, 3) := by decide +kernel
theorem dX5_byRule_92 : decode cX5_byRule 92 = .ok (.iload 4, 2) := by decide +kernel
theorem dX5_byRule_94 : decode cX5_byRule 94 = .ok (.aload_n 0, 1) := by decide +kernel
theorem dX5_byRule_95 : decode cX5_byRule 95 = .ok (.iload_n 3, 1) := by decide +kernel
theorem dX5_byRule_96 : decode cX5_byRule 96 = .ok (.invokevirtual 106, 3) := by decide +kernel
theorem dX5_byRule_99 : decode cX5_byRule 99 = .ok (.iastore, 1) := by decide +kernel
theorem dX5_byRule_100 : decode cX5_byRule 100 = .ok (.aload_n 0, 1) := by decide +kernel
theorem dX5_byRule_101 : decode cX5_byRule 101 = .ok (.getfield 47, 3) := by decide +kernel
theorem dX5_byRule_104 : decode cX5_byRule 104 = .ok (.iload 4, 2) := by decide +kernel
theorem dX5_byRule_106 : decode cX5_byRule 106 = .ok (.iconst 0, 1) := by decide +kernel
theorem dX5_byRule_107 : decode cX5_byRule 107 = .ok (.iastore, 1) := by decide +kernel
theorem dX5_byRule_108 : decode cX5_byRule 108 = .ok (.aload_n 0, 1) := by decide +kernel
theorem dX5_byRule_109 : decode cX5_byRule 109 = .ok (.getfield 44, 3) := by decide +kernel
theorem dX5_byRule_112 : decode cX5_byRule 112 = .ok (.iload 4, 2) := by decide +kernel
theorem dX5_byRule_114 : decode cX5_byRule 114 = .ok (.iaload, 1) := by decide +kernel
theorem dX5_byRule_115 : decode cX5_byRule 115 = .ok (.iconst (-1), 1) := by decide +kernel
theorem dX5_byRule_116 : decode cX5_byRule 116 = .ok (.if_icmp .ne 4, 3) := by decide +kernel
theorem dX5_byRule_119 : decode cX5_byRule 119 = .ok (.return_, 1) := by decide +kernel
theorem dX5_byRule_120 : decode cX5_byRule 120 = .ok (.aload_n 0, 1) := by decide +kernel
theorem dX5_byRule_121 : decode cX5_byRule 121 = .ok (.dup, 1) := by decide +kernel
theorem dX5_byRule_122 : decode cX5_byRule 122 = .ok (.getfield 99, 3) := by decide +kernel
theorem dX5_byRule_125 : decode cX5_byRule 125 = .ok (.iconst 1, 1) := by decide +kernel
theorem dX5_byRule_126 : decode cX5_byRule 126 = .ok (.iadd, 1) := by decide +kernel
theorem dX5_byRule_127 : decode cX5_byRule 127 = .ok (.putfield 99, 3) := by decide +kernel
theorem dX5_byRule_130 : decode cX5_byRule 130 = .ok (.aload_n 0, 1) := by decide +kernel
theorem dX5_byRule_131 : decode cX5_byRule 131 = .ok (.getfield 47, 3) := by decide +kernel
theorem dX5_byRule_134 : decode cX5_byRule 134 = .ok (.iload 4, 2) := by decide +kernel
theorem dX5_byRule_136 : decode cX5_byRule 136 = .ok (.dup2, 1) := by decide +kernel
theorem dX5_byRule_137 : decode cX5_byRule 137 = .ok (.iaload, 1) := by decide +kernel
theorem dX5_byRule_138 : decode cX5_byRule 138 = .ok (.iload_n 3, 1) := by decide +kernel
theorem dX5_byRule_139 : decode cX5_byRule 139 = .ok (.ior, 1) := by decide +kernel
theorem dX5_byRule_140 : decode cX5_byRule 140 = .ok (.iastore, 1) := by decide +kernel
theorem dX5_byRule_141 : decode cX5_byRule 141 = .ok (.iinc 2 1, 3) := by decide +kernel
theorem dX5_byRule_144 : decode cX5_byRule 144 = .ok (.goto (-135), 3) := by decide +kernel
theorem dX5_byRule_147 : decode cX5_byRule 147 = .ok (.aload_n 0, 1) := by decide +kernel
theorem dX5_byRule_148 : decode cX5_byRule 148 = .ok (.invokevirtual 116, 3) := by decide +kernel
theorem dX5_byRule_151 : decode cX5_byRule 151 = .ok (.return_, 1) := by decide +kernel
theorem dX5_wholeOf_0 : decode cX5_wholeOf 0 = .ok (.iconst 1, 1) := by decide +kernel
theorem dX5_wholeOf_1 : decode cX5_wholeOf 1 = .ok (.iload_n 1, 1) := by decide +kernel
theorem dX5_wholeOf_2 : decode cX5_wholeOf 2 = .ok (.ishl, 1) := by decide +kernel
theorem dX5_wholeOf_3 : decode cX5_wholeOf 3 = .ok (.istore_n 2, 1) := by decide +kernel
theorem dX5_wholeOf_4 : decode cX5_wholeOf 4 = .ok (.iconst 0, 1) := by decide +kernel
theorem dX5_wholeOf_5 : decode cX5_wholeOf 5 = .ok (.istore_n 3, 1) := by decide +kernel
theorem dX5_wholeOf_6 : decode cX5_wholeOf 6 = .ok (.iload_n 3, 1) := by decide +kernel
theorem dX5_wholeOf_7 : decode cX5_wholeOf 7 = .ok (.bipush 8, 2) := by decide +kernel
theorem dX5_wholeOf_9 : decode cX5_wholeOf 9 = .ok (.if_icmp .ge 78, 3) := by decide +kernel
theorem dX5_wholeOf_12 : decode cX5_wholeOf 12 = .ok (.iconst 0, 1) := by decide +kernel
theorem dX5_wholeOf_13 : decode cX5_wholeOf 13 = .ok (.istore 4, 2) := by decide +kernel
theorem dX5_wholeOf_15 : decode cX5_wholeOf 15 = .ok (.iload 4, 2) := by decide +kernel
theorem dX5_wholeOf_17 : decode cX5_wholeOf 17 = .ok (.aload_n 0, 1) := by decide +kernel
theorem dX5_wholeOf_18 : decode cX5_wholeOf 18 = .ok (.getfield 63, 3) := by decide +kernel
theorem dX5_wholeOf_21 : decode cX5_wholeOf 21 = .ok (.if_icmp .ge 60, 3) := by decide +kernel
theorem dX5_wholeOf_24 : decode cX5_wholeOf 24 = .ok (.iconst 0, 1) := by decide +kernel
theorem dX5_wholeOf_25 : decode cX5_wholeOf 25 = .ok (.istore 5, 2) := by decide +kernel
theorem dX5_wholeOf_27 : decode cX5_wholeOf 27 = .ok (.iload 5, 2) := by decide +kernel
theorem dX5_wholeOf_29 : decode cX5_wholeOf 29 = .ok (.aload_n 0, 1) := by decide +kernel
theorem dX5_wholeOf_30 : decode cX5_wholeOf 30 = .ok (.getfield 63, 3) := by decide +kernel
theorem dX5_wholeOf_33 : decode cX5_wholeOf 33 = .ok (.if_icmp .ge 42, 3) := by decide +kernel
theorem dX5_wholeOf_36 : decode cX5_wholeOf 36 = .ok (.iload_n 2, 1) := by decide +kernel
theorem dX5_wholeOf_37 : decode cX5_wholeOf 37 = .ok (.iload 4, 2) := by decide +kernel
theorem dX5_wholeOf_39 : decode cX5_wholeOf 39 = .ok (.invokestatic 73, 3) := by decide +kernel
theorem dX5_wholeOf_42 : decode cX5_wholeOf 42 = .ok (.ifCond .eq 27, 3) := by decide +kernel
theorem dX5_wholeOf_45 : decode cX5_wholeOf 45 = .ok (.aload_n 0, 1) := by decide +kernel
theorem dX5_wholeOf_46 : decode cX5_wholeOf 46 = .ok (.getfield 31, 3) := by decide +kernel
theorem dX5_wholeOf_49 : decode cX5_wholeOf 49 = .ok (.bipush 8, 2) := by decide +kernel
theorem dX5_wholeOf_51 : decode cX5_wholeOf 51 = .ok (.iload 4, 2) := by decide +kernel
theorem dX5_wholeOf_53 : decode cX5_wholeOf 53 = .ok (.imul, 1) := by decide +kernel
theorem dX5_wholeOf_54 : decode cX5_wholeOf 54 = .ok (.iload 5, 2) := by decide +kernel
theorem dX5_wholeOf_56 : decode cX5_wholeOf 56 = .ok (.iadd, 1) := by decide +kernel
theorem dX5_wholeOf_57 : decode cX5_wholeOf 57 = .ok (.iaload, 1) := by decide +kernel
theorem dX5_wholeOf_58 : decode cX5_wholeOf 58 = .ok (.iconst 2, 1) := by decide +kernel
theorem dX5_wholeOf_59 : decode cX5_wholeOf 59 = .ok (.if_icmp .ne 10, 3) := by decide +kernel
theorem dX5_wholeOf_62 : decode cX5_wholeOf 62 = .ok (.iload_n 2, 1) := by decide +kernel
theorem dX5_wholeOf_63 : decode cX5_wholeOf 63 = .ok (.iconst 1, 1) := by decide +kernel
theorem dX5_wholeOf_64 : decode cX5_wholeOf 64 = .ok (.iload 5, 2) := by decide +kernel
theorem dX5_wholeOf_66 : decode cX5_wholeOf 66 = .ok (.ishl, 1) := by decide +kernel
theorem dX5_wholeOf_67 : decode cX5_wholeOf 67 = .ok (.ior, 1) := by decide +kernel
theorem dX5_wholeOf_68 : decode cX5_wholeOf 68 = .ok (.istore_n 2, 1) := by decide +kernel
theorem dX5_wholeOf_69 : decode cX5_wholeOf 69 = .ok (.iinc 5 1, 3) := by decide +kernel
theorem dX5_wholeOf_72 : decode cX5_wholeOf 72 = .ok (.goto (-45), 3) := by decide +kernel
theorem dX5_wholeOf_75 : decode cX5_wholeOf 75 = .ok (.iinc 4 1, 3) := by decide +kernel
theorem dX5_wholeOf_78 : decode cX5_wholeOf 78 = .ok (.goto (-63), 3) := by decide +kernel
theorem dX5_wholeOf_81 : decode cX5_wholeOf 81 = .ok (.iinc 3 1, 3) := by decide +kernel
theorem dX5_wholeOf_84 : decode cX5_wholeOf 84 = .ok (.goto (-78), 3) := by decide +kernel
theorem dX5_wholeOf_87 : decode cX5_wholeOf 87 = .ok (.iload_n 2, 1) := by decide +kernel
theorem dX5_wholeOf_88 : decode cX5_wholeOf 88 = .ok (.ireturn, 1) := by decide +kernel
theorem dX5_exact_0 : decode cX5_exact 0 = .ok (.aload_n 0, 1) := by decide +kernel
theorem dX5_exact_1 : decode cX5_exact 1 = .ok (.iconst 0, 1) := by decide +kernel
theorem dX5_exact_2 : decode cX5_exact 2 = .ok (.putfield 53, 3) := by decide +kernel
theorem dX5_exact_5 : decode cX5_exact 5 = .ok (.aload_n 0, 1) := by decide +kernel
theorem dX5_exact_6 : decode cX5_exact 6 = .ok (.getfield 131, 3) := by decide +kernel
theorem dX5_exact_9 : decode cX5_exact 9 = .ok (.ireturn, 1) := by decide +kernel
end
section
theorem dX5_boxes_0 : decode cX5_boxes 0 = .ok (.aload_n 0, 1) := by decide +kernel
theorem dX5_boxes_1 : decode cX5_boxes 1 = .ok (.iconst 0, 1) := by decide +kernel
theorem dX5_boxes_2 : decode cX5_boxes 2 = .ok (.putfield 53, 3) := by decide +kernel
theorem dX5_boxes_5 : decode cX5_boxes 5 = .ok (.aload_n 0, 1) := by decide +kernel
theorem dX5_boxes_6 : decode cX5_boxes 6 = .ok (.getfield 34, 3) := by decide +kernel
theorem dX5_boxes_9 : decode cX5_boxes 9 = .ok (.ireturn, 1) := by decide +kernel
theorem dX5_chosen_0 : decode cX5_chosen 0 = .ok (.aload_n 0, 1) := by decide +kernel
theorem dX5_chosen_1 : decode cX5_chosen 1 = .ok (.iload_n 1, 1) := by decide +kernel
theorem dX5_chosen_2 : decode cX5_chosen 2 = .ok (.iconst 0, 1) := by decide +kernel
theorem dX5_chosen_3 : decode cX5_chosen 3 = .ok (.aload_n 0, 1) := by decide +kernel
theorem dX5_chosen_4 : decode cX5_chosen 4 = .ok (.getfield 34, 3) := by decide +kernel
theorem dX5_chosen_7 : decode cX5_chosen 7 = .ok (.iconst 1, 1) := by decide +kernel
theorem dX5_chosen_8 : decode cX5_chosen 8 = .ok (.isub, 1) := by decide +kernel
theorem dX5_chosen_9 : decode cX5_chosen 9 = .ok (.invokestatic 59, 3) := by decide +kernel
theorem dX5_chosen_12 : decode cX5_chosen 12 = .ok (.ifCond .ne 7, 3) := by decide +kernel
theorem dX5_chosen_15 : decode cX5_chosen 15 = .ok (.iconst 1, 1) := by decide +kernel
theorem dX5_chosen_16 : decode cX5_chosen 16 = .ok (.goto 17, 3) := by decide +kernel
theorem dX5_chosen_19 : decode cX5_chosen 19 = .ok (.iload_n 2, 1) := by decide +kernel
theorem dX5_chosen_20 : decode cX5_chosen 20 = .ok (.iconst 0, 1) := by decide +kernel
theorem dX5_chosen_21 : decode cX5_chosen 21 = .ok (.iconst 3, 1) := by decide +kernel
theorem dX5_chosen_22 : decode cX5_chosen 22 = .ok (.invokestatic 59, 3) := by decide +kernel
theorem dX5_chosen_25 : decode cX5_chosen 25 = .ok (.ifCond .ne 7, 3) := by decide +kernel
theorem dX5_chosen_28 : decode cX5_chosen 28 = .ok (.iconst 2, 1) := by decide +kernel
theorem dX5_chosen_29 : decode cX5_chosen 29 = .ok (.goto 4, 3) := by decide +kernel
theorem dX5_chosen_32 : decode cX5_chosen 32 = .ok (.iconst 0, 1) := by decide +kernel
theorem dX5_chosen_33 : decode cX5_chosen 33 = .ok (.putfield 53, 3) := by decide +kernel
theorem dX5_chosen_36 : decode cX5_chosen 36 = .ok (.aload_n 0, 1) := by decide +kernel
theorem dX5_chosen_37 : decode cX5_chosen 37 = .ok (.getfield 53, 3) := by decide +kernel
theorem dX5_chosen_40 : decode cX5_chosen 40 = .ok (.ifCond .le 5, 3) := by decide +kernel
theorem dX5_chosen_43 : decode cX5_chosen 43 = .ok (.iconst 0, 1) := by decide +kernel
theorem dX5_chosen_44 : decode cX5_chosen 44 = .ok (.ireturn, 1) := by decide +kernel
theorem dX5_chosen_45 : decode cX5_chosen 45 = .ok (.iload_n 2, 1) := by decide +kernel
theorem dX5_chosen_46 : decode cX5_chosen 46 = .ok (.ifCond .ne 12, 3) := by decide +kernel
theorem dX5_chosen_49 : decode cX5_chosen 49 = .ok (.aload_n 0, 1) := by decide +kernel
theorem dX5_chosen_50 : decode cX5_chosen 50 = .ok (.getfield 38, 3) := by decide +kernel
theorem dX5_chosen_53 : decode cX5_chosen 53 = .ok (.iload_n 1, 1) := by decide +kernel
theorem dX5_chosen_54 : decode cX5_chosen 54 = .ok (.iaload, 1) := by decide +kernel
theorem dX5_chosen_55 : decode cX5_chosen 55 = .ok (.goto 45, 3) := by decide +kernel
theorem dX5_chosen_58 : decode cX5_chosen 58 = .ok (.iload_n 2, 1) := by decide +kernel
theorem dX5_chosen_59 : decode cX5_chosen 59 = .ok (.iconst 1, 1) := by decide +kernel
theorem dX5_chosen_60 : decode cX5_chosen 60 = .ok (.if_icmp .ne 12, 3) := by decide +kernel
theorem dX5_chosen_63 : decode cX5_chosen 63 = .ok (.aload_n 0, 1) := by decide +kernel
theorem dX5_chosen_64 : decode cX5_chosen 64 = .ok (.getfield 41, 3) := by decide +kernel
theorem dX5_chosen_67 : decode cX5_chosen 67 = .ok (.iload_n 1, 1) := by decide +kernel
theorem dX5_chosen_68 : decode cX5_chosen 68 = .ok (.iaload, 1) := by decide +kernel
theorem dX5_chosen_69 : decode cX5_chosen 69 = .ok (.goto 31, 3) := by decide +kernel
theorem dX5_chosen_72 : decode cX5_chosen 72 = .ok (.iload_n 2, 1) := by decide +kernel
theorem dX5_chosen_73 : decode cX5_chosen 73 = .ok (.iconst 2, 1) := by decide +kernel
theorem dX5_chosen_74 : decode cX5_chosen 74 = .ok (.if_icmp .ne 16, 3) := by decide +kernel
theorem dX5_chosen_77 : decode cX5_chosen 77 = .ok (.aload_n 0, 1) := by decide +kernel
theorem dX5_chosen_78 : decode cX5_chosen 78 = .ok (.aload_n 0, 1) := by decide +kernel
theorem dX5_chosen_79 : decode cX5_chosen 79 = .ok (.getfield 41, 3) := by decide +kernel
theorem dX5_chosen_82 : decode cX5_chosen 82 = .ok (.iload_n 1, 1) := by decide +kernel
theorem dX5_chosen_83 : decode cX5_chosen 83 = .ok (.iaload, 1) := by decide +kernel
theorem dX5_chosen_84 : decode cX5_chosen 84 = .ok (.invokevirtual 80, 3) := by decide +kernel
theorem dX5_chosen_87 : decode cX5_chosen 87 = .ok (.goto 13, 3) := by decide +kernel
theorem dX5_chosen_90 : decode cX5_chosen 90 = .ok (.aload_n 0, 1) := by decide +kernel
theorem dX5_chosen_91 : decode cX5_chosen 91 = .ok (.aload_n 0, 1) := by decide +kernel
theorem dX5_chosen_92 : decode cX5_chosen 92 = .ok (.getfield 41, 3) := by decide +kernel
theorem dX5_chosen_95 : decode cX5_chosen 95 = .ok (.iload_n 1, 1) := by decide +kernel
theorem dX5_chosen_96 : decode cX5_chosen 96 = .ok (.iaload, 1) := by decide +kernel
theorem dX5_chosen_97 : decode cX5_chosen 97 = .ok (.invokevirtual 84, 3) := by decide +kernel
theorem dX5_chosen_100 : decode cX5_chosen 100 = .ok (.ireturn, 1) := by decide +kernel
theorem dX5_where_0 : decode cX5_where 0 = .ok (.aload_n 0, 1) := by decide +kernel
theorem dX5_where_1 : decode cX5_where 1 = .ok (.aload_n 0, 1) := by decide +kernel
theorem dX5_where_2 : decode cX5_where 2 = .ok (.iload_n 1, 1) := by decide +kernel
theorem dX5_where_3 : decode cX5_where 3 = .ok (.invokevirtual 66, 3) := by decide +kernel
theorem dX5_where_6 : decode cX5_where 6 = .ok (.ifCond .eq 7, 3) := by decide +kernel
theorem dX5_where_9 : decode cX5_where 9 = .ok (.iconst 0, 1) := by decide +kernel
theorem dX5_where_10 : decode cX5_where 10 = .ok (.goto 4, 3) := by decide +kernel
theorem dX5_where_13 : decode cX5_where 13 = .ok (.iconst 1, 1) := by decide +kernel
theorem dX5_where_14 : decode cX5_where 14 = .ok (.putfield 53, 3) := by decide +kernel
theorem dX5_where_17 : decode cX5_where 17 = .ok (.iconst 0, 1) := by decide +kernel
theorem dX5_where_18 : decode cX5_where 18 = .ok (.istore_n 2, 1) := by decide +kernel
theorem dX5_where_19 : decode cX5_where 19 = .ok (.iload_n 2, 1) := by decide +kernel
theorem dX5_where_20 : decode cX5_where 20 = .ok (.aload_n 0, 1) := by decide +kernel
theorem dX5_where_21 : decode cX5_where 21 = .ok (.getfield 34, 3) := by decide +kernel
theorem dX5_where_24 : decode cX5_where 24 = .ok (.if_icmp .ge 31, 3) := by decide +kernel
theorem dX5_where_27 : decode cX5_where 27 = .ok (.aload_n 0, 1) := by decide +kernel
theorem dX5_where_28 : decode cX5_where 28 = .ok (.getfield 53, 3) := by decide +kernel
theorem dX5_where_31 : decode cX5_where 31 = .ok (.ifCond .ne 24, 3) := by decide +kernel
theorem dX5_where_34 : decode cX5_where 34 = .ok (.aload_n 0, 1) := by decide +kernel
theorem dX5_where_35 : decode cX5_where 35 = .ok (.getfield 41, 3) := by decide +kernel
theorem dX5_where_38 : decode cX5_where 38 = .ok (.iload_n 2, 1) := by decide +kernel
theorem dX5_where_39 : decode cX5_where 39 = .ok (.iaload, 1) := by decide +kernel
theorem dX5_where_40 : decode cX5_where 40 = .ok (.iload_n 1, 1) := by decide +kernel
theorem dX5_where_41 : decode cX5_where 41 = .ok (.invokestatic 73, 3) := by decide +kernel
theorem dX5_where_44 : decode cX5_where 44 = .ok (.ifCond .eq 5, 3) := by decide +kernel
theorem dX5_where_47 : decode cX5_where 47 = .ok (.iload_n 2, 1) := by decide +kernel
theorem dX5_where_48 : decode cX5_where 48 = .ok (.ireturn, 1) := by decide +kernel
theorem dX5_where_49 : decode cX5_where 49 = .ok (.iinc 2 1, 3) := by decide +kernel
theorem dX5_where_52 : decode cX5_where 52 = .ok (.goto (-33), 3) := by decide +kernel
theorem dX5_where_55 : decode cX5_where 55 = .ok (.aload_n 0, 1) := by decide +kernel
theorem dX5_where_56 : decode cX5_where 56 = .ok (.getfield 53, 3) := by decide +kernel
theorem dX5_where_59 : decode cX5_where 59 = .ok (.ifCond .le 7, 3) := by decide +kernel
theorem dX5_where_62 : decode cX5_where 62 = .ok (.iconst 0, 1) := by decide +kernel
theorem dX5_where_63 : decode cX5_where 63 = .ok (.goto 4, 3) := by decide +kernel
theorem dX5_where_66 : decode cX5_where 66 = .ok (.iconst (-1), 1) := by decide +kernel
theorem dX5_where_67 : decode cX5_where 67 = .ok (.ireturn, 1) := by decide +kernel
theorem dX5_bar_0 : decode cX5_bar 0 = .ok (.aload_n 0, 1) := by decide +kernel
theorem dX5_bar_1 : decode cX5_bar 1 = .ok (.aload_n 0, 1) := by decide +kernel
theorem dX5_bar_2 : decode cX5_bar 2 = .ok (.iload_n 1, 1) := by decide +kernel
theorem dX5_bar_3 : decode cX5_bar 3 = .ok (.invokevirtual 66, 3) := by decide +kernel
theorem dX5_bar_6 : decode cX5_bar 6 = .ok (.ifCond .eq 7, 3) := by decide +kernel
theorem dX5_bar_9 : decode cX5_bar 9 = .ok (.iconst 0, 1) := by decide +kernel
theorem dX5_bar_10 : decode cX5_bar 10 = .ok (.goto 4, 3) := by decide +kernel
theorem dX5_bar_13 : decode cX5_bar 13 = .ok (.iconst 1, 1) := by decide +kernel
theorem dX5_bar_14 : decode cX5_bar 14 = .ok (.putfield 53, 3) := by decide +kernel
theorem dX5_bar_17 : decode cX5_bar 17 = .ok (.aload_n 0, 1) := by decide +kernel
theorem dX5_bar_18 : decode cX5_bar 18 = .ok (.getfield 53, 3) := by decide +kernel
theorem dX5_bar_21 : decode cX5_bar 21 = .ok (.ifCond .le 5, 3) := by decide +kernel
theorem dX5_bar_24 : decode cX5_bar 24 = .ok (.iconst 0, 1) := by decide +kernel
theorem dX5_bar_25 : decode cX5_bar 25 = .ok (.ireturn, 1) := by decide +kernel
theorem dX5_bar_26 : decode cX5_bar 26 = .ok (.aload_n 0, 1) := by decide +kernel
theorem dX5_bar_27 : decode cX5_bar 27 = .ok (.iload_n 1, 1) := by decide +kernel
theorem dX5_bar_28 : decode cX5_bar 28 = .ok (.invokevirtual 122, 3) := by decide +kernel
theorem dX5_bar_31 : decode cX5_bar 31 = .ok (.istore_n 2, 1) := by decide +kernel
theorem dX5_bar_32 : decode cX5_bar 32 = .ok (.iconst 1, 1) := by decide +kernel
theorem dX5_bar_33 : decode cX5_bar 33 = .ok (.istore_n 3, 1) := by decide +kernel
theorem dX5_bar_34 : decode cX5_bar 34 = .ok (.iload_n 3, 1) := by decide +kernel
theorem dX5_bar_35 : decode cX5_bar 35 = .ok (.iconst 4, 1) := by decide +kernel
theorem dX5_bar_36 : decode cX5_bar 36 = .ok (.if_icmp .ge 60, 3) := by decide +kernel
theorem dX5_bar_39 : decode cX5_bar 39 = .ok (.iconst 0, 1) := by decide +kernel
theorem dX5_bar_40 : decode cX5_bar 40 = .ok (.istore 4, 2) := by decide +kernel
theorem dX5_bar_42 : decode cX5_bar 42 = .ok (.iconst 0, 1) := by decide +kernel
theorem dX5_bar_43 : decode cX5_bar 43 = .ok (.istore 5, 2) := by decide +kernel
theorem dX5_bar_45 : decode cX5_bar 45 = .ok (.iload 5, 2) := by decide +kernel
theorem dX5_bar_47 : decode cX5_bar 47 = .ok (.aload_n 0, 1) := by decide +kernel
theorem dX5_bar_48 : decode cX5_bar 48 = .ok (.getfield 56, 3) := by decide +kernel
theorem dX5_bar_51 : decode cX5_bar 51 = .ok (.if_icmp .ge 32, 3) := by decide +kernel
theorem dX5_bar_54 : decode cX5_bar 54 = .ok (.iload 4, 2) := by decide +kernel
theorem dX5_bar_56 : decode cX5_bar 56 = .ok (.ifCond .ne 14, 3) := by decide +kernel
theorem dX5_bar_59 : decode cX5_bar 59 = .ok (.aload_n 0, 1) := by decide +kernel
theorem dX5_bar_60 : decode cX5_bar 60 = .ok (.iload 5, 2) := by decide +kernel
theorem dX5_bar_62 : decode cX5_bar 62 = .ok (.iload_n 2, 1) := by decide +kernel
theorem dX5_bar_63 : decode cX5_bar 63 = .ok (.iload_n 3, 1) := by decide +kernel
theorem dX5_bar_64 : decode cX5_bar 64 = .ok (.invokevirtual 87, 3) := by decide +kernel
theorem dX5_bar_67 : decode cX5_bar 67 = .ok (.ifCond .eq 7, 3) := by decide +kernel
theorem dX5_bar_70 : decode cX5_bar 70 = .ok (.iconst 1, 1) := by decide +kernel
theorem dX5_bar_71 : decode cX5_bar 71 = .ok (.goto 4, 3) := by decide +kernel
theorem dX5_bar_74 : decode cX5_bar 74 = .ok (.iconst 0, 1) := by decide +kernel
theorem dX5_bar_75 : decode cX5_bar 75 = .ok (.istore 4, 2) := by decide +kernel
theorem dX5_bar_77 : decode cX5_bar 77 = .ok (.iinc 5 1, 3) := by decide +kernel
theorem dX5_bar_80 : decode cX5_bar 80 = .ok (.goto (-35), 3) := by decide +kernel
theorem dX5_bar_83 : decode cX5_bar 83 = .ok (.iload 4, 2) := by decide +kernel
theorem dX5_bar_85 : decode cX5_bar 85 = .ok (.ifCond .ne 5, 3) := by decide +kernel
theorem dX5_bar_88 : decode cX5_bar 88 = .ok (.iload_n 3, 1) := by decide +kernel
theorem dX5_bar_89 : decode cX5_bar 89 = .ok (.ireturn, 1) := by decide +kernel
theorem dX5_bar_90 : decode cX5_bar 90 = .ok (.iinc 3 1, 3) := by decide +kernel
theorem dX5_bar_93 : decode cX5_bar 93 = .ok (.goto (-59), 3) := by decide +kernel
theorem dX5_bar_96 : decode cX5_bar 96 = .ok (.aload_n 0, 1) := by decide +kernel
theorem dX5_bar_97 : decode cX5_bar 97 = .ok (.iload_n 2, 1) := by decide +kernel
theorem dX5_bar_98 : decode cX5_bar 98 = .ok (.invokevirtual 90, 3) := by decide +kernel
theorem dX5_bar_101 : decode cX5_bar 101 = .ok (.ifCond .eq 7, 3) := by decide +kernel
theorem dX5_bar_104 : decode cX5_bar 104 = .ok (.iconst 4, 1) := by decide +kernel
theorem dX5_bar_105 : decode cX5_bar 105 = .ok (.goto 4, 3) := by decide +kernel
theorem dX5_bar_108 : decode cX5_bar 108 = .ok (.iconst 0, 1) := by decide +kernel
theorem dX5_bar_109 : decode cX5_bar 109 = .ok (.ireturn, 1) := by decide +kernel
theorem dX5_fits_0 : decode cX5_fits 0 = .ok (.aload_n 0, 1) := by decide +kernel
theorem dX5_fits_1 : decode cX5_fits 1 = .ok (.aload_n 0, 1) := by decide +kernel
theorem dX5_fits_2 : decode cX5_fits 2 = .ok (.iload_n 1, 1) := by decide +kernel
theorem dX5_fits_3 : decode cX5_fits 3 = .ok (.invokevirtual 135, 3) := by decide +kernel
theorem dX5_fits_6 : decode cX5_fits 6 = .ok (.ifCond .eq 11, 3) := by decide +kernel
theorem dX5_fits_9 : decode cX5_fits 9 = .ok (.aload_n 0, 1) := by decide +kernel
theorem dX5_fits_10 : decode cX5_fits 10 = .ok (.iload_n 2, 1) := by decide +kernel
theorem dX5_fits_11 : decode cX5_fits 11 = .ok (.invokevirtual 66, 3) := by decide +kernel
theorem dX5_fits_14 : decode cX5_fits 14 = .ok (.ifCond .ne 7, 3) := by decide +kernel
theorem dX5_fits_17 : decode cX5_fits 17 = .ok (.iconst 1, 1) := by decide +kernel
theorem dX5_fits_18 : decode cX5_fits 18 = .ok (.goto 4, 3) := by decide +kernel
theorem dX5_fits_21 : decode cX5_fits 21 = .ok (.iconst 0, 1) := by decide +kernel
theorem dX5_fits_22 : decode cX5_fits 22 = .ok (.putfield 53, 3) := by decide +kernel
theorem dX5_fits_25 : decode cX5_fits 25 = .ok (.aload_n 0, 1) := by decide +kernel
theorem dX5_fits_26 : decode cX5_fits 26 = .ok (.getfield 53, 3) := by decide +kernel
theorem dX5_fits_29 : decode cX5_fits 29 = .ok (.ifCond .ne 19, 3) := by decide +kernel
theorem dX5_fits_32 : decode cX5_fits 32 = .ok (.aload_n 0, 1) := by decide +kernel
theorem dX5_fits_33 : decode cX5_fits 33 = .ok (.iload_n 1, 1) := by decide +kernel
theorem dX5_fits_34 : decode cX5_fits 34 = .ok (.iconst 1, 1) := by decide +kernel
theorem dX5_fits_35 : decode cX5_fits 35 = .ok (.iload_n 2, 1) := by decide +kernel
theorem dX5_fits_36 : decode cX5_fits 36 = .ok (.ishl, 1) := by decide +kernel
theorem dX5_fits_37 : decode cX5_fits 37 = .ok (.iconst 3, 1) := by decide +kernel
theorem dX5_fits_38 : decode cX5_fits 38 = .ok (.invokevirtual 87, 3) := by decide +kernel
theorem dX5_fits_41 : decode cX5_fits 41 = .ok (.ifCond .eq 7, 3) := by decide +kernel
theorem dX5_fits_44 : decode cX5_fits 44 = .ok (.iconst 1, 1) := by decide +kernel
theorem dX5_fits_45 : decode cX5_fits 45 = .ok (.goto 4, 3) := by decide +kernel
theorem dX5_fits_48 : decode cX5_fits 48 = .ok (.iconst 0, 1) := by decide +kernel
theorem dX5_fits_49 : decode cX5_fits 49 = .ok (.ireturn, 1) := by decide +kernel
theorem dX5_isBox_0 : decode cX5_isBox 0 = .ok (.iload_n 1, 1) := by decide +kernel
theorem dX5_isBox_1 : decode cX5_isBox 1 = .ok (.iconst 0, 1) := by decide +kernel
theorem dX5_isBox_2 : decode cX5_isBox 2 = .ok (.aload_n 0, 1) := by decide +kernel
theorem dX5_isBox_3 : decode cX5_isBox 3 = .ok (.getfield 56, 3) := by decide +kernel
theorem dX5_isBox_6 : decode cX5_isBox 6 = .ok (.iconst 1, 1) := by decide +kernel
theorem dX5_isBox_7 : decode cX5_isBox 7 = .ok (.isub, 1) := by decide +kernel
theorem dX5_isBox_8 : decode cX5_isBox 8 = .ok (.invokestatic 59, 3) := by decide +kernel
theorem dX5_isBox_11 : decode cX5_isBox 11 = .ok (.ireturn, 1) := by decide +kernel
theorem dX5_used_0 : decode cX5_used 0 = .ok (.aload_n 0, 1) := by decide +kernel
theorem dX5_used_1 : decode cX5_used 1 = .ok (.iload_n 1, 1) := by decide +kernel
theorem dX5_used_2 : decode cX5_used 2 = .ok (.iconst 0, 1) := by decide +kernel
theorem dX5_used_3 : decode cX5_used 3 = .ok (.iconst 1, 1) := by decide +kernel
theorem dX5_used_4 : decode cX5_used 4 = .ok (.invokestatic 59, 3) := by decide +kernel
theorem dX5_used_7 : decode cX5_used 7 = .ok (.ifCond .ne 7, 3) := by decide +kernel
theorem dX5_used_10 : decode cX5_used 10 = .ok (.iconst 1, 1) := by decide +kernel
theorem dX5_used_11 : decode cX5_used 11 = .ok (.goto 27, 3) := by decide +kernel
theorem dX5_used_14 : decode cX5_used 14 = .ok (.aload_n 0, 1) := by decide +kernel
theorem dX5_used_15 : decode cX5_used 15 = .ok (.getfield 34, 3) := by decide +kernel
theorem dX5_used_18 : decode cX5_used 18 = .ok (.iconst (-1), 1) := by decide +kernel
theorem dX5_used_19 : decode cX5_used 19 = .ok (.if_icmp .ne 7, 3) := by decide +kernel
theorem dX5_used_22 : decode cX5_used 22 = .ok (.iconst 2, 1) := by decide +kernel
theorem dX5_used_23 : decode cX5_used 23 = .ok (.goto 15, 3) := by decide +kernel
theorem dX5_used_26 : decode cX5_used 26 = .ok (.aload_n 0, 1) := by decide +kernel
theorem dX5_used_27 : decode cX5_used 27 = .ok (.getfield 34, 3) := by decide +kernel
theorem dX5_used_30 : decode cX5_used 30 = .ok (.ifCond .ne 7, 3) := by decide +kernel
theorem dX5_used_33 : decode cX5_used 33 = .ok (.iconst 3, 1) := by decide +kernel
theorem dX5_used_34 : decode cX5_used 34 = .ok (.goto 4, 3) := by decide +kernel
theorem dX5_used_37 : decode cX5_used 37 = .ok (.iconst 0, 1) := by decide +kernel
theorem dX5_used_38 : decode cX5_used 38 = .ok (.putfield 53, 3) := by decide +kernel
theorem dX5_used_41 : decode cX5_used 41 = .ok (.aload_n 0, 1) := by decide +kernel
theorem dX5_used_42 : decode cX5_used 42 = .ok (.getfield 53, 3) := by decide +kernel
theorem dX5_used_45 : decode cX5_used 45 = .ok (.ifCond .le 5, 3) := by decide +kernel
theorem dX5_used_48 : decode cX5_used 48 = .ok (.iconst 0, 1) := by decide +kernel
theorem dX5_used_49 : decode cX5_used 49 = .ok (.ireturn, 1) := by decide +kernel
theorem dX5_used_50 : decode cX5_used 50 = .ok (.iconst 0, 1) := by decide +kernel
theorem dX5_used_51 : decode cX5_used 51 = .ok (.istore_n 2, 1) := by decide +kernel
theorem dX5_used_52 : decode cX5_used 52 = .ok (.iconst 0, 1) := by decide +kernel
theorem dX5_used_53 : decode cX5_used 53 = .ok (.istore_n 3, 1) := by decide +kernel
theorem dX5_used_54 : decode cX5_used 54 = .ok (.iconst 0, 1) := by decide +kernel
theorem dX5_used_55 : decode cX5_used 55 = .ok (.istore 4, 2) := by decide +kernel
theorem dX5_used_57 : decode cX5_used 57 = .ok (.iload 4, 2) := by decide +kernel
theorem dX5_used_59 : decode cX5_used 59 = .ok (.aload_n 0, 1) := by decide +kernel
theorem dX5_used_60 : decode cX5_used 60 = .ok (.getfield 34, 3) := by decide +kernel
theorem dX5_used_63 : decode cX5_used 63 = .ok (.if_icmp .ge 38, 3) := by decide +kernel
theorem dX5_used_66 : decode cX5_used 66 = .ok (.iload_n 2, 1) := by decide +kernel
theorem dX5_used_67 : decode cX5_used 67 = .ok (.aload_n 0, 1) := by decide +kernel
theorem dX5_used_68 : decode cX5_used 68 = .ok (.aload_n 0, 1) := by decide +kernel
theorem dX5_used_69 : decode cX5_used 69 = .ok (.getfield 41, 3) := by decide +kernel
theorem dX5_used_72 : decode cX5_used 72 = .ok (.iload 4, 2) := by decide +kernel
theorem dX5_used_74 : decode cX5_used 74 = .ok (.iaload, 1) := by decide +kernel
theorem dX5_used_75 : decode cX5_used 75 = .ok (.invokevirtual 80, 3) := by decide +kernel
theorem dX5_used_78 : decode cX5_used 78 = .ok (.iadd, 1) := by decide +kernel
theorem dX5_used_79 : decode cX5_used 79 = .ok (.istore_n 2, 1) := by decide +kernel
theorem dX5_used_80 : decode cX5_used 80 = .ok (.iload_n 3, 1) := by decide +kernel
theorem dX5_used_81 : decode cX5_used 81 = .ok (.aload_n 0, 1) := by decide +kernel
theorem dX5_used_82 : decode cX5_used 82 = .ok (.getfield 7, 3) := by decide +kernel
theorem dX5_used_85 : decode cX5_used 85 = .ok (.aload_n 0, 1) := by decide +kernel
theorem dX5_used_86 : decode cX5_used 86 = .ok (.getfield 38, 3) := by decide +kernel
theorem dX5_used_89 : decode cX5_used 89 = .ok (.iload 4, 2) := by decide +kernel
theorem dX5_used_91 : decode cX5_used 91 = .ok (.iaload, 1) := by decide +kernel
theorem dX5_used_92 : decode cX5_used 92 = .ok (.iaload, 1) := by decide +kernel
theorem dX5_used_93 : decode cX5_used 93 = .ok (.iadd, 1) := by decide +kernel
theorem dX5_used_94 : decode cX5_used 94 = .ok (.istore_n 3, 1) := by decide +kernel
theorem dX5_used_95 : decode cX5_used 95 = .ok (.iinc 4 1, 3) := by decide +kernel
theorem dX5_used_98 : decode cX5_used 98 = .ok (.goto (-41), 3) := by decide +kernel
theorem dX5_used_101 : decode cX5_used 101 = .ok (.iload_n 2, 1) := by decide +kernel
theorem dX5_used_102 : decode cX5_used 102 = .ok (.iload_n 3, 1) := by decide +kernel
theorem dX5_used_103 : decode cX5_used 103 = .ok (.invokestatic 138, 3) := by decide +kernel
theorem dX5_used_106 : decode cX5_used 106 = .ok (.istore 4, 2) := by decide +kernel
theorem dX5_used_108 : decode cX5_used 108 = .ok (.iload_n 1, 1) := by decide +kernel
theorem dX5_used_109 : decode cX5_used 109 = .ok (.ifCond .ne 10, 3) := by decide +kernel
theorem dX5_used_112 : decode cX5_used 112 = .ok (.iload_n 2, 1) := by decide +kernel
theorem dX5_used_113 : decode cX5_used 113 = .ok (.iload 4, 2) := by decide +kernel
theorem dX5_used_115 : decode cX5_used 115 = .ok (.idiv, 1) := by decide +kernel
theorem dX5_used_116 : decode cX5_used 116 = .ok (.goto 7, 3) := by decide +kernel
theorem dX5_used_119 : decode cX5_used 119 = .ok (.iload_n 3, 1) := by decide +kernel
theorem dX5_used_120 : decode cX5_used 120 = .ok (.iload 4, 2) := by decide +kernel
theorem dX5_used_122 : decode cX5_used 122 = .ok (.idiv, 1) := by decide +kernel
theorem dX5_used_123 : decode cX5_used 123 = .ok (.ireturn, 1) := by decide +kernel
theorem dX5_divisor_0 : decode cX5_divisor 0 = .ok (.iload_n 0, 1) := by decide +kernel
theorem dX5_divisor_1 : decode cX5_divisor 1 = .ok (.istore_n 2, 1) := by decide +kernel
theorem dX5_divisor_2 : decode cX5_divisor 2 = .ok (.iload_n 1, 1) := by decide +kernel
theorem dX5_divisor_3 : decode cX5_divisor 3 = .ok (.istore_n 3, 1) := by decide +kernel
theorem dX5_divisor_4 : decode cX5_divisor 4 = .ok (.iload_n 3, 1) := by decide +kernel
theorem dX5_divisor_5 : decode cX5_divisor 5 = .ok (.ifCond .le 16, 3) := by decide +kernel
theorem dX5_divisor_8 : decode cX5_divisor 8 = .ok (.iload_n 2, 1) := by decide +kernel
theorem dX5_divisor_9 : decode cX5_divisor 9 = .ok (.iload_n 3, 1) := by decide +kernel
theorem dX5_divisor_10 : decode cX5_divisor 10 = .ok (.irem, 1) := by decide +kernel
theorem dX5_divisor_11 : decode cX5_divisor 11 = .ok (.istore 4, 2) := by decide +kernel
theorem dX5_divisor_13 : decode cX5_divisor 13 = .ok (.iload_n 3, 1) := by decide +kernel
theorem dX5_divisor_14 : decode cX5_divisor 14 = .ok (.istore_n 2, 1) := by decide +kernel
theorem dX5_divisor_15 : decode cX5_divisor 15 = .ok (.iload 4, 2) := by decide +kernel
theorem dX5_divisor_17 : decode cX5_divisor 17 = .ok (.istore_n 3, 1) := by decide +kernel
theorem dX5_divisor_18 : decode cX5_divisor 18 = .ok (.goto (-14), 3) := by decide +kernel
theorem dX5_divisor_21 : decode cX5_divisor 21 = .ok (.iload_n 2, 1) := by decide +kernel
theorem dX5_divisor_22 : decode cX5_divisor 22 = .ok (.ireturn, 1) := by decide +kernel
theorem dX5_dimensional_0 : decode cX5_dimensional 0 = .ok (.aload_n 0, 1) := by decide +kernel
theorem dX5_dimensional_1 : decode cX5_dimensional 1 = .ok (.aload_n 0, 1) := by decide +kernel
theorem dX5_dimensional_2 : decode cX5_dimensional 2 = .ok (.iload_n 1, 1) := by decide +kernel
theorem dX5_dimensional_3 : decode cX5_dimensional 3 = .ok (.invokevirtual 135, 3) := by decide +kernel
theorem dX5_dimensional_6 : decode cX5_dimensional 6 = .ok (.ifCond .ne 7, 3) := by decide +kernel
theorem dX5_dimensional_9 : decode cX5_dimensional 9 = .ok (.iconst 1, 1) := by decide +kernel
theorem dX5_dimensional_10 : decode cX5_dimensional 10 = .ok (.goto 20, 3) := by decide +kernel
theorem dX5_dimensional_13 : decode cX5_dimensional 13 = .ok (.iload_n 2, 1) := by decide +kernel
theorem dX5_dimensional_14 : decode cX5_dimensional 14 = .ok (.ifCond .ge 7, 3) := by decide +kernel
theorem dX5_dimensional_17 : decode cX5_dimensional 17 = .ok (.iconst 2, 1) := by decide +kernel
theorem dX5_dimensional_18 : decode cX5_dimensional 18 = .ok (.goto 12, 3) := by decide +kernel
theorem dX5_dimensional_21 : decode cX5_dimensional 21 = .ok (.iload_n 2, 1) := by decide +kernel
theorem dX5_dimensional_22 : decode cX5_dimensional 22 = .ok (.ifCond .ne 7, 3) := by decide +kernel
theorem dX5_dimensional_25 : decode cX5_dimensional 25 = .ok (.iconst 3, 1) := by decide +kernel
theorem dX5_dimensional_26 : decode cX5_dimensional 26 = .ok (.goto 4, 3) := by decide +kernel
theorem dX5_dimensional_29 : decode cX5_dimensional 29 = .ok (.iconst 0, 1) := by decide +kernel
theorem dX5_dimensional_30 : decode cX5_dimensional 30 = .ok (.putfield 53, 3) := by decide +kernel
theorem dX5_dimensional_33 : decode cX5_dimensional 33 = .ok (.aload_n 0, 1) := by decide +kernel
theorem dX5_dimensional_34 : decode cX5_dimensional 34 = .ok (.getfield 53, 3) := by decide +kernel
theorem dX5_dimensional_37 : decode cX5_dimensional 37 = .ok (.ifCond .le 7, 3) := by decide +kernel
theorem dX5_dimensional_40 : decode cX5_dimensional 40 = .ok (.iconst 0, 1) := by decide +kernel
theorem dX5_dimensional_41 : decode cX5_dimensional 41 = .ok (.goto 28, 3) := by decide +kernel
theorem dX5_dimensional_44 : decode cX5_dimensional 44 = .ok (.aload_n 0, 1) := by decide +kernel
theorem dX5_dimensional_45 : decode cX5_dimensional 45 = .ok (.getfield 7, 3) := by decide +kernel
theorem dX5_dimensional_48 : decode cX5_dimensional 48 = .ok (.iload_n 1, 1) := by decide +kernel
theorem dX5_dimensional_49 : decode cX5_dimensional 49 = .ok (.iaload, 1) := by decide +kernel
theorem dX5_dimensional_50 : decode cX5_dimensional 50 = .ok (.iload_n 2, 1) := by decide +kernel
theorem dX5_dimensional_51 : decode cX5_dimensional 51 = .ok (.idiv, 1) := by decide +kernel
theorem dX5_dimensional_52 : decode cX5_dimensional 52 = .ok (.aload_n 0, 1) := by decide +kernel
theorem dX5_dimensional_53 : decode cX5_dimensional 53 = .ok (.getfield 7, 3) := by decide +kernel
theorem dX5_dimensional_56 : decode cX5_dimensional 56 = .ok (.iload_n 1, 1) := by decide +kernel
theorem dX5_dimensional_57 : decode cX5_dimensional 57 = .ok (.iaload, 1) := by decide +kernel
theorem dX5_dimensional_58 : decode cX5_dimensional 58 = .ok (.iload_n 2, 1) := by decide +kernel
theorem dX5_dimensional_59 : decode cX5_dimensional 59 = .ok (.irem, 1) := by decide +kernel
theorem dX5_dimensional_60 : decode cX5_dimensional 60 = .ok (.ifCond .le 7, 3) := by decide +kernel
theorem dX5_dimensional_63 : decode cX5_dimensional 63 = .ok (.iconst 1, 1) := by decide +kernel
theorem dX5_dimensional_64 : decode cX5_dimensional 64 = .ok (.goto 4, 3) := by decide +kernel
theorem dX5_dimensional_67 : decode cX5_dimensional 67 = .ok (.iconst 0, 1) := by decide +kernel
theorem dX5_dimensional_68 : decode cX5_dimensional 68 = .ok (.iadd, 1) := by decide +kernel
theorem dX5_dimensional_69 : decode cX5_dimensional 69 = .ok (.ireturn, 1) := by decide +kernel
theorem dX5_count_0 : decode cX5_count 0 = .ok (.aload_n 0, 1) := by decide +kernel
theorem dX5_count_1 : decode cX5_count 1 = .ok (.iconst 0, 1) := by decide +kernel
theorem dX5_count_2 : decode cX5_count 2 = .ok (.putfield 53, 3) := by decide +kernel
theorem dX5_count_5 : decode cX5_count 5 = .ok (.iload_n 1, 1) := by decide +kernel
theorem dX5_count_6 : decode cX5_count 6 = .ok (.ifCond .ne 8, 3) := by decide +kernel
theorem dX5_count_9 : decode cX5_count 9 = .ok (.aload_n 0, 1) := by decide +kernel
theorem dX5_count_10 : decode cX5_count 10 = .ok (.getfield 56, 3) := by decide +kernel
theorem dX5_count_13 : decode cX5_count 13 = .ok (.ireturn, 1) := by decide +kernel
theorem dX5_count_14 : decode cX5_count 14 = .ok (.iload_n 1, 1) := by decide +kernel
theorem dX5_count_15 : decode cX5_count 15 = .ok (.iconst 1, 1) := by decide +kernel
theorem dX5_count_16 : decode cX5_count 16 = .ok (.if_icmp .ne 8, 3) := by decide +kernel
theorem dX5_count_19 : decode cX5_count 19 = .ok (.aload_n 0, 1) := by decide +kernel
theorem dX5_count_20 : decode cX5_count 20 = .ok (.getfield 63, 3) := by decide +kernel
theorem dX5_count_23 : decode cX5_count 23 = .ok (.ireturn, 1) := by decide +kernel
theorem dX5_count_24 : decode cX5_count 24 = .ok (.iload_n 1, 1) := by decide +kernel
theorem dX5_count_25 : decode cX5_count 25 = .ok (.iconst 4, 1) := by decide +kernel
theorem dX5_count_26 : decode cX5_count 26 = .ok (.if_icmp .ne 28, 3) := by decide +kernel
theorem dX5_count_29 : decode cX5_count 29 = .ok (.aload_n 0, 1) := by decide +kernel
theorem dX5_count_30 : decode cX5_count 30 = .ok (.getfield 34, 3) := by decide +kernel
theorem dX5_count_33 : decode cX5_count 33 = .ok (.iconst (-1), 1) := by decide +kernel
theorem dX5_count_34 : decode cX5_count 34 = .ok (.if_icmp .ne 7, 3) := by decide +kernel
theorem dX5_count_37 : decode cX5_count 37 = .ok (.iconst (-1), 1) := by decide +kernel
theorem dX5_count_38 : decode cX5_count 38 = .ok (.goto 15, 3) := by decide +kernel
theorem dX5_count_41 : decode cX5_count 41 = .ok (.aload_n 0, 1) := by decide +kernel
theorem dX5_count_42 : decode cX5_count 42 = .ok (.aload_n 0, 1) := by decide +kernel
theorem dX5_count_43 : decode cX5_count 43 = .ok (.getfield 38, 3) := by decide +kernel
theorem dX5_count_46 : decode cX5_count 46 = .ok (.aload_n 0, 1) := by decide +kernel
theorem dX5_count_47 : decode cX5_count 47 = .ok (.getfield 34, 3) := by decide +kernel
theorem dX5_count_50 : decode cX5_count 50 = .ok (.invokevirtual 102, 3) := by decide +kernel
theorem dX5_count_53 : decode cX5_count 53 = .ok (.ireturn, 1) := by decide +kernel
theorem dX5_count_54 : decode cX5_count 54 = .ok (.iconst 0, 1) := by decide +kernel
theorem dX5_count_55 : decode cX5_count 55 = .ok (.istore_n 2, 1) := by decide +kernel
theorem dX5_count_56 : decode cX5_count 56 = .ok (.iconst 0, 1) := by decide +kernel
theorem dX5_count_57 : decode cX5_count 57 = .ok (.istore_n 3, 1) := by decide +kernel
theorem dX5_count_58 : decode cX5_count 58 = .ok (.iload_n 3, 1) := by decide +kernel
theorem dX5_count_59 : decode cX5_count 59 = .ok (.aload_n 0, 1) := by decide +kernel
theorem dX5_count_60 : decode cX5_count 60 = .ok (.getfield 63, 3) := by decide +kernel
theorem dX5_count_63 : decode cX5_count 63 = .ok (.if_icmp .ge 50, 3) := by decide +kernel
theorem dX5_count_66 : decode cX5_count 66 = .ok (.iconst 0, 1) := by decide +kernel
theorem dX5_count_67 : decode cX5_count 67 = .ok (.istore 4, 2) := by decide +kernel
theorem dX5_count_69 : decode cX5_count 69 = .ok (.iload 4, 2) := by decide +kernel
theorem dX5_count_71 : decode cX5_count 71 = .ok (.iload_n 3, 1) := by decide +kernel
theorem dX5_count_72 : decode cX5_count 72 = .ok (.if_icmp .ge 35, 3) := by decide +kernel
theorem dX5_count_75 : decode cX5_count 75 = .ok (.iload_n 2, 1) := by decide +kernel
theorem dX5_count_76 : decode cX5_count 76 = .ok (.aload_n 0, 1) := by decide +kernel
theorem dX5_count_77 : decode cX5_count 77 = .ok (.getfield 31, 3) := by decide +kernel
theorem dX5_count_80 : decode cX5_count 80 = .ok (.bipush 8, 2) := by decide +kernel
theorem dX5_count_82 : decode cX5_count 82 = .ok (.iload_n 3, 1) := by decide +kernel
theorem dX5_count_83 : decode cX5_count 83 = .ok (.imul, 1) := by decide +kernel
theorem dX5_count_84 : decode cX5_count 84 = .ok (.iload 4, 2) := by decide +kernel
theorem dX5_count_86 : decode cX5_count 86 = .ok (.iadd, 1) := by decide +kernel
theorem dX5_count_87 : decode cX5_count 87 = .ok (.iaload, 1) := by decide +kernel
theorem dX5_count_88 : decode cX5_count 88 = .ok (.iload_n 1, 1) := by decide +kernel
theorem dX5_count_89 : decode cX5_count 89 = .ok (.iconst 1, 1) := by decide +kernel
theorem dX5_count_90 : decode cX5_count 90 = .ok (.isub, 1) := by decide +kernel
theorem dX5_count_91 : decode cX5_count 91 = .ok (.if_icmp .ne 7, 3) := by decide +kernel
theorem dX5_count_94 : decode cX5_count 94 = .ok (.iconst 1, 1) := by decide +kernel
theorem dX5_count_95 : decode cX5_count 95 = .ok (.goto 4, 3) := by decide +kernel
theorem dX5_count_98 : decode cX5_count 98 = .ok (.iconst 0, 1) := by decide +kernel
theorem dX5_count_99 : decode cX5_count 99 = .ok (.iadd, 1) := by decide +kernel
theorem dX5_count_100 : decode cX5_count 100 = .ok (.istore_n 2, 1) := by decide +kernel
theorem dX5_count_101 : decode cX5_count 101 = .ok (.iinc 4 1, 3) := by decide +kernel
theorem dX5_count_104 : decode cX5_count 104 = .ok (.goto (-35), 3) := by decide +kernel
theorem dX5_count_107 : decode cX5_count 107 = .ok (.iinc 3 1, 3) := by decide +kernel
theorem dX5_count_110 : decode cX5_count 110 = .ok (.goto (-52), 3) := by decide +kernel
theorem dX5_count_113 : decode cX5_count 113 = .ok (.iload_n 1, 1) := by decide +kernel
theorem dX5_count_114 : decode cX5_count 114 = .ok (.iconst 2, 1) := by decide +kernel
theorem dX5_count_115 : decode cX5_count 115 = .ok (.if_icmp .eq 8, 3) := by decide +kernel
theorem dX5_count_118 : decode cX5_count 118 = .ok (.iload_n 1, 1) := by decide +kernel
theorem dX5_count_119 : decode cX5_count 119 = .ok (.iconst 3, 1) := by decide +kernel
theorem dX5_count_120 : decode cX5_count 120 = .ok (.if_icmp .ne 7, 3) := by decide +kernel
theorem dX5_count_123 : decode cX5_count 123 = .ok (.iload_n 2, 1) := by decide +kernel
theorem dX5_count_124 : decode cX5_count 124 = .ok (.goto 4, 3) := by decide +kernel
theorem dX5_count_127 : decode cX5_count 127 = .ok (.iconst (-1), 1) := by decide +kernel
theorem dX5_count_128 : decode cX5_count 128 = .ok (.ireturn, 1) := by decide +kernel
theorem dL_law_0 : decode cL_law 0 = .ok (.new 8, 3) := by decide +kernel
theorem dL_law_3 : decode cL_law 3 = .ok (.dup, 1) := by decide +kernel
theorem dL_law_4 : decode cL_law 4 = .ok (.invokespecial 61, 3) := by decide +kernel
theorem dL_law_7 : decode cL_law 7 = .ok (.astore_n 1, 1) := by decide +kernel
theorem dL_law_8 : decode cL_law 8 = .ok (.new 62, 3) := by decide +kernel
theorem dL_law_11 : decode cL_law 11 = .ok (.dup, 1) := by decide +kernel
theorem dL_law_12 : decode cL_law 12 = .ok (.invokespecial 64, 3) := by decide +kernel
theorem dL_law_15 : decode cL_law 15 = .ok (.astore_n 2, 1) := by decide +kernel
theorem dL_law_16 : decode cL_law 16 = .ok (.iconst 1, 1) := by decide +kernel
theorem dL_law_17 : decode cL_law 17 = .ok (.newarray .long, 2) := by decide +kernel
theorem dL_law_19 : decode cL_law 19 = .ok (.astore_n 3, 1) := by decide +kernel
theorem dL_law_20 : decode cL_law 20 = .ok (.iconst 0, 1) := by decide +kernel
theorem dL_law_21 : decode cL_law 21 = .ok (.istore 4, 2) := by decide +kernel
theorem dL_law_23 : decode cL_law 23 = .ok (.iload 4, 2) := by decide +kernel
theorem dL_law_25 : decode cL_law 25 = .ok (.aload_n 0, 1) := by decide +kernel
theorem dL_law_26 : decode cL_law 26 = .ok (.arraylength, 1) := by decide +kernel
theorem dL_law_27 : decode cL_law 27 = .ok (.iconst 5, 1) := by decide +kernel
theorem dL_law_28 : decode cL_law 28 = .ok (.isub, 1) := by decide +kernel
theorem dL_law_29 : decode cL_law 29 = .ok (.if_icmp .gt 931, 3) := by decide +kernel
theorem dL_law_32 : decode cL_law 32 = .ok (.aload_n 0, 1) := by decide +kernel
theorem dL_law_33 : decode cL_law 33 = .ok (.iload 4, 2) := by decide +kernel
theorem dL_law_35 : decode cL_law 35 = .ok (.iaload, 1) := by decide +kernel
theorem dL_law_36 : decode cL_law 36 = .ok (.bipush 15, 2) := by decide +kernel
end
section
theorem dL_law_38 : decode cL_law 38 = .ok (.iand, 1) := by decide +kernel
theorem dL_law_39 : decode cL_law 39 = .ok (.tableswitch 915 0 14 #[73, 165, 245, 325, 393, 429, 485, 498, 511, 579, 635, 691, 766, 822, 890], 73) := by decide +kernel
theorem dL_law_112 : decode cL_law 112 = .ok (.aload_n 1, 1) := by decide +kernel
theorem dL_law_113 : decode cL_law 113 = .ok (.aload_n 0, 1) := by decide +kernel
theorem dL_law_114 : decode cL_law 114 = .ok (.iload 4, 2) := by decide +kernel
theorem dL_law_116 : decode cL_law 116 = .ok (.iconst 1, 1) := by decide +kernel
theorem dL_law_117 : decode cL_law 117 = .ok (.iadd, 1) := by decide +kernel
theorem dL_law_118 : decode cL_law 118 = .ok (.iaload, 1) := by decide +kernel
theorem dL_law_119 : decode cL_law 119 = .ok (.aload_n 0, 1) := by decide +kernel
theorem dL_law_120 : decode cL_law 120 = .ok (.iload 4, 2) := by decide +kernel
theorem dL_law_122 : decode cL_law 122 = .ok (.iconst 2, 1) := by decide +kernel
theorem dL_law_123 : decode cL_law 123 = .ok (.iadd, 1) := by decide +kernel
theorem dL_law_124 : decode cL_law 124 = .ok (.iaload, 1) := by decide +kernel
theorem dL_law_125 : decode cL_law 125 = .ok (.aload_n 0, 1) := by decide +kernel
theorem dL_law_126 : decode cL_law 126 = .ok (.iload 4, 2) := by decide +kernel
theorem dL_law_128 : decode cL_law 128 = .ok (.iconst 3, 1) := by decide +kernel
theorem dL_law_129 : decode cL_law 129 = .ok (.iadd, 1) := by decide +kernel
theorem dL_law_130 : decode cL_law 130 = .ok (.iaload, 1) := by decide +kernel
theorem dL_law_131 : decode cL_law 131 = .ok (.aload_n 0, 1) := by decide +kernel
theorem dL_law_132 : decode cL_law 132 = .ok (.iload 4, 2) := by decide +kernel
theorem dL_law_134 : decode cL_law 134 = .ok (.iconst 4, 1) := by decide +kernel
theorem dL_law_135 : decode cL_law 135 = .ok (.iadd, 1) := by decide +kernel
theorem dL_law_136 : decode cL_law 136 = .ok (.iaload, 1) := by decide +kernel
theorem dL_law_137 : decode cL_law 137 = .ok (.aload_n 3, 1) := by decide +kernel
theorem dL_law_138 : decode cL_law 138 = .ok (.invokestatic 65, 3) := by decide +kernel
theorem dL_law_141 : decode cL_law 141 = .ok (.istore 5, 2) := by decide +kernel
theorem dL_law_143 : decode cL_law 143 = .ok (.aload_n 2, 1) := by decide +kernel
theorem dL_law_144 : decode cL_law 144 = .ok (.aload_n 0, 1) := by decide +kernel
theorem dL_law_145 : decode cL_law 145 = .ok (.iload 4, 2) := by decide +kernel
theorem dL_law_147 : decode cL_law 147 = .ok (.iconst 1, 1) := by decide +kernel
theorem dL_law_148 : decode cL_law 148 = .ok (.iadd, 1) := by decide +kernel
theorem dL_law_149 : decode cL_law 149 = .ok (.iaload, 1) := by decide +kernel
theorem dL_law_150 : decode cL_law 150 = .ok (.aload_n 0, 1) := by decide +kernel
theorem dL_law_151 : decode cL_law 151 = .ok (.iload 4, 2) := by decide +kernel
theorem dL_law_153 : decode cL_law 153 = .ok (.iconst 2, 1) := by decide +kernel
theorem dL_law_154 : decode cL_law 154 = .ok (.iadd, 1) := by decide +kernel
theorem dL_law_155 : decode cL_law 155 = .ok (.iaload, 1) := by decide +kernel
theorem dL_law_156 : decode cL_law 156 = .ok (.aload_n 0, 1) := by decide +kernel
theorem dL_law_157 : decode cL_law 157 = .ok (.iload 4, 2) := by decide +kernel
theorem dL_law_159 : decode cL_law 159 = .ok (.iconst 3, 1) := by decide +kernel
theorem dL_law_160 : decode cL_law 160 = .ok (.iadd, 1) := by decide +kernel
theorem dL_law_161 : decode cL_law 161 = .ok (.iaload, 1) := by decide +kernel
theorem dL_law_162 : decode cL_law 162 = .ok (.aload_n 0, 1) := by decide +kernel
theorem dL_law_163 : decode cL_law 163 = .ok (.iload 4, 2) := by decide +kernel
theorem dL_law_165 : decode cL_law 165 = .ok (.iconst 4, 1) := by decide +kernel
theorem dL_law_166 : decode cL_law 166 = .ok (.iadd, 1) := by decide +kernel
theorem dL_law_167 : decode cL_law 167 = .ok (.iaload, 1) := by decide +kernel
theorem dL_law_168 : decode cL_law 168 = .ok (.invokevirtual 70, 3) := by decide +kernel
theorem dL_law_171 : decode cL_law 171 = .ok (.istore 6, 2) := by decide +kernel
theorem dL_law_173 : decode cL_law 173 = .ok (.aload_n 2, 1) := by decide +kernel
theorem dL_law_174 : decode cL_law 174 = .ok (.invokevirtual 71, 3) := by decide +kernel
theorem dL_law_177 : decode cL_law 177 = .ok (.iload 5, 2) := by decide +kernel
theorem dL_law_179 : decode cL_law 179 = .ok (.if_icmp .eq 5, 3) := by decide +kernel
theorem dL_law_182 : decode cL_law 182 = .ok (.iconst 0, 1) := by decide +kernel
theorem dL_law_183 : decode cL_law 183 = .ok (.ireturn, 1) := by decide +kernel
theorem dL_law_184 : decode cL_law 184 = .ok (.iload 5, 2) := by decide +kernel
theorem dL_law_186 : decode cL_law 186 = .ok (.ifCond .ne 15, 3) := by decide +kernel
theorem dL_law_189 : decode cL_law 189 = .ok (.aload_n 3, 1) := by decide +kernel
theorem dL_law_190 : decode cL_law 190 = .ok (.iconst 0, 1) := by decide +kernel
theorem dL_law_191 : decode cL_law 191 = .ok (.laload, 1) := by decide +kernel
theorem dL_law_192 : decode cL_law 192 = .ok (.iload 6, 2) := by decide +kernel
theorem dL_law_194 : decode cL_law 194 = .ok (.i2l, 1) := by decide +kernel
theorem dL_law_195 : decode cL_law 195 = .ok (.lcmp, 1) := by decide +kernel
theorem dL_law_196 : decode cL_law 196 = .ok (.ifCond .eq 5, 3) := by decide +kernel
theorem dL_law_199 : decode cL_law 199 = .ok (.iconst 0, 1) := by decide +kernel
theorem dL_law_200 : decode cL_law 200 = .ok (.ireturn, 1) := by decide +kernel
theorem dL_law_201 : decode cL_law 201 = .ok (.goto 753, 3) := by decide +kernel
theorem dL_law_204 : decode cL_law 204 = .ok (.aload_n 1, 1) := by decide +kernel
theorem dL_law_205 : decode cL_law 205 = .ok (.aload_n 0, 1) := by decide +kernel
theorem dL_law_206 : decode cL_law 206 = .ok (.iload 4, 2) := by decide +kernel
theorem dL_law_208 : decode cL_law 208 = .ok (.iconst 1, 1) := by decide +kernel
theorem dL_law_209 : decode cL_law 209 = .ok (.iadd, 1) := by decide +kernel
theorem dL_law_210 : decode cL_law 210 = .ok (.iaload, 1) := by decide +kernel
theorem dL_law_211 : decode cL_law 211 = .ok (.aload_n 0, 1) := by decide +kernel
theorem dL_law_212 : decode cL_law 212 = .ok (.iload 4, 2) := by decide +kernel
theorem dL_law_214 : decode cL_law 214 = .ok (.iconst 2, 1) := by decide +kernel
theorem dL_law_215 : decode cL_law 215 = .ok (.iadd, 1) := by decide +kernel
theorem dL_law_216 : decode cL_law 216 = .ok (.iaload, 1) := by decide +kernel
theorem dL_law_217 : decode cL_law 217 = .ok (.aload_n 0, 1) := by decide +kernel
theorem dL_law_218 : decode cL_law 218 = .ok (.iload 4, 2) := by decide +kernel
theorem dL_law_220 : decode cL_law 220 = .ok (.iconst 3, 1) := by decide +kernel
theorem dL_law_221 : decode cL_law 221 = .ok (.iadd, 1) := by decide +kernel
theorem dL_law_222 : decode cL_law 222 = .ok (.iaload, 1) := by decide +kernel
theorem dL_law_223 : decode cL_law 223 = .ok (.aload_n 3, 1) := by decide +kernel
theorem dL_law_224 : decode cL_law 224 = .ok (.invokestatic 75, 3) := by decide +kernel
theorem dL_law_227 : decode cL_law 227 = .ok (.istore 5, 2) := by decide +kernel
theorem dL_law_229 : decode cL_law 229 = .ok (.aload_n 2, 1) := by decide +kernel
theorem dL_law_230 : decode cL_law 230 = .ok (.aload_n 0, 1) := by decide +kernel
theorem dL_law_231 : decode cL_law 231 = .ok (.iload 4, 2) := by decide +kernel
theorem dL_law_233 : decode cL_law 233 = .ok (.iconst 1, 1) := by decide +kernel
theorem dL_law_234 : decode cL_law 234 = .ok (.iadd, 1) := by decide +kernel
theorem dL_law_235 : decode cL_law 235 = .ok (.iaload, 1) := by decide +kernel
theorem dL_law_236 : decode cL_law 236 = .ok (.aload_n 0, 1) := by decide +kernel
theorem dL_law_237 : decode cL_law 237 = .ok (.iload 4, 2) := by decide +kernel
theorem dL_law_239 : decode cL_law 239 = .ok (.iconst 2, 1) := by decide +kernel
theorem dL_law_240 : decode cL_law 240 = .ok (.iadd, 1) := by decide +kernel
theorem dL_law_241 : decode cL_law 241 = .ok (.iaload, 1) := by decide +kernel
theorem dL_law_242 : decode cL_law 242 = .ok (.aload_n 0, 1) := by decide +kernel
theorem dL_law_243 : decode cL_law 243 = .ok (.iload 4, 2) := by decide +kernel
theorem dL_law_245 : decode cL_law 245 = .ok (.iconst 3, 1) := by decide +kernel
theorem dL_law_246 : decode cL_law 246 = .ok (.iadd, 1) := by decide +kernel
theorem dL_law_247 : decode cL_law 247 = .ok (.iaload, 1) := by decide +kernel
theorem dL_law_248 : decode cL_law 248 = .ok (.invokevirtual 78, 3) := by decide +kernel
theorem dL_law_251 : decode cL_law 251 = .ok (.istore 6, 2) := by decide +kernel
theorem dL_law_253 : decode cL_law 253 = .ok (.aload_n 2, 1) := by decide +kernel
theorem dL_law_254 : decode cL_law 254 = .ok (.invokevirtual 71, 3) := by decide +kernel
theorem dL_law_257 : decode cL_law 257 = .ok (.iload 5, 2) := by decide +kernel
theorem dL_law_259 : decode cL_law 259 = .ok (.if_icmp .eq 5, 3) := by decide +kernel
theorem dL_law_262 : decode cL_law 262 = .ok (.iconst 0, 1) := by decide +kernel
theorem dL_law_263 : decode cL_law 263 = .ok (.ireturn, 1) := by decide +kernel
theorem dL_law_264 : decode cL_law 264 = .ok (.iload 5, 2) := by decide +kernel
theorem dL_law_266 : decode cL_law 266 = .ok (.ifCond .ne 15, 3) := by decide +kernel
theorem dL_law_269 : decode cL_law 269 = .ok (.aload_n 3, 1) := by decide +kernel
theorem dL_law_270 : decode cL_law 270 = .ok (.iconst 0, 1) := by decide +kernel
theorem dL_law_271 : decode cL_law 271 = .ok (.laload, 1) := by decide +kernel
theorem dL_law_272 : decode cL_law 272 = .ok (.iload 6, 2) := by decide +kernel
theorem dL_law_274 : decode cL_law 274 = .ok (.i2l, 1) := by decide +kernel
theorem dL_law_275 : decode cL_law 275 = .ok (.lcmp, 1) := by decide +kernel
theorem dL_law_276 : decode cL_law 276 = .ok (.ifCond .eq 5, 3) := by decide +kernel
theorem dL_law_279 : decode cL_law 279 = .ok (.iconst 0, 1) := by decide +kernel
theorem dL_law_280 : decode cL_law 280 = .ok (.ireturn, 1) := by decide +kernel
theorem dL_law_281 : decode cL_law 281 = .ok (.goto 673, 3) := by decide +kernel
theorem dL_law_284 : decode cL_law 284 = .ok (.aload_n 1, 1) := by decide +kernel
theorem dL_law_285 : decode cL_law 285 = .ok (.aload_n 0, 1) := by decide +kernel
theorem dL_law_286 : decode cL_law 286 = .ok (.iload 4, 2) := by decide +kernel
theorem dL_law_288 : decode cL_law 288 = .ok (.iconst 1, 1) := by decide +kernel
theorem dL_law_289 : decode cL_law 289 = .ok (.iadd, 1) := by decide +kernel
theorem dL_law_290 : decode cL_law 290 = .ok (.iaload, 1) := by decide +kernel
theorem dL_law_291 : decode cL_law 291 = .ok (.aload_n 0, 1) := by decide +kernel
theorem dL_law_292 : decode cL_law 292 = .ok (.iload 4, 2) := by decide +kernel
theorem dL_law_294 : decode cL_law 294 = .ok (.iconst 2, 1) := by decide +kernel
theorem dL_law_295 : decode cL_law 295 = .ok (.iadd, 1) := by decide +kernel
theorem dL_law_296 : decode cL_law 296 = .ok (.iaload, 1) := by decide +kernel
theorem dL_law_297 : decode cL_law 297 = .ok (.aload_n 0, 1) := by decide +kernel
theorem dL_law_298 : decode cL_law 298 = .ok (.iload 4, 2) := by decide +kernel
theorem dL_law_300 : decode cL_law 300 = .ok (.iconst 3, 1) := by decide +kernel
theorem dL_law_301 : decode cL_law 301 = .ok (.iadd, 1) := by decide +kernel
theorem dL_law_302 : decode cL_law 302 = .ok (.iaload, 1) := by decide +kernel
theorem dL_law_303 : decode cL_law 303 = .ok (.aload_n 3, 1) := by decide +kernel
theorem dL_law_304 : decode cL_law 304 = .ok (.invokestatic 79, 3) := by decide +kernel
theorem dL_law_307 : decode cL_law 307 = .ok (.istore 5, 2) := by decide +kernel
theorem dL_law_309 : decode cL_law 309 = .ok (.aload_n 2, 1) := by decide +kernel
theorem dL_law_310 : decode cL_law 310 = .ok (.aload_n 0, 1) := by decide +kernel
theorem dL_law_311 : decode cL_law 311 = .ok (.iload 4, 2) := by decide +kernel
theorem dL_law_313 : decode cL_law 313 = .ok (.iconst 1, 1) := by decide +kernel
theorem dL_law_314 : decode cL_law 314 = .ok (.iadd, 1) := by decide +kernel
theorem dL_law_315 : decode cL_law 315 = .ok (.iaload, 1) := by decide +kernel
theorem dL_law_316 : decode cL_law 316 = .ok (.aload_n 0, 1) := by decide +kernel
theorem dL_law_317 : decode cL_law 317 = .ok (.iload 4, 2) := by decide +kernel
theorem dL_law_319 : decode cL_law 319 = .ok (.iconst 2, 1) := by decide +kernel
theorem dL_law_320 : decode cL_law 320 = .ok (.iadd, 1) := by decide +kernel
theorem dL_law_321 : decode cL_law 321 = .ok (.iaload, 1) := by decide +kernel
theorem dL_law_322 : decode cL_law 322 = .ok (.aload_n 0, 1) := by decide +kernel
theorem dL_law_323 : decode cL_law 323 = .ok (.iload 4, 2) := by decide +kernel
theorem dL_law_325 : decode cL_law 325 = .ok (.iconst 3, 1) := by decide +kernel
theorem dL_law_326 : decode cL_law 326 = .ok (.iadd, 1) := by decide +kernel
theorem dL_law_327 : decode cL_law 327 = .ok (.iaload, 1) := by decide +kernel
theorem dL_law_328 : decode cL_law 328 = .ok (.invokevirtual 81, 3) := by decide +kernel
theorem dL_law_331 : decode cL_law 331 = .ok (.istore 6, 2) := by decide +kernel
theorem dL_law_333 : decode cL_law 333 = .ok (.aload_n 2, 1) := by decide +kernel
theorem dL_law_334 : decode cL_law 334 = .ok (.invokevirtual 71, 3) := by decide +kernel
theorem dL_law_337 : decode cL_law 337 = .ok (.iload 5, 2) := by decide +kernel
theorem dL_law_339 : decode cL_law 339 = .ok (.if_icmp .eq 5, 3) := by decide +kernel
theorem dL_law_342 : decode cL_law 342 = .ok (.iconst 0, 1) := by decide +kernel
theorem dL_law_343 : decode cL_law 343 = .ok (.ireturn, 1) := by decide +kernel
theorem dL_law_344 : decode cL_law 344 = .ok (.iload 5, 2) := by decide +kernel
theorem dL_law_346 : decode cL_law 346 = .ok (.ifCond .ne 15, 3) := by decide +kernel
theorem dL_law_349 : decode cL_law 349 = .ok (.aload_n 3, 1) := by decide +kernel
theorem dL_law_350 : decode cL_law 350 = .ok (.iconst 0, 1) := by decide +kernel
theorem dL_law_351 : decode cL_law 351 = .ok (.laload, 1) := by decide +kernel
theorem dL_law_352 : decode cL_law 352 = .ok (.iload 6, 2) := by decide +kernel
theorem dL_law_354 : decode cL_law 354 = .ok (.i2l, 1) := by decide +kernel
theorem dL_law_355 : decode cL_law 355 = .ok (.lcmp, 1) := by decide +kernel
theorem dL_law_356 : decode cL_law 356 = .ok (.ifCond .eq 5, 3) := by decide +kernel
theorem dL_law_359 : decode cL_law 359 = .ok (.iconst 0, 1) := by decide +kernel
theorem dL_law_360 : decode cL_law 360 = .ok (.ireturn, 1) := by decide +kernel
theorem dL_law_361 : decode cL_law 361 = .ok (.goto 593, 3) := by decide +kernel
theorem dL_law_364 : decode cL_law 364 = .ok (.aload_n 1, 1) := by decide +kernel
theorem dL_law_365 : decode cL_law 365 = .ok (.aload_n 0, 1) := by decide +kernel
theorem dL_law_366 : decode cL_law 366 = .ok (.iload 4, 2) := by decide +kernel
theorem dL_law_368 : decode cL_law 368 = .ok (.iconst 1, 1) := by decide +kernel
theorem dL_law_369 : decode cL_law 369 = .ok (.iadd, 1) := by decide +kernel
theorem dL_law_370 : decode cL_law 370 = .ok (.iaload, 1) := by decide +kernel
theorem dL_law_371 : decode cL_law 371 = .ok (.aload_n 0, 1) := by decide +kernel
theorem dL_law_372 : decode cL_law 372 = .ok (.iload 4, 2) := by decide +kernel
theorem dL_law_374 : decode cL_law 374 = .ok (.iconst 2, 1) := by decide +kernel
theorem dL_law_375 : decode cL_law 375 = .ok (.iadd, 1) := by decide +kernel
theorem dL_law_376 : decode cL_law 376 = .ok (.iaload, 1) := by decide +kernel
theorem dL_law_377 : decode cL_law 377 = .ok (.aload_n 3, 1) := by decide +kernel
theorem dL_law_378 : decode cL_law 378 = .ok (.invokestatic 82, 3) := by decide +kernel
theorem dL_law_381 : decode cL_law 381 = .ok (.istore 5, 2) := by decide +kernel
theorem dL_law_383 : decode cL_law 383 = .ok (.aload_n 2, 1) := by decide +kernel
theorem dL_law_384 : decode cL_law 384 = .ok (.aload_n 0, 1) := by decide +kernel
theorem dL_law_385 : decode cL_law 385 = .ok (.iload 4, 2) := by decide +kernel
theorem dL_law_387 : decode cL_law 387 = .ok (.iconst 1, 1) := by decide +kernel
theorem dL_law_388 : decode cL_law 388 = .ok (.iadd, 1) := by decide +kernel
theorem dL_law_389 : decode cL_law 389 = .ok (.iaload, 1) := by decide +kernel
theorem dL_law_390 : decode cL_law 390 = .ok (.aload_n 0, 1) := by decide +kernel
theorem dL_law_391 : decode cL_law 391 = .ok (.iload 4, 2) := by decide +kernel
theorem dL_law_393 : decode cL_law 393 = .ok (.iconst 2, 1) := by decide +kernel
theorem dL_law_394 : decode cL_law 394 = .ok (.iadd, 1) := by decide +kernel
theorem dL_law_395 : decode cL_law 395 = .ok (.iaload, 1) := by decide +kernel
theorem dL_law_396 : decode cL_law 396 = .ok (.invokevirtual 85, 3) := by decide +kernel
theorem dL_law_399 : decode cL_law 399 = .ok (.istore 6, 2) := by decide +kernel
theorem dL_law_401 : decode cL_law 401 = .ok (.aload_n 2, 1) := by decide +kernel
theorem dL_law_402 : decode cL_law 402 = .ok (.invokevirtual 71, 3) := by decide +kernel
theorem dL_law_405 : decode cL_law 405 = .ok (.iload 5, 2) := by decide +kernel
theorem dL_law_407 : decode cL_law 407 = .ok (.if_icmp .eq 5, 3) := by decide +kernel
theorem dL_law_410 : decode cL_law 410 = .ok (.iconst 0, 1) := by decide +kernel
theorem dL_law_411 : decode cL_law 411 = .ok (.ireturn, 1) := by decide +kernel
theorem dL_law_412 : decode cL_law 412 = .ok (.iload 5, 2) := by decide +kernel
theorem dL_law_414 : decode cL_law 414 = .ok (.ifCond .ne 15, 3) := by decide +kernel
theorem dL_law_417 : decode cL_law 417 = .ok (.aload_n 3, 1) := by decide +kernel
theorem dL_law_418 : decode cL_law 418 = .ok (.iconst 0, 1) := by decide +kernel
theorem dL_law_419 : decode cL_law 419 = .ok (.laload, 1) := by decide +kernel
theorem dL_law_420 : decode cL_law 420 = .ok (.iload 6, 2) := by decide +kernel
theorem dL_law_422 : decode cL_law 422 = .ok (.i2l, 1) := by decide +kernel
theorem dL_law_423 : decode cL_law 423 = .ok (.lcmp, 1) := by decide +kernel
theorem dL_law_424 : decode cL_law 424 = .ok (.ifCond .eq 5, 3) := by decide +kernel
theorem dL_law_427 : decode cL_law 427 = .ok (.iconst 0, 1) := by decide +kernel
theorem dL_law_428 : decode cL_law 428 = .ok (.ireturn, 1) := by decide +kernel
theorem dL_law_429 : decode cL_law 429 = .ok (.goto 525, 3) := by decide +kernel
theorem dL_law_432 : decode cL_law 432 = .ok (.aload_n 1, 1) := by decide +kernel
theorem dL_law_433 : decode cL_law 433 = .ok (.aload_n 0, 1) := by decide +kernel
theorem dL_law_434 : decode cL_law 434 = .ok (.iload 4, 2) := by decide +kernel
theorem dL_law_436 : decode cL_law 436 = .ok (.iconst 1, 1) := by decide +kernel
theorem dL_law_437 : decode cL_law 437 = .ok (.iadd, 1) := by decide +kernel
theorem dL_law_438 : decode cL_law 438 = .ok (.iaload, 1) := by decide +kernel
theorem dL_law_439 : decode cL_law 439 = .ok (.invokestatic 86, 3) := by decide +kernel
theorem dL_law_442 : decode cL_law 442 = .ok (.istore 5, 2) := by decide +kernel
theorem dL_law_444 : decode cL_law 444 = .ok (.aload_n 2, 1) := by decide +kernel
theorem dL_law_445 : decode cL_law 445 = .ok (.aload_n 0, 1) := by decide +kernel
theorem dL_law_446 : decode cL_law 446 = .ok (.iload 4, 2) := by decide +kernel
theorem dL_law_448 : decode cL_law 448 = .ok (.iconst 1, 1) := by decide +kernel
theorem dL_law_449 : decode cL_law 449 = .ok (.iadd, 1) := by decide +kernel
theorem dL_law_450 : decode cL_law 450 = .ok (.iaload, 1) := by decide +kernel
theorem dL_law_451 : decode cL_law 451 = .ok (.invokevirtual 89, 3) := by decide +kernel
theorem dL_law_454 : decode cL_law 454 = .ok (.aload_n 2, 1) := by decide +kernel
theorem dL_law_455 : decode cL_law 455 = .ok (.invokevirtual 71, 3) := by decide +kernel
theorem dL_law_458 : decode cL_law 458 = .ok (.iload 5, 2) := by decide +kernel
theorem dL_law_460 : decode cL_law 460 = .ok (.if_icmp .eq 5, 3) := by decide +kernel
theorem dL_law_463 : decode cL_law 463 = .ok (.iconst 0, 1) := by decide +kernel
theorem dL_law_464 : decode cL_law 464 = .ok (.ireturn, 1) := by decide +kernel
theorem dL_law_465 : decode cL_law 465 = .ok (.goto 489, 3) := by decide +kernel
theorem dL_law_468 : decode cL_law 468 = .ok (.aload_n 1, 1) := by decide +kernel
theorem dL_law_469 : decode cL_law 469 = .ok (.aload_n 0, 1) := by decide +kernel
theorem dL_law_470 : decode cL_law 470 = .ok (.iload 4, 2) := by decide +kernel
theorem dL_law_472 : decode cL_law 472 = .ok (.iconst 1, 1) := by decide +kernel
theorem dL_law_473 : decode cL_law 473 = .ok (.iadd, 1) := by decide +kernel
theorem dL_law_474 : decode cL_law 474 = .ok (.iaload, 1) := by decide +kernel
theorem dL_law_475 : decode cL_law 475 = .ok (.aload_n 3, 1) := by decide +kernel
theorem dL_law_476 : decode cL_law 476 = .ok (.invokestatic 90, 3) := by decide +kernel
theorem dL_law_479 : decode cL_law 479 = .ok (.istore 5, 2) := by decide +kernel
theorem dL_law_481 : decode cL_law 481 = .ok (.aload_n 2, 1) := by decide +kernel
theorem dL_law_482 : decode cL_law 482 = .ok (.aload_n 0, 1) := by decide +kernel
theorem dL_law_483 : decode cL_law 483 = .ok (.iload 4, 2) := by decide +kernel
theorem dL_law_485 : decode cL_law 485 = .ok (.iconst 1, 1) := by decide +kernel
theorem dL_law_486 : decode cL_law 486 = .ok (.iadd, 1) := by decide +kernel
theorem dL_law_487 : decode cL_law 487 = .ok (.iaload, 1) := by decide +kernel
theorem dL_law_488 : decode cL_law 488 = .ok (.invokevirtual 93, 3) := by decide +kernel
theorem dL_law_491 : decode cL_law 491 = .ok (.istore 6, 2) := by decide +kernel
theorem dL_law_493 : decode cL_law 493 = .ok (.aload_n 2, 1) := by decide +kernel
theorem dL_law_494 : decode cL_law 494 = .ok (.invokevirtual 71, 3) := by decide +kernel
theorem dL_law_497 : decode cL_law 497 = .ok (.iload 5, 2) := by decide +kernel
theorem dL_law_499 : decode cL_law 499 = .ok (.if_icmp .eq 5, 3) := by decide +kernel
theorem dL_law_502 : decode cL_law 502 = .ok (.iconst 0, 1) := by decide +kernel
theorem dL_law_503 : decode cL_law 503 = .ok (.ireturn, 1) := by decide +kernel
theorem dL_law_504 : decode cL_law 504 = .ok (.iload 5, 2) := by decide +kernel
theorem dL_law_506 : decode cL_law 506 = .ok (.ifCond .ne 15, 3) := by decide +kernel
theorem dL_law_509 : decode cL_law 509 = .ok (.aload_n 3, 1) := by decide +kernel
theorem dL_law_510 : decode cL_law 510 = .ok (.iconst 0, 1) := by decide +kernel
theorem dL_law_511 : decode cL_law 511 = .ok (.laload, 1) := by decide +kernel
theorem dL_law_512 : decode cL_law 512 = .ok (.iload 6, 2) := by decide +kernel
theorem dL_law_514 : decode cL_law 514 = .ok (.i2l, 1) := by decide +kernel
theorem dL_law_515 : decode cL_law 515 = .ok (.lcmp, 1) := by decide +kernel
theorem dL_law_516 : decode cL_law 516 = .ok (.ifCond .eq 5, 3) := by decide +kernel
theorem dL_law_519 : decode cL_law 519 = .ok (.iconst 0, 1) := by decide +kernel
theorem dL_law_520 : decode cL_law 520 = .ok (.ireturn, 1) := by decide +kernel
theorem dL_law_521 : decode cL_law 521 = .ok (.goto 433, 3) := by decide +kernel
theorem dL_law_524 : decode cL_law 524 = .ok (.aload_n 1, 1) := by decide +kernel
theorem dL_law_525 : decode cL_law 525 = .ok (.invokevirtual 94, 3) := by decide +kernel
theorem dL_law_528 : decode cL_law 528 = .ok (.aload_n 2, 1) := by decide +kernel
theorem dL_law_529 : decode cL_law 529 = .ok (.invokevirtual 98, 3) := by decide +kernel
theorem dL_law_532 : decode cL_law 532 = .ok (.if_icmp .eq 422, 3) := by decide +kernel
theorem dL_law_535 : decode cL_law 535 = .ok (.iconst 0, 1) := by decide +kernel
theorem dL_law_536 : decode cL_law 536 = .ok (.ireturn, 1) := by decide +kernel
theorem dL_law_537 : decode cL_law 537 = .ok (.aload_n 1, 1) := by decide +kernel
theorem dL_law_538 : decode cL_law 538 = .ok (.invokevirtual 99, 3) := by decide +kernel
theorem dL_law_541 : decode cL_law 541 = .ok (.aload_n 2, 1) := by decide +kernel
theorem dL_law_542 : decode cL_law 542 = .ok (.invokevirtual 102, 3) := by decide +kernel
theorem dL_law_545 : decode cL_law 545 = .ok (.if_icmp .eq 409, 3) := by decide +kernel
theorem dL_law_548 : decode cL_law 548 = .ok (.iconst 0, 1) := by decide +kernel
theorem dL_law_549 : decode cL_law 549 = .ok (.ireturn, 1) := by decide +kernel
theorem dL_law_550 : decode cL_law 550 = .ok (.aload_n 1, 1) := by decide +kernel
theorem dL_law_551 : decode cL_law 551 = .ok (.aload_n 0, 1) := by decide +kernel
theorem dL_law_552 : decode cL_law 552 = .ok (.iload 4, 2) := by decide +kernel
theorem dL_law_554 : decode cL_law 554 = .ok (.iconst 1, 1) := by decide +kernel
theorem dL_law_555 : decode cL_law 555 = .ok (.iadd, 1) := by decide +kernel
theorem dL_law_556 : decode cL_law 556 = .ok (.iaload, 1) := by decide +kernel
theorem dL_law_557 : decode cL_law 557 = .ok (.aload_n 0, 1) := by decide +kernel
theorem dL_law_558 : decode cL_law 558 = .ok (.iload 4, 2) := by decide +kernel
theorem dL_law_560 : decode cL_law 560 = .ok (.iconst 2, 1) := by decide +kernel
theorem dL_law_561 : decode cL_law 561 = .ok (.iadd, 1) := by decide +kernel
theorem dL_law_562 : decode cL_law 562 = .ok (.iaload, 1) := by decide +kernel
theorem dL_law_563 : decode cL_law 563 = .ok (.aload_n 3, 1) := by decide +kernel
theorem dL_law_564 : decode cL_law 564 = .ok (.invokestatic 103, 3) := by decide +kernel
theorem dL_law_567 : decode cL_law 567 = .ok (.istore 5, 2) := by decide +kernel
theorem dL_law_569 : decode cL_law 569 = .ok (.aload_n 2, 1) := by decide +kernel
theorem dL_law_570 : decode cL_law 570 = .ok (.aload_n 0, 1) := by decide +kernel
theorem dL_law_571 : decode cL_law 571 = .ok (.iload 4, 2) := by decide +kernel
theorem dL_law_573 : decode cL_law 573 = .ok (.iconst 1, 1) := by decide +kernel
theorem dL_law_574 : decode cL_law 574 = .ok (.iadd, 1) := by decide +kernel
theorem dL_law_575 : decode cL_law 575 = .ok (.iaload, 1) := by decide +kernel
theorem dL_law_576 : decode cL_law 576 = .ok (.aload_n 0, 1) := by decide +kernel
theorem dL_law_577 : decode cL_law 577 = .ok (.iload 4, 2) := by decide +kernel
theorem dL_law_579 : decode cL_law 579 = .ok (.iconst 2, 1) := by decide +kernel
theorem dL_law_580 : decode cL_law 580 = .ok (.iadd, 1) := by decide +kernel
theorem dL_law_581 : decode cL_law 581 = .ok (.iaload, 1) := by decide +kernel
theorem dL_law_582 : decode cL_law 582 = .ok (.invokevirtual 105, 3) := by decide +kernel
theorem dL_law_585 : decode cL_law 585 = .ok (.istore 6, 2) := by decide +kernel
theorem dL_law_587 : decode cL_law 587 = .ok (.aload_n 2, 1) := by decide +kernel
theorem dL_law_588 : decode cL_law 588 = .ok (.invokevirtual 71, 3) := by decide +kernel
theorem dL_law_591 : decode cL_law 591 = .ok (.iload 5, 2) := by decide +kernel
theorem dL_law_593 : decode cL_law 593 = .ok (.if_icmp .eq 5, 3) := by decide +kernel
theorem dL_law_596 : decode cL_law 596 = .ok (.iconst 0, 1) := by decide +kernel
theorem dL_law_597 : decode cL_law 597 = .ok (.ireturn, 1) := by decide +kernel
theorem dL_law_598 : decode cL_law 598 = .ok (.iload 5, 2) := by decide +kernel
theorem dL_law_600 : decode cL_law 600 = .ok (.ifCond .ne 15, 3) := by decide +kernel
theorem dL_law_603 : decode cL_law 603 = .ok (.aload_n 3, 1) := by decide +kernel
theorem dL_law_604 : decode cL_law 604 = .ok (.iconst 0, 1) := by decide +kernel
theorem dL_law_605 : decode cL_law 605 = .ok (.laload, 1) := by decide +kernel
theorem dL_law_606 : decode cL_law 606 = .ok (.iload 6, 2) := by decide +kernel
theorem dL_law_608 : decode cL_law 608 = .ok (.i2l, 1) := by decide +kernel
theorem dL_law_609 : decode cL_law 609 = .ok (.lcmp, 1) := by decide +kernel
theorem dL_law_610 : decode cL_law 610 = .ok (.ifCond .eq 5, 3) := by decide +kernel
theorem dL_law_613 : decode cL_law 613 = .ok (.iconst 0, 1) := by decide +kernel
theorem dL_law_614 : decode cL_law 614 = .ok (.ireturn, 1) := by decide +kernel
theorem dL_law_615 : decode cL_law 615 = .ok (.goto 339, 3) := by decide +kernel
theorem dL_law_618 : decode cL_law 618 = .ok (.aload_n 1, 1) := by decide +kernel
theorem dL_law_619 : decode cL_law 619 = .ok (.aload_n 0, 1) := by decide +kernel
theorem dL_law_620 : decode cL_law 620 = .ok (.iload 4, 2) := by decide +kernel
theorem dL_law_622 : decode cL_law 622 = .ok (.iconst 1, 1) := by decide +kernel
theorem dL_law_623 : decode cL_law 623 = .ok (.iadd, 1) := by decide +kernel
theorem dL_law_624 : decode cL_law 624 = .ok (.iaload, 1) := by decide +kernel
theorem dL_law_625 : decode cL_law 625 = .ok (.aload_n 3, 1) := by decide +kernel
theorem dL_law_626 : decode cL_law 626 = .ok (.invokestatic 106, 3) := by decide +kernel
theorem dL_law_629 : decode cL_law 629 = .ok (.istore 5, 2) := by decide +kernel
theorem dL_law_631 : decode cL_law 631 = .ok (.aload_n 2, 1) := by decide +kernel
theorem dL_law_632 : decode cL_law 632 = .ok (.aload_n 0, 1) := by decide +kernel
theorem dL_law_633 : decode cL_law 633 = .ok (.iload 4, 2) := by decide +kernel
theorem dL_law_635 : decode cL_law 635 = .ok (.iconst 1, 1) := by decide +kernel
theorem dL_law_636 : decode cL_law 636 = .ok (.iadd, 1) := by decide +kernel
theorem dL_law_637 : decode cL_law 637 = .ok (.iaload, 1) := by decide +kernel
theorem dL_law_638 : decode cL_law 638 = .ok (.invokevirtual 108, 3) := by decide +kernel
theorem dL_law_641 : decode cL_law 641 = .ok (.istore 6, 2) := by decide +kernel
theorem dL_law_643 : decode cL_law 643 = .ok (.aload_n 2, 1) := by decide +kernel
theorem dL_law_644 : decode cL_law 644 = .ok (.invokevirtual 71, 3) := by decide +kernel
theorem dL_law_647 : decode cL_law 647 = .ok (.iload 5, 2) := by decide +kernel
theorem dL_law_649 : decode cL_law 649 = .ok (.if_icmp .eq 5, 3) := by decide +kernel
theorem dL_law_652 : decode cL_law 652 = .ok (.iconst 0, 1) := by decide +kernel
theorem dL_law_653 : decode cL_law 653 = .ok (.ireturn, 1) := by decide +kernel
theorem dL_law_654 : decode cL_law 654 = .ok (.iload 5, 2) := by decide +kernel
theorem dL_law_656 : decode cL_law 656 = .ok (.ifCond .ne 15, 3) := by decide +kernel
theorem dL_law_659 : decode cL_law 659 = .ok (.aload_n 3, 1) := by decide +kernel
theorem dL_law_660 : decode cL_law 660 = .ok (.iconst 0, 1) := by decide +kernel
theorem dL_law_661 : decode cL_law 661 = .ok (.laload, 1) := by decide +kernel
theorem dL_law_662 : decode cL_law 662 = .ok (.iload 6, 2) := by decide +kernel
theorem dL_law_664 : decode cL_law 664 = .ok (.i2l, 1) := by decide +kernel
theorem dL_law_665 : decode cL_law 665 = .ok (.lcmp, 1) := by decide +kernel
theorem dL_law_666 : decode cL_law 666 = .ok (.ifCond .eq 5, 3) := by decide +kernel
theorem dL_law_669 : decode cL_law 669 = .ok (.iconst 0, 1) := by decide +kernel
theorem dL_law_670 : decode cL_law 670 = .ok (.ireturn, 1) := by decide +kernel
theorem dL_law_671 : decode cL_law 671 = .ok (.goto 283, 3) := by decide +kernel
theorem dL_law_674 : decode cL_law 674 = .ok (.aload_n 1, 1) := by decide +kernel
theorem dL_law_675 : decode cL_law 675 = .ok (.aload_n 0, 1) := by decide +kernel
theorem dL_law_676 : decode cL_law 676 = .ok (.iload 4, 2) := by decide +kernel
theorem dL_law_678 : decode cL_law 678 = .ok (.iconst 1, 1) := by decide +kernel
theorem dL_law_679 : decode cL_law 679 = .ok (.iadd, 1) := by decide +kernel
theorem dL_law_680 : decode cL_law 680 = .ok (.iaload, 1) := by decide +kernel
theorem dL_law_681 : decode cL_law 681 = .ok (.aload_n 3, 1) := by decide +kernel
theorem dL_law_682 : decode cL_law 682 = .ok (.invokestatic 109, 3) := by decide +kernel
theorem dL_law_685 : decode cL_law 685 = .ok (.istore 5, 2) := by decide +kernel
theorem dL_law_687 : decode cL_law 687 = .ok (.aload_n 2, 1) := by decide +kernel
theorem dL_law_688 : decode cL_law 688 = .ok (.aload_n 0, 1) := by decide +kernel
theorem dL_law_689 : decode cL_law 689 = .ok (.iload 4, 2) := by decide +kernel
theorem dL_law_691 : decode cL_law 691 = .ok (.iconst 1, 1) := by decide +kernel
theorem dL_law_692 : decode cL_law 692 = .ok (.iadd, 1) := by decide +kernel
theorem dL_law_693 : decode cL_law 693 = .ok (.iaload, 1) := by decide +kernel
theorem dL_law_694 : decode cL_law 694 = .ok (.invokevirtual 111, 3) := by decide +kernel
theorem dL_law_697 : decode cL_law 697 = .ok (.istore 6, 2) := by decide +kernel
theorem dL_law_699 : decode cL_law 699 = .ok (.aload_n 2, 1) := by decide +kernel
theorem dL_law_700 : decode cL_law 700 = .ok (.invokevirtual 71, 3) := by decide +kernel
theorem dL_law_703 : decode cL_law 703 = .ok (.iload 5, 2) := by decide +kernel
theorem dL_law_705 : decode cL_law 705 = .ok (.if_icmp .eq 5, 3) := by decide +kernel
theorem dL_law_708 : decode cL_law 708 = .ok (.iconst 0, 1) := by decide +kernel
theorem dL_law_709 : decode cL_law 709 = .ok (.ireturn, 1) := by decide +kernel
theorem dL_law_710 : decode cL_law 710 = .ok (.iload 5, 2) := by decide +kernel
theorem dL_law_712 : decode cL_law 712 = .ok (.ifCond .ne 15, 3) := by decide +kernel
theorem dL_law_715 : decode cL_law 715 = .ok (.aload_n 3, 1) := by decide +kernel
theorem dL_law_716 : decode cL_law 716 = .ok (.iconst 0, 1) := by decide +kernel
theorem dL_law_717 : decode cL_law 717 = .ok (.laload, 1) := by decide +kernel
theorem dL_law_718 : decode cL_law 718 = .ok (.iload 6, 2) := by decide +kernel
theorem dL_law_720 : decode cL_law 720 = .ok (.i2l, 1) := by decide +kernel
theorem dL_law_721 : decode cL_law 721 = .ok (.lcmp, 1) := by decide +kernel
theorem dL_law_722 : decode cL_law 722 = .ok (.ifCond .eq 5, 3) := by decide +kernel
theorem dL_law_725 : decode cL_law 725 = .ok (.iconst 0, 1) := by decide +kernel
theorem dL_law_726 : decode cL_law 726 = .ok (.ireturn, 1) := by decide +kernel
theorem dL_law_727 : decode cL_law 727 = .ok (.goto 227, 3) := by decide +kernel
theorem dL_law_730 : decode cL_law 730 = .ok (.aload_n 1, 1) := by decide +kernel
theorem dL_law_731 : decode cL_law 731 = .ok (.aload_n 0, 1) := by decide +kernel
theorem dL_law_732 : decode cL_law 732 = .ok (.iload 4, 2) := by decide +kernel
theorem dL_law_734 : decode cL_law 734 = .ok (.iconst 1, 1) := by decide +kernel
theorem dL_law_735 : decode cL_law 735 = .ok (.iadd, 1) := by decide +kernel
theorem dL_law_736 : decode cL_law 736 = .ok (.iaload, 1) := by decide +kernel
theorem dL_law_737 : decode cL_law 737 = .ok (.aload_n 0, 1) := by decide +kernel
theorem dL_law_738 : decode cL_law 738 = .ok (.iload 4, 2) := by decide +kernel
theorem dL_law_740 : decode cL_law 740 = .ok (.iconst 2, 1) := by decide +kernel
theorem dL_law_741 : decode cL_law 741 = .ok (.iadd, 1) := by decide +kernel
theorem dL_law_742 : decode cL_law 742 = .ok (.iaload, 1) := by decide +kernel
theorem dL_law_743 : decode cL_law 743 = .ok (.aload_n 3, 1) := by decide +kernel
end
section
theorem dL_law_744 : decode cL_law 744 = .ok (.invokestatic 112, 3) := by decide +kernel
theorem dL_law_747 : decode cL_law 747 = .ok (.istore 5, 2) := by decide +kernel
theorem dL_law_749 : decode cL_law 749 = .ok (.aload_n 2, 1) := by decide +kernel
theorem dL_law_750 : decode cL_law 750 = .ok (.aload_n 0, 1) := by decide +kernel
theorem dL_law_751 : decode cL_law 751 = .ok (.iload 4, 2) := by decide +kernel
theorem dL_law_753 : decode cL_law 753 = .ok (.iconst 1, 1) := by decide +kernel
theorem dL_law_754 : decode cL_law 754 = .ok (.iadd, 1) := by decide +kernel
theorem dL_law_755 : decode cL_law 755 = .ok (.iaload, 1) := by decide +kernel
theorem dL_law_756 : decode cL_law 756 = .ok (.aload_n 0, 1) := by decide +kernel
theorem dL_law_757 : decode cL_law 757 = .ok (.iload 4, 2) := by decide +kernel
theorem dL_law_759 : decode cL_law 759 = .ok (.iconst 2, 1) := by decide +kernel
theorem dL_law_760 : decode cL_law 760 = .ok (.iadd, 1) := by decide +kernel
theorem dL_law_761 : decode cL_law 761 = .ok (.iaload, 1) := by decide +kernel
theorem dL_law_762 : decode cL_law 762 = .ok (.invokevirtual 114, 3) := by decide +kernel
theorem dL_law_765 : decode cL_law 765 = .ok (.istore 6, 2) := by decide +kernel
theorem dL_law_767 : decode cL_law 767 = .ok (.aload_n 2, 1) := by decide +kernel
theorem dL_law_768 : decode cL_law 768 = .ok (.invokevirtual 71, 3) := by decide +kernel
theorem dL_law_771 : decode cL_law 771 = .ok (.iload 5, 2) := by decide +kernel
theorem dL_law_773 : decode cL_law 773 = .ok (.if_icmp .eq 5, 3) := by decide +kernel
theorem dL_law_776 : decode cL_law 776 = .ok (.iconst 0, 1) := by decide +kernel
theorem dL_law_777 : decode cL_law 777 = .ok (.ireturn, 1) := by decide +kernel
theorem dL_law_778 : decode cL_law 778 = .ok (.iload 5, 2) := by decide +kernel
theorem dL_law_780 : decode cL_law 780 = .ok (.ifCond .ne 22, 3) := by decide +kernel
theorem dL_law_783 : decode cL_law 783 = .ok (.aload_n 3, 1) := by decide +kernel
theorem dL_law_784 : decode cL_law 784 = .ok (.iconst 0, 1) := by decide +kernel
theorem dL_law_785 : decode cL_law 785 = .ok (.laload, 1) := by decide +kernel
theorem dL_law_786 : decode cL_law 786 = .ok (.iload 6, 2) := by decide +kernel
theorem dL_law_788 : decode cL_law 788 = .ok (.ifCond .eq 7, 3) := by decide +kernel
theorem dL_law_791 : decode cL_law 791 = .ok (.lconst 1, 1) := by decide +kernel
theorem dL_law_792 : decode cL_law 792 = .ok (.goto 4, 3) := by decide +kernel
theorem dL_law_795 : decode cL_law 795 = .ok (.lconst 0, 1) := by decide +kernel
theorem dL_law_796 : decode cL_law 796 = .ok (.lcmp, 1) := by decide +kernel
theorem dL_law_797 : decode cL_law 797 = .ok (.ifCond .eq 5, 3) := by decide +kernel
theorem dL_law_800 : decode cL_law 800 = .ok (.iconst 0, 1) := by decide +kernel
theorem dL_law_801 : decode cL_law 801 = .ok (.ireturn, 1) := by decide +kernel
theorem dL_law_802 : decode cL_law 802 = .ok (.goto 152, 3) := by decide +kernel
theorem dL_law_805 : decode cL_law 805 = .ok (.aload_n 1, 1) := by decide +kernel
theorem dL_law_806 : decode cL_law 806 = .ok (.aload_n 0, 1) := by decide +kernel
theorem dL_law_807 : decode cL_law 807 = .ok (.iload 4, 2) := by decide +kernel
theorem dL_law_809 : decode cL_law 809 = .ok (.iconst 1, 1) := by decide +kernel
theorem dL_law_810 : decode cL_law 810 = .ok (.iadd, 1) := by decide +kernel
theorem dL_law_811 : decode cL_law 811 = .ok (.iaload, 1) := by decide +kernel
theorem dL_law_812 : decode cL_law 812 = .ok (.aload_n 3, 1) := by decide +kernel
theorem dL_law_813 : decode cL_law 813 = .ok (.invokestatic 115, 3) := by decide +kernel
theorem dL_law_816 : decode cL_law 816 = .ok (.istore 5, 2) := by decide +kernel
theorem dL_law_818 : decode cL_law 818 = .ok (.aload_n 2, 1) := by decide +kernel
theorem dL_law_819 : decode cL_law 819 = .ok (.aload_n 0, 1) := by decide +kernel
theorem dL_law_820 : decode cL_law 820 = .ok (.iload 4, 2) := by decide +kernel
theorem dL_law_822 : decode cL_law 822 = .ok (.iconst 1, 1) := by decide +kernel
theorem dL_law_823 : decode cL_law 823 = .ok (.iadd, 1) := by decide +kernel
theorem dL_law_824 : decode cL_law 824 = .ok (.iaload, 1) := by decide +kernel
theorem dL_law_825 : decode cL_law 825 = .ok (.invokevirtual 117, 3) := by decide +kernel
theorem dL_law_828 : decode cL_law 828 = .ok (.istore 6, 2) := by decide +kernel
theorem dL_law_830 : decode cL_law 830 = .ok (.aload_n 2, 1) := by decide +kernel
theorem dL_law_831 : decode cL_law 831 = .ok (.invokevirtual 71, 3) := by decide +kernel
theorem dL_law_834 : decode cL_law 834 = .ok (.iload 5, 2) := by decide +kernel
theorem dL_law_836 : decode cL_law 836 = .ok (.if_icmp .eq 5, 3) := by decide +kernel
theorem dL_law_839 : decode cL_law 839 = .ok (.iconst 0, 1) := by decide +kernel
theorem dL_law_840 : decode cL_law 840 = .ok (.ireturn, 1) := by decide +kernel
theorem dL_law_841 : decode cL_law 841 = .ok (.iload 5, 2) := by decide +kernel
theorem dL_law_843 : decode cL_law 843 = .ok (.ifCond .ne 15, 3) := by decide +kernel
theorem dL_law_846 : decode cL_law 846 = .ok (.aload_n 3, 1) := by decide +kernel
theorem dL_law_847 : decode cL_law 847 = .ok (.iconst 0, 1) := by decide +kernel
theorem dL_law_848 : decode cL_law 848 = .ok (.laload, 1) := by decide +kernel
theorem dL_law_849 : decode cL_law 849 = .ok (.iload 6, 2) := by decide +kernel
theorem dL_law_851 : decode cL_law 851 = .ok (.i2l, 1) := by decide +kernel
theorem dL_law_852 : decode cL_law 852 = .ok (.lcmp, 1) := by decide +kernel
theorem dL_law_853 : decode cL_law 853 = .ok (.ifCond .eq 5, 3) := by decide +kernel
theorem dL_law_856 : decode cL_law 856 = .ok (.iconst 0, 1) := by decide +kernel
theorem dL_law_857 : decode cL_law 857 = .ok (.ireturn, 1) := by decide +kernel
theorem dL_law_858 : decode cL_law 858 = .ok (.goto 96, 3) := by decide +kernel
theorem dL_law_861 : decode cL_law 861 = .ok (.aload_n 1, 1) := by decide +kernel
theorem dL_law_862 : decode cL_law 862 = .ok (.aload_n 0, 1) := by decide +kernel
theorem dL_law_863 : decode cL_law 863 = .ok (.iload 4, 2) := by decide +kernel
theorem dL_law_865 : decode cL_law 865 = .ok (.iconst 1, 1) := by decide +kernel
theorem dL_law_866 : decode cL_law 866 = .ok (.iadd, 1) := by decide +kernel
theorem dL_law_867 : decode cL_law 867 = .ok (.iaload, 1) := by decide +kernel
theorem dL_law_868 : decode cL_law 868 = .ok (.aload_n 0, 1) := by decide +kernel
theorem dL_law_869 : decode cL_law 869 = .ok (.iload 4, 2) := by decide +kernel
theorem dL_law_871 : decode cL_law 871 = .ok (.iconst 2, 1) := by decide +kernel
theorem dL_law_872 : decode cL_law 872 = .ok (.iadd, 1) := by decide +kernel
theorem dL_law_873 : decode cL_law 873 = .ok (.iaload, 1) := by decide +kernel
theorem dL_law_874 : decode cL_law 874 = .ok (.aload_n 3, 1) := by decide +kernel
theorem dL_law_875 : decode cL_law 875 = .ok (.invokestatic 118, 3) := by decide +kernel
theorem dL_law_878 : decode cL_law 878 = .ok (.istore 5, 2) := by decide +kernel
theorem dL_law_880 : decode cL_law 880 = .ok (.aload_n 2, 1) := by decide +kernel
theorem dL_law_881 : decode cL_law 881 = .ok (.aload_n 0, 1) := by decide +kernel
theorem dL_law_882 : decode cL_law 882 = .ok (.iload 4, 2) := by decide +kernel
theorem dL_law_884 : decode cL_law 884 = .ok (.iconst 1, 1) := by decide +kernel
theorem dL_law_885 : decode cL_law 885 = .ok (.iadd, 1) := by decide +kernel
theorem dL_law_886 : decode cL_law 886 = .ok (.iaload, 1) := by decide +kernel
theorem dL_law_887 : decode cL_law 887 = .ok (.aload_n 0, 1) := by decide +kernel
theorem dL_law_888 : decode cL_law 888 = .ok (.iload 4, 2) := by decide +kernel
theorem dL_law_890 : decode cL_law 890 = .ok (.iconst 2, 1) := by decide +kernel
theorem dL_law_891 : decode cL_law 891 = .ok (.iadd, 1) := by decide +kernel
theorem dL_law_892 : decode cL_law 892 = .ok (.iaload, 1) := by decide +kernel
theorem dL_law_893 : decode cL_law 893 = .ok (.invokevirtual 120, 3) := by decide +kernel
theorem dL_law_896 : decode cL_law 896 = .ok (.istore 6, 2) := by decide +kernel
theorem dL_law_898 : decode cL_law 898 = .ok (.aload_n 2, 1) := by decide +kernel
theorem dL_law_899 : decode cL_law 899 = .ok (.invokevirtual 71, 3) := by decide +kernel
theorem dL_law_902 : decode cL_law 902 = .ok (.iload 5, 2) := by decide +kernel
theorem dL_law_904 : decode cL_law 904 = .ok (.if_icmp .eq 5, 3) := by decide +kernel
theorem dL_law_907 : decode cL_law 907 = .ok (.iconst 0, 1) := by decide +kernel
theorem dL_law_908 : decode cL_law 908 = .ok (.ireturn, 1) := by decide +kernel
theorem dL_law_909 : decode cL_law 909 = .ok (.iload 5, 2) := by decide +kernel
theorem dL_law_911 : decode cL_law 911 = .ok (.ifCond .ne 15, 3) := by decide +kernel
theorem dL_law_914 : decode cL_law 914 = .ok (.aload_n 3, 1) := by decide +kernel
theorem dL_law_915 : decode cL_law 915 = .ok (.iconst 0, 1) := by decide +kernel
theorem dL_law_916 : decode cL_law 916 = .ok (.laload, 1) := by decide +kernel
theorem dL_law_917 : decode cL_law 917 = .ok (.iload 6, 2) := by decide +kernel
theorem dL_law_919 : decode cL_law 919 = .ok (.i2l, 1) := by decide +kernel
theorem dL_law_920 : decode cL_law 920 = .ok (.lcmp, 1) := by decide +kernel
theorem dL_law_921 : decode cL_law 921 = .ok (.ifCond .eq 5, 3) := by decide +kernel
theorem dL_law_924 : decode cL_law 924 = .ok (.iconst 0, 1) := by decide +kernel
theorem dL_law_925 : decode cL_law 925 = .ok (.ireturn, 1) := by decide +kernel
theorem dL_law_926 : decode cL_law 926 = .ok (.goto 28, 3) := by decide +kernel
theorem dL_law_929 : decode cL_law 929 = .ok (.aload_n 1, 1) := by decide +kernel
theorem dL_law_930 : decode cL_law 930 = .ok (.aload_n 0, 1) := by decide +kernel
theorem dL_law_931 : decode cL_law 931 = .ok (.iload 4, 2) := by decide +kernel
theorem dL_law_933 : decode cL_law 933 = .ok (.iconst 1, 1) := by decide +kernel
theorem dL_law_934 : decode cL_law 934 = .ok (.iadd, 1) := by decide +kernel
theorem dL_law_935 : decode cL_law 935 = .ok (.iaload, 1) := by decide +kernel
theorem dL_law_936 : decode cL_law 936 = .ok (.invokevirtual 121, 3) := by decide +kernel
theorem dL_law_939 : decode cL_law 939 = .ok (.aload_n 2, 1) := by decide +kernel
theorem dL_law_940 : decode cL_law 940 = .ok (.aload_n 0, 1) := by decide +kernel
theorem dL_law_941 : decode cL_law 941 = .ok (.iload 4, 2) := by decide +kernel
theorem dL_law_943 : decode cL_law 943 = .ok (.iconst 1, 1) := by decide +kernel
theorem dL_law_944 : decode cL_law 944 = .ok (.iadd, 1) := by decide +kernel
theorem dL_law_945 : decode cL_law 945 = .ok (.iaload, 1) := by decide +kernel
theorem dL_law_946 : decode cL_law 946 = .ok (.invokevirtual 124, 3) := by decide +kernel
theorem dL_law_949 : decode cL_law 949 = .ok (.if_icmp .eq 5, 3) := by decide +kernel
theorem dL_law_952 : decode cL_law 952 = .ok (.iconst 0, 1) := by decide +kernel
theorem dL_law_953 : decode cL_law 953 = .ok (.ireturn, 1) := by decide +kernel
theorem dL_law_954 : decode cL_law 954 = .ok (.iinc 4 5, 3) := by decide +kernel
theorem dL_law_957 : decode cL_law 957 = .ok (.goto (-934), 3) := by decide +kernel
theorem dL_law_960 : decode cL_law 960 = .ok (.iconst 1, 1) := by decide +kernel
theorem dL_law_961 : decode cL_law 961 = .ok (.ireturn, 1) := by decide +kernel
end
section
/-! ===== calls by the words of gtbl; truth as a number ===== -/
def zB (b : Bool) : Int32 := bif b then 1 else 0
theorem zB_0 {b : Bool} : zB b = 0 ↔ b = false := by cases b <;> decide
theorem zB_1 {b : Bool} : ¬ zB b = 0 ↔ b = true := by cases b <;> decide
theorem zB_nar (b : Bool) : narrow .boolean (.int (zB b)) = .int (zB b) := by cases b <;> rfl
theorem zB_fit (b : Bool) : fits .boolean (.int (zB b)) = true := by cases b <;> rfl
theorem zgood {y : MethodName} {bytes : ByteArray} {maxL : Nat} {ret : Option FieldType} (hc : Cond.code y bytes maxL ret ∈ gtbl) : GoodIn gtbl (zws y bytes maxL ret) := by
  intro w h
  rcases List.mem_cons.mp h with rfl | h
  · exact ⟨hc, gtbl_good _ hc⟩
  · exact ⟨h, gtbl_good w h⟩
section ZCW
variable {R : Room} {s : State} {args : Array Value} {own C host : String} {index maxL mc ms n : Nat} {y : MethodName} {bytes : ByteArray} {ret : Option FieldType} {rm : Room}
theorem zcwV (ht : ∀ w ∈ gtbl, w.before args s = true) (hc : Cond.code y bytes maxL ret ∈ gtbl) (hl : Cond.methodLink own index y ∈ gtbl) (hi : Cond.instanceMethod y ∈ gtbl) (hs : Cond.selects C y y ∈ gtbl) (hn : Cond.initialized y.cls ∈ gtbl)
    (hd : y.cls ≠ "java/lang/invoke/MethodHandle" ∧ y.cls ≠ "java/lang/invoke/VarHandle" ∧ (parseMethodDescriptor y.desc).map (fun d => d.parameters.length) = some n) (hrc : rm.cells = mc) (hrs : rm.slots = ms) (hR : rm.frames + 1 ≤ R.frames ∧ 8 + (maxL + 11) + rm.locals ≤ R.locals) :
    CallW R s args own C index y bytes maxL ret (zws y bytes maxL ret) rm mc ms n :=
  ⟨callB_of n ht (zgood hc) rfl hrc hrs (ht _ hn) (ht _ hl) hd hR, ht _ hi, ht _ hs⟩
theorem zcwS (ht : ∀ w ∈ gtbl, w.before args s = true) (hc : Cond.code y bytes maxL ret ∈ gtbl) (hl : Cond.methodLink own index y ∈ gtbl) (hi : Cond.static y ∈ gtbl) (hn : Cond.initialized y.cls ∈ gtbl)
    (hd : y.cls ≠ "java/lang/invoke/MethodHandle" ∧ y.cls ≠ "java/lang/invoke/VarHandle" ∧ (parseMethodDescriptor y.desc).map (fun d => d.parameters.length) = some n) (hrc : rm.cells = mc) (hrs : rm.slots = ms) (hR : rm.frames + 1 ≤ R.frames ∧ 8 + (maxL + 11) + rm.locals ≤ R.locals) :
    CallB R s args own index y bytes maxL ret (zws y bytes maxL ret) rm mc ms n ∧ (Cond.static y).before args s = true :=
  ⟨callB_of n ht (zgood hc) rfl hrc hrs (ht _ hn) (ht _ hl) hd hR, ht _ hi⟩
theorem zcwI (ht : ∀ w ∈ gtbl, w.before args s = true) (hc : Cond.code y bytes maxL none ∈ gtbl) (hl : Cond.methodLink own index y ∈ gtbl) (hi : Cond.instanceMethod y ∈ gtbl) (hn : Cond.initialized y.cls ∈ gtbl) (hy : y.name = "<init>")
    (hd : y.cls ≠ "java/lang/invoke/MethodHandle" ∧ y.cls ≠ "java/lang/invoke/VarHandle" ∧ (parseMethodDescriptor y.desc).map (fun d => d.parameters.length) = some n) (hrc : rm.cells = mc) (hrs : rm.slots = ms) (hR : rm.frames + 1 ≤ R.frames ∧ 8 + (maxL + 11) + rm.locals ≤ R.locals) :
    CallB R s args own index y bytes maxL none (zws y bytes maxL none) rm mc ms n ∧ y.name = "<init>" ∧ (Cond.instanceMethod y).before args s = true :=
  ⟨callB_of n ht (zgood hc) rfl hrc hrs (ht _ hn) (ht _ hl) hd hR, hy, ht _ hi⟩
theorem zcnB (ht : ∀ w ∈ gtbl, w.before args s = true) (hc : Cond.code y bytes maxL ret ∈ gtbl) (hl : va_Nw (.methodLinkNest own index y host) s) (hn : Cond.initialized y.cls ∈ gtbl)
    (hd : y.cls ≠ "java/lang/invoke/MethodHandle" ∧ y.cls ≠ "java/lang/invoke/VarHandle" ∧ (parseMethodDescriptor y.desc).map (fun d => d.parameters.length) = some n) (hrc : rm.cells = mc) (hrs : rm.slots = ms) (hR : rm.frames + 1 ≤ R.frames ∧ 8 + (maxL + 11) + rm.locals ≤ R.locals) :
    va_CN R s args own index y host bytes maxL ret (zws y bytes maxL ret) rm mc ms n := va_cnB n ht (zgood hc) rfl hrc hrs hl (ht _ hn) hd hR
theorem zcnS (ht : ∀ w ∈ gtbl, w.before args s = true) (hc : Cond.code y bytes maxL ret ∈ gtbl) (hl : va_Nw (.methodLinkNest own index y host) s) (hi : Cond.static y ∈ gtbl) (hn : Cond.initialized y.cls ∈ gtbl)
    (hd : y.cls ≠ "java/lang/invoke/MethodHandle" ∧ y.cls ≠ "java/lang/invoke/VarHandle" ∧ (parseMethodDescriptor y.desc).map (fun d => d.parameters.length) = some n) (hrc : rm.cells = mc) (hrs : rm.slots = ms) (hR : rm.frames + 1 ≤ R.frames ∧ 8 + (maxL + 11) + rm.locals ≤ R.locals) :
    va_CN R s args own index y host bytes maxL ret (zws y bytes maxL ret) rm mc ms n ∧ (Cond.static y).before args s = true ∧ True := ⟨zcnB ht hc hl hn hd hrc hrs hR, ht _ hi, trivial⟩
theorem zcnI (ht : ∀ w ∈ gtbl, w.before args s = true) (hc : Cond.code y bytes maxL none ∈ gtbl) (hl : va_Nw (.methodLinkNest own index y host) s) (hi : Cond.instanceMethod y ∈ gtbl) (hn : Cond.initialized y.cls ∈ gtbl) (hy : y.name = "<init>")
    (hd : y.cls ≠ "java/lang/invoke/MethodHandle" ∧ y.cls ≠ "java/lang/invoke/VarHandle" ∧ (parseMethodDescriptor y.desc).map (fun d => d.parameters.length) = some n) (hrc : rm.cells = mc) (hrs : rm.slots = ms) (hR : rm.frames + 1 ≤ R.frames ∧ 8 + (maxL + 11) + rm.locals ≤ R.locals) :
    va_CN R s args own index y host bytes maxL none (zws y bytes maxL none) rm mc ms n ∧ y.name = "<init>" ∧ (Cond.instanceMethod y).before args s = true := ⟨zcnB ht hc hl hn hd hrc hrs hR, hy, ht _ hi⟩
end ZCW
/-! ===== the pictures of the class's objects ===== -/
/-- the catalogue: its object, rooms, loads, costs, kinds -/
def wC (hc c1 c2 c3 c4 : Nat) (cA : ClassId) (ro lo co ks : Nat → Nat) (nb sl : Nat) : va_W :=
  [(hc, .inr (0, [.ref c1, .ref c2, .ref c3, .ref c4, .int (nI nb), .int (nI sl)])), (c1, .inl (cA, 6, .inl (fun x => nI (ro x)))), (c2, .inl (cA, 6, .inl (fun x => nI (lo x)))), (c3, .inl (cA, 6, .inl (fun x => nI (co x)))), (c4, .inl (cA, 6, .inl (fun x => nI (ks x))))]
/-- the units: their object, sizes, weights, kinds, apart, together -/
def wU (hu u1 u2 u3 u4 u5 : Nat) (cA : ClassId) (si we ki ap tg : Nat → Nat) (nu : Nat) : va_W :=
  [(hu, .inr (3, [.ref u1, .ref u2, .ref u3, .ref u4, .ref u5, .int (nI nu)])), (u1, .inl (cA, 8, .inl (fun x => nI (si x)))), (u2, .inl (cA, 8, .inl (fun x => nI (we x)))), (u3, .inl (cA, 8, .inl (fun x => nI (ki x)))), (u4, .inl (cA, 8, .inl (fun x => nI (ap x)))), (u5, .inl (cA, 8, .inl (fun x => nI (tg x))))]
/-- the choice: its object, boxes, sets -/
def wH (hd d1 d2 : Nat) (cA : ClassId) (bn us : Nat → Nat) (nh ct : Nat) (mk ex : Bool) : va_W :=
  [(hd, .inr (1, [.ref d1, .ref d2, .int (nI nh), .int (nI ct), .int (zB mk), .int (zB ex)])), (d1, .inl (cA, 8, .inl (fun x => nI (bn x)))), (d2, .inl (cA, 8, .inl (fun x => nI (us x))))]
/-- a number or -1 -/
def zo : Option Nat → Int32
  | none => -1
  | some v => nI v
/-- the search: its object, boxes offered, costs offered, least costs, numbers, first sets -/
def wE (he e1 e2 e3 e4 e5 : Nat) (cA : ClassId) (ob : Nat → Option Nat) (oc : Nat → Nat) (lc : Nat → Option Nat) (fb fs : Nat → Nat) : va_W :=
  [(he, .inr (2, [.ref e1, .ref e2, .ref e3, .ref e4, .ref e5])), (e1, .inl (cA, 64, .inl (fun x => zo (ob x)))), (e2, .inl (cA, 64, .inl (fun x => nI (oc x)))), (e3, .inl (cA, 64, .inl (fun x => zo (lc x)))), (e4, .inl (cA, 64, .inl (fun x => nI (fb x)))), (e5, .inl (cA, 64, .inl (fun x => nI (fs x))))]
section ZT
variable {p : Program} {l : Launch} {e : Env} {R : Room} {s : State} {m : MethodId} {args : Array Value} {below : List Frame} {meth : Method} {c : Code} {Q : State → Prop}
variable {nL cells slots pc : Nat} {D : va_G} {cl : List vw_C} {A : Nat → Prop} {ws : va_W} {lv : List (Nat × Value)} {st : List Value}
/-- the number on top, told otherwise -/
theorem z_topi {x y : Int32} (h : x = y) (k : zW p l e R s m args below meth c nL D cl A cells slots Q ws lv pc (.int y :: st)) : zW p l e R s m args below meth c nL D cl A cells slots Q ws lv pc (.int x :: st) := h ▸ k
end ZT
theorem zhas {b : Int32} {n : Nat} (hn : n < 2 ^ 31) : (0 ≤ b ∧ b < nI n) ↔ ∃ j, j < n ∧ b = nI j := by
  constructor
  · rintro ⟨h1, h2⟩
    have h3 : ¬ b < 0 := by rw [Int32.lt_iff_toInt_lt]; rw [Int32.le_iff_toInt_le] at h1; omega
    obtain ⟨j, hj, rfl⟩ := nI_of h3
    exact ⟨j, (nI_ltI hj hn).mp h2, rfl⟩
  · rintro ⟨j, hj, rfl⟩
    exact ⟨nI_pos' (by omega), nI_lt hj hn⟩
theorem zset_t {P : Nat → Bool} {n : Nat} (h : P n = true) : zset P (n + 1) = zset P n ||| 2 ^ n := by unfold zset; rw [h]; cases n <;> rfl
theorem zset_f {P : Nat → Bool} {n : Nat} (h : P n = false) : zset P (n + 1) = zset P n := by unfold zset; rw [h]; cases n <;> rfl
theorem zsum_t {f : Nat → Nat} {a n : Nat} (h : a.testBit n = true) : zsum f a (n + 1) = zsum f a n + f n := by unfold zsum; rw [h]; cases n <;> rfl
theorem zsum_f {f : Nat → Nat} {a n : Nat} (h : a.testBit n = false) : zsum f a (n + 1) = zsum f a n := by unfold zsum; rw [h]; cases n <;> rfl
theorem zuni_t {f : Nat → Nat} {a n : Nat} (h : a.testBit n = true) : zuni f a (n + 1) = zuni f a n ||| f n := by unfold zuni; rw [h]; cases n <;> rfl
theorem zuni_f {f : Nat → Nat} {a n : Nat} (h : a.testBit n = false) : zuni f a (n + 1) = zuni f a n := by unfold zuni; rw [h]; cases n <;> rfl
theorem zge_end {j n : Nat} (h : j ≤ n) (hn : n < 2 ^ 31) (c : nI n ≤ nI j) : j = n := by
  rw [nI_leI hn (by omega)] at c; omega
theorem zge_on {j n : Nat} (hn : n < 2 ^ 31) (h : j ≤ n) (c : ¬ nI n ≤ nI j) : j < n := by
  rw [nI_leI hn (by omega)] at c; omega
theorem zo_ne {v : Nat} (h : v < 2 ^ 31) : ¬ zo (some v) = -1 := by
  intro q
  have h1 : (nI v).toInt = ((-1 : Int32)).toInt := congrArg Int32.toInt q
  rw [nI_toInt h] at h1
  have h2 : ((-1 : Int32)).toInt = -1 := by decide
  omega
/-- of the numbers below n that P holds of the one with the least cost, of equal ones the first -/
def zche (P : Nat → Bool) (co : Nat → Nat) : Nat → Option Nat
  | 0 => none
  | n + 1 => bif P n then (match zche P co n with | none => some n | some b => if co n < co b then some n else some b) else zche P co n
theorem zche_f {P : Nat → Bool} {co : Nat → Nat} {n : Nat} (h : P n = false) : zche P co (n + 1) = zche P co n := by
  show (bif P n then _ else _) = _
  rw [h]; rfl
theorem zche_n {P : Nat → Bool} {co : Nat → Nat} {n : Nat} (h : P n = true) (h2 : zche P co n = none) : zche P co (n + 1) = some n := by
  show (bif P n then _ else _) = _
  rw [h, h2]; rfl
theorem zche_l {P : Nat → Bool} {co : Nat → Nat} {n b : Nat} (h : P n = true) (h2 : zche P co n = some b) (h3 : co n < co b) : zche P co (n + 1) = some n := by
  show (bif P n then _ else _) = _
  rw [h, h2]; show (if _ then _ else _) = _; rw [if_pos h3]
theorem zche_k {P : Nat → Bool} {co : Nat → Nat} {n b : Nat} (h : P n = true) (h2 : zche P co n = some b) (h3 : ¬ co n < co b) : zche P co (n + 1) = some b := by
  show (bif P n then _ else _) = _
  rw [h, h2]; show (if _ then _ else _) = _; rw [if_neg h3]
theorem zche_lt {P : Nat → Bool} {co : Nat → Nat} : ∀ {n b : Nat}, zche P co n = some b → b < n ∧ P b = true
  | 0, b, h => by cases h
  | n + 1, b, h => by
    cases hp : P n with
    | false =>
      rw [zche_f hp] at h
      have := zche_lt h
      exact ⟨by omega, this.2⟩
    | true =>
      cases hz : zche P co n with
      | none =>
        rw [zche_n hp hz] at h
        cases h
        exact ⟨by omega, hp⟩
      | some d =>
        have hd := zche_lt hz
        by_cases h3 : co n < co d
        · rw [zche_l hp hz h3] at h
          cases h
          exact ⟨by omega, hp⟩
        · rw [zche_k hp hz h3] at h
          cases h
          exact ⟨by omega, hd.2⟩
end
section
set_option maxHeartbeats 4000000 in
set_option maxRecDepth 100000 in
/-- whether a set has a number -/
theorem c_holds {l : Launch} {D : va_G} {cA : ClassId} {tys : List (ClassId × FieldType)} {w : va_W} (a j : Nat) (ha : a < 2 ^ 31) (hj : j < 32) : zMi l yX4_holds (zws yX4_holds cX4_holds 2 (some .boolean)) { frames := 0, cells := 0, slots := 0, locals := 0 } D zcl ((cA, .int) :: tys) zG [.int (nI a), .int (nI j)] w (fun r w2 => r = zB (a.testBit j) ∧ w2 = w) 0 0 := by
  refine z_ofi (cc := cX4_holds) (maxL := 2) (ret := (some .boolean)) (by decide) rfl (Nat.le_of_ble_eq_true rfl) ?_
  intro p e s m below meth c A F hr hlk hnm
  refine z_iload_n F dX4_holds_0 rfl ?_
  refine z_iload_n F dX4_holds_1 rfl ?_
  refine z_ishr F dX4_holds_2 ?_
  refine z_iconst (v := 1) F dX4_holds_3 (by decide) ?_
  refine z_iand F dX4_holds_4 ?_
  refine z_if_eq (tgt := 12) F dX4_holds_5 (by decide) (fun c5 => ?_) (fun c5 => ?_)
  · refine z_iconst (v := 0) F dX4_holds_12 (by decide) ?_
    exact z_iret F hr rfl hlk dX4_holds_13 ⟨by rw [zb_bit ha hj] at c5; rw [c5]; rfl, rfl⟩ (Nat.le_of_ble_eq_true rfl) (Nat.le_of_ble_eq_true rfl)
  · refine z_iconst (v := 1) F dX4_holds_8 (by decide) ?_
    refine z_goto (tgt := 13) F dX4_holds_9 (by decide) ?_
    exact z_iret F hr rfl hlk dX4_holds_13 ⟨by rw [zb_bit ha hj] at c5; rw [Bool.not_eq_false _ |>.mp c5]; rfl, rfl⟩ (Nat.le_of_ble_eq_true rfl) (Nat.le_of_ble_eq_true rfl)

theorem zlt_nge {x y : Int32} (h : x < y) (k : y ≤ x) : False := by
  rw [Int32.lt_iff_toInt_lt] at h; rw [Int32.le_iff_toInt_le] at k; omega
theorem znlt_ge {x y : Int32} (h : ¬ x < y) : y ≤ x := by
  rw [Int32.lt_iff_toInt_lt] at h; rw [Int32.le_iff_toInt_le]; omega
theorem znle_lt {x y : Int32} (h : ¬ x ≤ y) : y < x := by
  rw [Int32.le_iff_toInt_le] at h; rw [Int32.lt_iff_toInt_lt]; omega
theorem zhas_t {P : Prop} {q : Decidable P} (h : P) : (1 : Int32) = zB (@decide P q) := by rw [decide_eq_true h]; rfl
theorem zhas_f {P : Prop} {q : Decidable P} (h : ¬ P) : (0 : Int32) = zB (@decide P q) := by rw [decide_eq_false h]; rfl

set_option maxHeartbeats 4000000 in
set_option maxRecDepth 100000 in
/-- Catalogue.has -/
theorem c_C_has {l : Launch} {D : va_G} {tys : List (ClassId × FieldType)} {hc c1 c2 c3 c4 : Nat} {cA : ClassId} {ro lo co ks : Nat → Nat} {nb sl : Nat} (b : Int32) : zMi l yX0_has (zws yX0_has cX0_has 2 (some .boolean)) { frames := 0, cells := 0, slots := 0, locals := 0 } D zcl ((cA, .int) :: tys) zG [.ref hc, .int b] (wC hc c1 c2 c3 c4 cA ro lo co ks nb sl) (fun r w2 => r = zB (decide (0 ≤ b ∧ b < nI nb)) ∧ w2 = (wC hc c1 c2 c3 c4 cA ro lo co ks nb sl)) 0 0 := by
  refine z_ofi (cc := cX0_has) (maxL := 2) (ret := (some .boolean)) (by decide) rfl (Nat.le_of_ble_eq_true rfl) ?_
  intro p e s m below meth c A F hr hlk hnm
  refine z_iload_n F dX0_has_0 rfl ?_
  refine z_if_lt (tgt := 16) F dX0_has_1 (by decide) (fun c1 => ?_) (fun c1 => ?_)
  · refine z_iconst (v := 0) F dX0_has_16 (by decide) ?_
    exact z_iret F hr rfl hlk dX0_has_17 ⟨zhas_f (fun q => zlt_nge c1 q.1), rfl⟩ (Nat.le_of_ble_eq_true rfl) (Nat.le_of_ble_eq_true rfl)
  · refine z_iload_n F dX0_has_4 rfl ?_
    refine z_aload_n F dX0_has_5 rfl ?_
    refine z_get (ci := 0) (C := RX0) (T := TX0) (N := 6) F 0 4 dX0_has_6 inX0 kfX0_24 rfl rfl rfl (by decide) rfl ?_
    refine z_icmp_ge (tgt := 16) F dX0_has_9 (by decide) (fun c9 => ?_) (fun c9 => ?_)
    · refine z_iconst (v := 0) F dX0_has_16 (by decide) ?_
      exact z_iret F hr rfl hlk dX0_has_17 ⟨zhas_f (fun q => zlt_nge q.2 c9), rfl⟩ (Nat.le_of_ble_eq_true rfl) (Nat.le_of_ble_eq_true rfl)
    · refine z_iconst (v := 1) F dX0_has_12 (by decide) ?_
      refine z_goto (tgt := 17) F dX0_has_13 (by decide) ?_
      exact z_iret F hr rfl hlk dX0_has_17 ⟨zhas_t ⟨znlt_ge c1, znle_lt c9⟩, rfl⟩ (Nat.le_of_ble_eq_true rfl) (Nat.le_of_ble_eq_true rfl)

set_option maxHeartbeats 4000000 in
set_option maxRecDepth 100000 in
/-- Catalogue.isFull -/
theorem c_C_isFull {l : Launch} {D : va_G} {tys : List (ClassId × FieldType)} {hc c1 c2 c3 c4 : Nat} {cA : ClassId} {ro lo co ks : Nat → Nat} {nb sl : Nat} (hn : nb ≤ 6) : zMi l yX0_isFull (zws yX0_isFull cX0_isFull 1 (some .boolean)) { frames := 0, cells := 0, slots := 0, locals := 0 } D zcl ((cA, .int) :: tys) zG [.ref hc] (wC hc c1 c2 c3 c4 cA ro lo co ks nb sl) (fun r w2 => r = zB (decide (6 ≤ nb)) ∧ w2 = (wC hc c1 c2 c3 c4 cA ro lo co ks nb sl)) 0 0 := by
  refine z_ofi (cc := cX0_isFull) (maxL := 1) (ret := (some .boolean)) (by decide) rfl (Nat.le_of_ble_eq_true rfl) ?_
  intro p e s m below meth c A F hr hlk hnm
  refine z_aload_n F dX0_isFull_0 rfl ?_
  refine z_get (ci := 0) (C := RX0) (T := TX0) (N := 6) F 0 4 dX0_isFull_1 inX0 kfX0_24 rfl rfl rfl (by decide) rfl ?_
  refine z_bipush (v := 6) F dX0_isFull_4 (by decide) ?_
  refine z_icmp_lt (tgt := 13) F dX0_isFull_6 (by decide) (fun c6 => ?_) (fun c6 => ?_)
  · refine z_iconst (v := 0) F dX0_isFull_13 (by decide) ?_
    exact z_iret F hr rfl hlk dX0_isFull_14 ⟨zhas_f (fun q => by rw [show (6 : Int32) = nI 6 from rfl, nI_ltI (by omega) (by omega)] at c6; omega), rfl⟩ (Nat.le_of_ble_eq_true rfl) (Nat.le_of_ble_eq_true rfl)
  · refine z_iconst (v := 1) F dX0_isFull_9 (by decide) ?_
    refine z_goto (tgt := 14) F dX0_isFull_10 (by decide) ?_
    exact z_iret F hr rfl hlk dX0_isFull_14 ⟨zhas_t (by rw [show (6 : Int32) = nI 6 from rfl, nI_ltI (by omega) (by omega)] at c6; omega), rfl⟩ (Nat.le_of_ble_eq_true rfl) (Nat.le_of_ble_eq_true rfl)

set_option maxHeartbeats 4000000 in
set_option maxRecDepth 100000 in
/-- Catalogue.keepSlack -/
theorem c_C_keepSlack {l : Launch} {D : va_G} {tys : List (ClassId × FieldType)} {hc c1 c2 c3 c4 : Nat} {cA : ClassId} {ro lo co ks : Nat → Nat} {nb sl : Nat} (v : Nat) : zMv l yX0_keepSlack (zws yX0_keepSlack cX0_keepSlack 2 none) { frames := 0, cells := 0, slots := 0, locals := 0 } D zcl ((cA, .int) :: tys) zG [.ref hc, .int (nI v)] (wC hc c1 c2 c3 c4 cA ro lo co ks nb sl) (fun w2 => w2 = wC hc c1 c2 c3 c4 cA ro lo co ks nb v) 0 0 := by
  refine z_ofv (cc := cX0_keepSlack) (maxL := 2) (ret := none) (by decide) rfl (Nat.le_of_ble_eq_true rfl) ?_
  intro p e s m below meth c A F hr hlk hnm
  refine z_aload_n F dX0_keepSlack_0 rfl ?_
  refine z_iload_n F dX0_keepSlack_1 rfl ?_
  refine z_put (ci := 0) (C := RX0) (T := TX0) (N := 6) (ty := .int) F 0 5 dX0_keepSlack_2 inX0 tyX0 tyX0_ok nmX0 kfX0_32 rfl rfl rfl (by decide) rfl (by decide +kernel) rfl rfl (Nat.le_of_ble_eq_true rfl) ?_
  exact z_vret F hr hlk dX0_keepSlack_5 rfl (Nat.le_of_ble_eq_true rfl) (Nat.le_of_ble_eq_true rfl)

set_option maxHeartbeats 4000000 in
set_option maxRecDepth 100000 in
/-- Catalogue.roomOf -/
theorem c_C_roomOf {l : Launch} {D : va_G} {tys : List (ClassId × FieldType)} {hc c1 c2 c3 c4 : Nat} {cA : ClassId} {ro lo co ks : Nat → Nat} {nb sl : Nat} (hn : nb ≤ 6) (k : Nat) (hk : k < nb) : zMi l yX0_roomOf (zws yX0_roomOf cX0_roomOf 2 (some .int)) { frames := 1, cells := 0, slots := 0, locals := 21 } D zcl ((cA, .int) :: tys) zG [.ref hc, .int (nI k)] (wC hc c1 c2 c3 c4 cA ro lo co ks nb sl) (fun r w2 => r = nI (ro k) ∧ w2 = (wC hc c1 c2 c3 c4 cA ro lo co ks nb sl)) 0 0 := by
  refine z_ofi (cc := cX0_roomOf) (maxL := 2) (ret := (some .int)) (by decide) rfl (Nat.le_of_ble_eq_true rfl) ?_
  intro p e s m below meth c A F hr hlk hnm
  refine z_aload_n F dX0_roomOf_0 rfl ?_
  refine z_iload_n F dX0_roomOf_1 rfl ?_
  refine z_callVi0 F (c_C_has (nI k)) 0 rfl rfl (zcwV F.2.2.2.2.1 kcX0_has kmX0_35 kiX0_has ksX0_has knX0 hdX0_has rfl rfl ⟨(Nat.le_of_ble_eq_true rfl), (Nat.le_of_ble_eq_true rfl)⟩) dX0_roomOf_2 rfl rfl (Nat.le_of_ble_eq_true rfl) ⟨(Nat.le_of_ble_eq_true rfl), (Nat.le_of_ble_eq_true rfl)⟩ ?_
  rintro r w2 ⟨rfl, rfl⟩
  refine z_if_eq (tgt := 17) F dX0_roomOf_5 (by decide) (fun c5 => ?_) (fun c5 => ?_)
  · exact absurd (zB_0.mp c5) (by rw [decide_eq_true ((zhas (by omega)).mpr ⟨k, hk, rfl⟩)]; decide)
  · refine z_aload_n F dX0_roomOf_8 rfl ?_
    refine z_get (ci := 0) (C := RX0) (T := TX0) (N := 6) F 0 0 dX0_roomOf_9 inX0 kfX0_9 rfl rfl rfl (by decide) rfl ?_
    refine z_iload_n F dX0_roomOf_12 rfl ?_
    refine z_ialdN F 1 0 dX0_roomOf_13 rfl rfl rfl (Nat.lt_of_lt_of_le hk hn) (by decide) ?_
    refine z_goto (tgt := 18) F dX0_roomOf_14 (by decide) ?_
    exact z_iret F hr rfl hlk dX0_roomOf_18 ⟨rfl, rfl⟩ (Nat.le_of_ble_eq_true rfl) (Nat.le_of_ble_eq_true rfl)

set_option maxHeartbeats 4000000 in
set_option maxRecDepth 100000 in
/-- Catalogue.costOf -/
theorem c_C_costOf {l : Launch} {D : va_G} {tys : List (ClassId × FieldType)} {hc c1 c2 c3 c4 : Nat} {cA : ClassId} {ro lo co ks : Nat → Nat} {nb sl : Nat} (hn : nb ≤ 6) (k : Nat) (hk : k < nb) : zMi l yX0_costOf (zws yX0_costOf cX0_costOf 2 (some .int)) { frames := 1, cells := 0, slots := 0, locals := 21 } D zcl ((cA, .int) :: tys) zG [.ref hc, .int (nI k)] (wC hc c1 c2 c3 c4 cA ro lo co ks nb sl) (fun r w2 => r = nI (co k) ∧ w2 = (wC hc c1 c2 c3 c4 cA ro lo co ks nb sl)) 0 0 := by
  refine z_ofi (cc := cX0_costOf) (maxL := 2) (ret := (some .int)) (by decide) rfl (Nat.le_of_ble_eq_true rfl) ?_
  intro p e s m below meth c A F hr hlk hnm
  refine z_aload_n F dX0_costOf_0 rfl ?_
  refine z_iload_n F dX0_costOf_1 rfl ?_
  refine z_callVi0 F (c_C_has (nI k)) 0 rfl rfl (zcwV F.2.2.2.2.1 kcX0_has kmX0_35 kiX0_has ksX0_has knX0 hdX0_has rfl rfl ⟨(Nat.le_of_ble_eq_true rfl), (Nat.le_of_ble_eq_true rfl)⟩) dX0_costOf_2 rfl rfl (Nat.le_of_ble_eq_true rfl) ⟨(Nat.le_of_ble_eq_true rfl), (Nat.le_of_ble_eq_true rfl)⟩ ?_
  rintro r w2 ⟨rfl, rfl⟩
  refine z_if_eq (tgt := 17) F dX0_costOf_5 (by decide) (fun c5 => ?_) (fun c5 => ?_)
  · exact absurd (zB_0.mp c5) (by rw [decide_eq_true ((zhas (by omega)).mpr ⟨k, hk, rfl⟩)]; decide)
  · refine z_aload_n F dX0_costOf_8 rfl ?_
    refine z_get (ci := 0) (C := RX0) (T := TX0) (N := 6) F 0 2 dX0_costOf_9 inX0 kfX0_18 rfl rfl rfl (by decide) rfl ?_
    refine z_iload_n F dX0_costOf_12 rfl ?_
    refine z_ialdN F 3 0 dX0_costOf_13 rfl rfl rfl (Nat.lt_of_lt_of_le hk hn) (by decide) ?_
    refine z_goto (tgt := 18) F dX0_costOf_14 (by decide) ?_
    exact z_iret F hr rfl hlk dX0_costOf_18 ⟨rfl, rfl⟩ (Nat.le_of_ble_eq_true rfl) (Nat.le_of_ble_eq_true rfl)

set_option maxHeartbeats 4000000 in
set_option maxRecDepth 100000 in
/-- Catalogue.thatTake: the boxes that take a set of kinds -/
theorem c_C_thatTake {l : Launch} {D : va_G} {tys : List (ClassId × FieldType)} {hc c1 c2 c3 c4 : Nat} {cA : ClassId} {ro lo co ks : Nat → Nat} {nb sl : Nat} (hn : nb ≤ 6) (k : Nat) (hk : k < 2 ^ 31) : zMi l yX0_thatTake (zws yX0_thatTake cX0_thatTake 4 (some .int)) { frames := 0, cells := 0, slots := 0, locals := 0 } D zcl ((cA, .int) :: tys) zG [.ref hc, .int (nI k)] (wC hc c1 c2 c3 c4 cA ro lo co ks nb sl) (fun r w2 => r = nI (zset (fun x => decide (zd k (ks x) = 0)) nb) ∧ w2 = (wC hc c1 c2 c3 c4 cA ro lo co ks nb sl)) 0 0 := by
  refine z_ofi (cc := cX0_thatTake) (maxL := 4) (ret := (some .int)) (by decide) rfl (Nat.le_of_ble_eq_true rfl) ?_
  intro p e s m below meth c A F hr hlk hnm
  have loop : ∀ (n j : Nat), j ≤ nb → nb + 1 ≤ j + n → zW p l e (headSpec (zws yX0_thatTake cX0_thatTake 4 (some .int)) { frames := 0, cells := 0, slots := 0, locals := 0 }).room s m [.ref hc, .int (nI k)].toArray below meth c 4 D zcl A 0 0 (MQ below (va_Qi (fun r w2 => r = nI (zset (fun x => decide (zd k (ks x) = 0)) nb) ∧ w2 = (wC hc c1 c2 c3 c4 cA ro lo co ks nb sl)) (zEnd D zcl A) A) [.ref hc, .int (nI k)].toArray s 0 0 A) (wC hc c1 c2 c3 c4 cA ro lo co ks nb sl) [(0, .ref hc), (1, .int (nI k)), (2, .int (nI (zset (fun x => decide (zd k (ks x) = 0)) j))), (3, .int (nI j))] 4 [] := by
    intro n
    induction n with
    | zero => intro j h1 h2; omega
    | succ n ih =>
      intro j hj1 hj2
      refine z_iload_n F dX0_thatTake_4 rfl ?_
      refine z_aload_n F dX0_thatTake_5 rfl ?_
      refine z_get (ci := 0) (C := RX0) (T := TX0) (N := 6) F 0 4 dX0_thatTake_6 inX0 kfX0_24 rfl rfl rfl (by decide) rfl ?_
      refine z_icmp_ge (tgt := 37) F dX0_thatTake_9 (by decide) (fun c9 => ?_) (fun c9 => ?_)
      · have ej := zge_end hj1 (by omega) c9
        refine z_iload_n F dX0_thatTake_37 rfl ?_
        exact z_iret F hr rfl hlk dX0_thatTake_38 ⟨by rw [ej], rfl⟩ (Nat.le_of_ble_eq_true rfl) (Nat.le_of_ble_eq_true rfl)
      · have hlt := zge_on (by omega) hj1 c9
        refine z_iload_n F dX0_thatTake_12 rfl ?_
        refine z_aload_n F dX0_thatTake_13 rfl ?_
        refine z_get (ci := 0) (C := RX0) (T := TX0) (N := 6) F 0 3 dX0_thatTake_14 inX0 kfX0_21 rfl rfl rfl (by decide) rfl ?_
        refine z_iload_n F dX0_thatTake_17 rfl ?_
        refine z_ialdN F 4 0 dX0_thatTake_18 rfl rfl rfl (Nat.lt_of_lt_of_le hlt hn) (by decide) ?_
        refine z_iconst (v := (-1)) F dX0_thatTake_19 (by decide) ?_
        refine z_ixor F dX0_thatTake_20 ?_
        refine z_iand F dX0_thatTake_21 ?_
        refine z_topi (y := nI (zd k (ks j))) (zb_nand _ _) ?_
        refine z_if_ne (tgt := 31) F dX0_thatTake_22 (by decide) (fun c22 => ?_) (fun c22 => ?_)
        · refine z_iinc (v := nI (j + 1)) F dX0_thatTake_31 rfl (nI_1 j) (by decide) ?_
          refine z_goto (tgt := 4) F dX0_thatTake_34 (by decide) ?_
          have h9 := ih (j + 1) (by omega) (by omega)
          rw [zset_f (decide_eq_false (fun q => c22 ((zb_eq0 (Nat.lt_of_le_of_lt (zd_le _ _) hk)).mpr q)))] at h9
          exact z_lv rfl h9
        · refine z_iload_n F dX0_thatTake_25 rfl ?_
          refine z_iconst (v := 1) F dX0_thatTake_26 (by decide) ?_
          refine z_iload_n F dX0_thatTake_27 rfl ?_
          refine z_ishl F dX0_thatTake_28 ?_
          refine z_topi (y := nI (2 ^ j)) (zb_shl1 j (by omega)) ?_
          refine z_ior F dX0_thatTake_29 ?_
          refine z_topi (y := nI (zset (fun x => decide (zd k (ks x) = 0)) j ||| 2 ^ j)) (zb_or _ _) ?_
          refine z_istore_n F dX0_thatTake_30 (by decide) ?_
          refine z_iinc (v := nI (j + 1)) F dX0_thatTake_31 rfl (nI_1 j) (by decide) ?_
          refine z_goto (tgt := 4) F dX0_thatTake_34 (by decide) ?_
          have h9 := ih (j + 1) (by omega) (by omega)
          rw [zset_t (decide_eq_true ((zb_eq0 (Nat.lt_of_le_of_lt (zd_le _ _) hk)).mp c22))] at h9
          exact z_lv rfl h9
  refine z_iconst (v := 0) F dX0_thatTake_0 (by decide) ?_
  refine z_istore_n F dX0_thatTake_1 (by decide) ?_
  refine z_iconst (v := 0) F dX0_thatTake_2 (by decide) ?_
  refine z_istore_n F dX0_thatTake_3 (by decide) ?_
  exact z_lv rfl (loop (nb + 1) 0 (by omega) (by omega))

set_option maxHeartbeats 4000000 in
set_option maxRecDepth 100000 in
/-- Catalogue.withAtLeast -/
theorem c_C_wal_r {l : Launch} {D : va_G} {tys : List (ClassId × FieldType)} {hc c1 c2 c3 c4 : Nat} {cA : ClassId} {ro lo co ks : Nat → Nat} {nb sl : Nat} (hn : nb ≤ 6) (hb : ∀ j, ro j < 2 ^ 31) (v : Nat) (hv : v < 2 ^ 31) : zMi l yX0_withAtLeast (zws yX0_withAtLeast cX0_withAtLeast 5 (some .int)) { frames := 0, cells := 0, slots := 0, locals := 0 } D zcl ((cA, .int) :: tys) zG [.ref hc, .ref c1, .int (nI v)] (wC hc c1 c2 c3 c4 cA ro lo co ks nb sl) (fun r w2 => r = nI (zset (fun x => decide (v ≤ ro x)) nb) ∧ w2 = (wC hc c1 c2 c3 c4 cA ro lo co ks nb sl)) 0 0 := by
  refine z_ofi (cc := cX0_withAtLeast) (maxL := 5) (ret := (some .int)) (by decide) rfl (Nat.le_of_ble_eq_true rfl) ?_
  intro p e s m below meth c A F hr hlk hnm
  have loop : ∀ (n j : Nat), j ≤ nb → nb + 1 ≤ j + n → zW p l e (headSpec (zws yX0_withAtLeast cX0_withAtLeast 5 (some .int)) { frames := 0, cells := 0, slots := 0, locals := 0 }).room s m [.ref hc, .ref c1, .int (nI v)].toArray below meth c 5 D zcl A 0 0 (MQ below (va_Qi (fun r w2 => r = nI (zset (fun x => decide (v ≤ ro x)) nb) ∧ w2 = (wC hc c1 c2 c3 c4 cA ro lo co ks nb sl)) (zEnd D zcl A) A) [.ref hc, .ref c1, .int (nI v)].toArray s 0 0 A) (wC hc c1 c2 c3 c4 cA ro lo co ks nb sl) [(0, .ref hc), (1, .ref c1), (2, .int (nI v)), (3, .int (nI (zset (fun x => decide (v ≤ ro x)) j))), (4, .int (nI j))] 5 [] := by
    intro n
    induction n with
    | zero => intro j h1 h2; omega
    | succ n ih =>
      intro j hj1 hj2
      refine z_iload F dX0_withAtLeast_5 rfl ?_
      refine z_aload_n F dX0_withAtLeast_7 rfl ?_
      refine z_get (ci := 0) (C := RX0) (T := TX0) (N := 6) F 0 4 dX0_withAtLeast_8 inX0 kfX0_24 rfl rfl rfl (by decide) rfl ?_
      refine z_icmp_ge (tgt := 35) F dX0_withAtLeast_11 (by decide) (fun c11 => ?_) (fun c11 => ?_)
      · have ej := zge_end hj1 (by omega) c11
        refine z_iload_n F dX0_withAtLeast_35 rfl ?_
        exact z_iret F hr rfl hlk dX0_withAtLeast_36 ⟨by rw [ej], rfl⟩ (Nat.le_of_ble_eq_true rfl) (Nat.le_of_ble_eq_true rfl)
      · have hlt := zge_on (by omega) hj1 c11
        refine z_aload_n F dX0_withAtLeast_14 rfl ?_
        refine z_iload F dX0_withAtLeast_15 rfl ?_
        refine z_ialdN F 1 0 dX0_withAtLeast_17 rfl rfl rfl (Nat.lt_of_lt_of_le hlt hn) (by decide) ?_
        refine z_iload_n F dX0_withAtLeast_18 rfl ?_
        refine z_icmp_lt (tgt := 29) F dX0_withAtLeast_19 (by decide) (fun c19 => ?_) (fun c19 => ?_)
        · refine z_iinc (v := nI (j + 1)) F dX0_withAtLeast_29 rfl (nI_1 j) (by decide) ?_
          refine z_goto (tgt := 5) F dX0_withAtLeast_32 (by decide) ?_
          have h9 := ih (j + 1) (by omega) (by omega)
          rw [zset_f (decide_eq_false (by rw [nI_ltI (hb j) hv] at c19; omega))] at h9
          exact z_lv rfl h9
        · refine z_iload_n F dX0_withAtLeast_22 rfl ?_
          refine z_iconst (v := 1) F dX0_withAtLeast_23 (by decide) ?_
          refine z_iload F dX0_withAtLeast_24 rfl ?_
          refine z_ishl F dX0_withAtLeast_26 ?_
          refine z_topi (y := nI (2 ^ j)) (zb_shl1 j (by omega)) ?_
          refine z_ior F dX0_withAtLeast_27 ?_
          refine z_topi (y := nI (zset (fun x => decide (v ≤ ro x)) j ||| 2 ^ j)) (zb_or _ _) ?_
          refine z_istore_n F dX0_withAtLeast_28 (by decide) ?_
          refine z_iinc (v := nI (j + 1)) F dX0_withAtLeast_29 rfl (nI_1 j) (by decide) ?_
          refine z_goto (tgt := 5) F dX0_withAtLeast_32 (by decide) ?_
          have h9 := ih (j + 1) (by omega) (by omega)
          rw [zset_t (decide_eq_true (by rw [nI_ltI (hb j) hv] at c19; omega))] at h9
          exact z_lv rfl h9
  refine z_iconst (v := 0) F dX0_withAtLeast_0 (by decide) ?_
  refine z_istore_n F dX0_withAtLeast_1 (by decide) ?_
  refine z_iconst (v := 0) F dX0_withAtLeast_2 (by decide) ?_
  refine z_istore F dX0_withAtLeast_3 (by decide) ?_
  exact z_lv rfl (loop (nb + 1) 0 (by omega) (by omega))

set_option maxHeartbeats 4000000 in
set_option maxRecDepth 100000 in
/-- Catalogue.withAtLeast -/
theorem c_C_wal_l {l : Launch} {D : va_G} {tys : List (ClassId × FieldType)} {hc c1 c2 c3 c4 : Nat} {cA : ClassId} {ro lo co ks : Nat → Nat} {nb sl : Nat} (hn : nb ≤ 6) (hb : ∀ j, lo j < 2 ^ 31) (v : Nat) (hv : v < 2 ^ 31) : zMi l yX0_withAtLeast (zws yX0_withAtLeast cX0_withAtLeast 5 (some .int)) { frames := 0, cells := 0, slots := 0, locals := 0 } D zcl ((cA, .int) :: tys) zG [.ref hc, .ref c2, .int (nI v)] (wC hc c1 c2 c3 c4 cA ro lo co ks nb sl) (fun r w2 => r = nI (zset (fun x => decide (v ≤ lo x)) nb) ∧ w2 = (wC hc c1 c2 c3 c4 cA ro lo co ks nb sl)) 0 0 := by
  refine z_ofi (cc := cX0_withAtLeast) (maxL := 5) (ret := (some .int)) (by decide) rfl (Nat.le_of_ble_eq_true rfl) ?_
  intro p e s m below meth c A F hr hlk hnm
  have loop : ∀ (n j : Nat), j ≤ nb → nb + 1 ≤ j + n → zW p l e (headSpec (zws yX0_withAtLeast cX0_withAtLeast 5 (some .int)) { frames := 0, cells := 0, slots := 0, locals := 0 }).room s m [.ref hc, .ref c2, .int (nI v)].toArray below meth c 5 D zcl A 0 0 (MQ below (va_Qi (fun r w2 => r = nI (zset (fun x => decide (v ≤ lo x)) nb) ∧ w2 = (wC hc c1 c2 c3 c4 cA ro lo co ks nb sl)) (zEnd D zcl A) A) [.ref hc, .ref c2, .int (nI v)].toArray s 0 0 A) (wC hc c1 c2 c3 c4 cA ro lo co ks nb sl) [(0, .ref hc), (1, .ref c2), (2, .int (nI v)), (3, .int (nI (zset (fun x => decide (v ≤ lo x)) j))), (4, .int (nI j))] 5 [] := by
    intro n
    induction n with
    | zero => intro j h1 h2; omega
    | succ n ih =>
      intro j hj1 hj2
      refine z_iload F dX0_withAtLeast_5 rfl ?_
      refine z_aload_n F dX0_withAtLeast_7 rfl ?_
      refine z_get (ci := 0) (C := RX0) (T := TX0) (N := 6) F 0 4 dX0_withAtLeast_8 inX0 kfX0_24 rfl rfl rfl (by decide) rfl ?_
      refine z_icmp_ge (tgt := 35) F dX0_withAtLeast_11 (by decide) (fun c11 => ?_) (fun c11 => ?_)
      · have ej := zge_end hj1 (by omega) c11
        refine z_iload_n F dX0_withAtLeast_35 rfl ?_
        exact z_iret F hr rfl hlk dX0_withAtLeast_36 ⟨by rw [ej], rfl⟩ (Nat.le_of_ble_eq_true rfl) (Nat.le_of_ble_eq_true rfl)
      · have hlt := zge_on (by omega) hj1 c11
        refine z_aload_n F dX0_withAtLeast_14 rfl ?_
        refine z_iload F dX0_withAtLeast_15 rfl ?_
        refine z_ialdN F 2 0 dX0_withAtLeast_17 rfl rfl rfl (Nat.lt_of_lt_of_le hlt hn) (by decide) ?_
        refine z_iload_n F dX0_withAtLeast_18 rfl ?_
        refine z_icmp_lt (tgt := 29) F dX0_withAtLeast_19 (by decide) (fun c19 => ?_) (fun c19 => ?_)
        · refine z_iinc (v := nI (j + 1)) F dX0_withAtLeast_29 rfl (nI_1 j) (by decide) ?_
          refine z_goto (tgt := 5) F dX0_withAtLeast_32 (by decide) ?_
          have h9 := ih (j + 1) (by omega) (by omega)
          rw [zset_f (decide_eq_false (by rw [nI_ltI (hb j) hv] at c19; omega))] at h9
          exact z_lv rfl h9
        · refine z_iload_n F dX0_withAtLeast_22 rfl ?_
          refine z_iconst (v := 1) F dX0_withAtLeast_23 (by decide) ?_
          refine z_iload F dX0_withAtLeast_24 rfl ?_
          refine z_ishl F dX0_withAtLeast_26 ?_
          refine z_topi (y := nI (2 ^ j)) (zb_shl1 j (by omega)) ?_
          refine z_ior F dX0_withAtLeast_27 ?_
          refine z_topi (y := nI (zset (fun x => decide (v ≤ lo x)) j ||| 2 ^ j)) (zb_or _ _) ?_
          refine z_istore_n F dX0_withAtLeast_28 (by decide) ?_
          refine z_iinc (v := nI (j + 1)) F dX0_withAtLeast_29 rfl (nI_1 j) (by decide) ?_
          refine z_goto (tgt := 5) F dX0_withAtLeast_32 (by decide) ?_
          have h9 := ih (j + 1) (by omega) (by omega)
          rw [zset_t (decide_eq_true (by rw [nI_ltI (hb j) hv] at c19; omega))] at h9
          exact z_lv rfl h9
  refine z_iconst (v := 0) F dX0_withAtLeast_0 (by decide) ?_
  refine z_istore_n F dX0_withAtLeast_1 (by decide) ?_
  refine z_iconst (v := 0) F dX0_withAtLeast_2 (by decide) ?_
  refine z_istore F dX0_withAtLeast_3 (by decide) ?_
  exact z_lv rfl (loop (nb + 1) 0 (by omega) (by omega))

set_option maxHeartbeats 4000000 in
set_option maxRecDepth 100000 in
/-- Catalogue.withRoomFor -/
theorem c_C_withRoomFor {l : Launch} {D : va_G} {tys : List (ClassId × FieldType)} {hc c1 c2 c3 c4 : Nat} {cA : ClassId} {ro lo co ks : Nat → Nat} {nb sl : Nat} (hn : nb ≤ 6) (hb : ∀ j, ro j < 2 ^ 31) (a : Nat) (hv : a + sl < 2 ^ 31) : zMi l yX0_withRoomFor (zws yX0_withRoomFor cX0_withRoomFor 2 (some .int)) { frames := 1, cells := 0, slots := 0, locals := 24 } D zcl ((cA, .int) :: tys) zG [.ref hc, .int (nI a)] (wC hc c1 c2 c3 c4 cA ro lo co ks nb sl) (fun r w2 => r = nI (zset (fun x => decide (a + sl ≤ ro x)) nb) ∧ w2 = (wC hc c1 c2 c3 c4 cA ro lo co ks nb sl)) 0 0 := by
  refine z_ofi (cc := cX0_withRoomFor) (maxL := 2) (ret := (some .int)) (by decide) rfl (Nat.le_of_ble_eq_true rfl) ?_
  intro p e s m below meth c A F hr hlk hnm
  refine z_aload_n F dX0_withRoomFor_0 rfl ?_
  refine z_aload_n F dX0_withRoomFor_1 rfl ?_
  refine z_get (ci := 0) (C := RX0) (T := TX0) (N := 6) F 0 0 dX0_withRoomFor_2 inX0 kfX0_9 rfl rfl rfl (by decide) rfl ?_
  refine z_iload_n F dX0_withRoomFor_5 rfl ?_
  refine z_aload_n F dX0_withRoomFor_6 rfl ?_
  refine z_get (ci := 0) (C := RX0) (T := TX0) (N := 6) F 0 5 dX0_withRoomFor_7 inX0 kfX0_32 rfl rfl rfl (by decide) rfl ?_
  refine z_iadd F dX0_withRoomFor_10 ?_
  refine z_topi (y := nI (a + sl)) (nI_add _ _) ?_
  refine z_callVi0 F (c_C_wal_r hn hb (a + sl) hv) 0 rfl rfl (zcwV F.2.2.2.2.1 kcX0_withAtLeast kmX0_39 kiX0_withAtLeast ksX0_withAtLeast knX0 hdX0_withAtLeast rfl rfl ⟨(Nat.le_of_ble_eq_true rfl), (Nat.le_of_ble_eq_true rfl)⟩) dX0_withRoomFor_11 rfl rfl (Nat.le_of_ble_eq_true rfl) ⟨(Nat.le_of_ble_eq_true rfl), (Nat.le_of_ble_eq_true rfl)⟩ ?_
  rintro r w2 ⟨rfl, rfl⟩
  exact z_iret F hr rfl hlk dX0_withRoomFor_14 ⟨rfl, rfl⟩ (Nat.le_of_ble_eq_true rfl) (Nat.le_of_ble_eq_true rfl)

set_option maxHeartbeats 4000000 in
set_option maxRecDepth 100000 in
/-- Catalogue.thatBear -/
theorem c_C_thatBear {l : Launch} {D : va_G} {tys : List (ClassId × FieldType)} {hc c1 c2 c3 c4 : Nat} {cA : ClassId} {ro lo co ks : Nat → Nat} {nb sl : Nat} (hn : nb ≤ 6) (hb : ∀ j, lo j < 2 ^ 31) (a : Nat) (hv : a < 2 ^ 31) : zMi l yX0_thatBear (zws yX0_thatBear cX0_thatBear 2 (some .int)) { frames := 1, cells := 0, slots := 0, locals := 24 } D zcl ((cA, .int) :: tys) zG [.ref hc, .int (nI a)] (wC hc c1 c2 c3 c4 cA ro lo co ks nb sl) (fun r w2 => r = nI (zset (fun x => decide (a ≤ lo x)) nb) ∧ w2 = (wC hc c1 c2 c3 c4 cA ro lo co ks nb sl)) 0 0 := by
  refine z_ofi (cc := cX0_thatBear) (maxL := 2) (ret := (some .int)) (by decide) rfl (Nat.le_of_ble_eq_true rfl) ?_
  intro p e s m below meth c A F hr hlk hnm
  refine z_aload_n F dX0_thatBear_0 rfl ?_
  refine z_aload_n F dX0_thatBear_1 rfl ?_
  refine z_get (ci := 0) (C := RX0) (T := TX0) (N := 6) F 0 1 dX0_thatBear_2 inX0 kfX0_15 rfl rfl rfl (by decide) rfl ?_
  refine z_iload_n F dX0_thatBear_5 rfl ?_
  refine z_callVi0 F (c_C_wal_l hn hb a hv) 0 rfl rfl (zcwV F.2.2.2.2.1 kcX0_withAtLeast kmX0_39 kiX0_withAtLeast ksX0_withAtLeast knX0 hdX0_withAtLeast rfl rfl ⟨(Nat.le_of_ble_eq_true rfl), (Nat.le_of_ble_eq_true rfl)⟩) dX0_thatBear_6 rfl rfl (Nat.le_of_ble_eq_true rfl) ⟨(Nat.le_of_ble_eq_true rfl), (Nat.le_of_ble_eq_true rfl)⟩ ?_
  rintro r w2 ⟨rfl, rfl⟩
  exact z_iret F hr rfl hlk dX0_thatBear_9 ⟨rfl, rfl⟩ (Nat.le_of_ble_eq_true rfl) (Nat.le_of_ble_eq_true rfl)

set_option maxHeartbeats 4000000 in
set_option maxRecDepth 100000 in
/-- Catalogue.cheapestOf -/
theorem c_C_cheapestOf {l : Launch} {D : va_G} {tys : List (ClassId × FieldType)} {hc c1 c2 c3 c4 : Nat} {cA : ClassId} {ro lo co ks : Nat → Nat} {nb sl : Nat} (hn : nb ≤ 6) (hb : ∀ j, co j < 2 ^ 31) (a : Nat) (ha : a < 2 ^ 31) : zMi l yX0_cheapestOf (zws yX0_cheapestOf cX0_cheapestOf 4 (some .int)) { frames := 2, cells := 0, slots := 0, locals := 42 } D zcl ((cA, .int) :: tys) zG [.ref hc, .int (nI a)] (wC hc c1 c2 c3 c4 cA ro lo co ks nb sl) (fun r w2 => r = zo (zche (fun x => a.testBit x) co nb) ∧ w2 = (wC hc c1 c2 c3 c4 cA ro lo co ks nb sl)) 0 0 := by
  refine z_ofi (cc := cX0_cheapestOf) (maxL := 4) (ret := (some .int)) (by decide) rfl (Nat.le_of_ble_eq_true rfl) ?_
  intro p e s m below meth c A F hr hlk hnm
  have loop : ∀ (n j : Nat), j ≤ nb → nb + 1 ≤ j + n → zW p l e (headSpec (zws yX0_cheapestOf cX0_cheapestOf 4 (some .int)) { frames := 2, cells := 0, slots := 0, locals := 42 }).room s m [.ref hc, .int (nI a)].toArray below meth c 4 D zcl A 0 0 (MQ below (va_Qi (fun r w2 => r = zo (zche (fun x => a.testBit x) co nb) ∧ w2 = (wC hc c1 c2 c3 c4 cA ro lo co ks nb sl)) (zEnd D zcl A) A) [.ref hc, .int (nI a)].toArray s 0 0 A) (wC hc c1 c2 c3 c4 cA ro lo co ks nb sl) [(0, .ref hc), (1, .int (nI a)), (2, .int (zo (zche (fun x => a.testBit x) co j))), (3, .int (nI j))] 4 [] := by
    intro n
    induction n with
    | zero => intro j h1 h2; omega
    | succ n ih =>
      intro j hj1 hj2
      rcases hz : zche (fun x => a.testBit x) co j with _ | b
      · refine z_iload_n F dX0_cheapestOf_4 rfl ?_
        refine z_aload_n F dX0_cheapestOf_5 rfl ?_
        refine z_get (ci := 0) (C := RX0) (T := TX0) (N := 6) F 0 4 dX0_cheapestOf_6 inX0 kfX0_24 rfl rfl rfl (by decide) rfl ?_
        refine z_icmp_ge (tgt := 47) F dX0_cheapestOf_9 (by decide) (fun c9 => ?_) (fun c9 => ?_)
        · have ej := zge_end hj1 (by omega) c9
          refine z_iload_n F dX0_cheapestOf_47 rfl ?_
          exact z_iret F hr rfl hlk dX0_cheapestOf_48 ⟨by rw [← ej, hz], rfl⟩ (Nat.le_of_ble_eq_true rfl) (Nat.le_of_ble_eq_true rfl)
        · have hlt := zge_on (by omega) hj1 c9
          refine z_iload_n F dX0_cheapestOf_12 rfl ?_
          refine z_iload_n F dX0_cheapestOf_13 rfl ?_
          refine z_callSNi0 F (c_holds a j ha (by omega)) (zcnS F.2.2.2.2.1 kcX4_holds (nlX0_43 F.2.2.2.2.2.2.2.1) ktX4_holds knX4 hdX4_holds rfl rfl ⟨(Nat.le_of_ble_eq_true rfl), (Nat.le_of_ble_eq_true rfl)⟩) dX0_cheapestOf_14 rfl rfl (Nat.le_of_ble_eq_true rfl) ⟨(Nat.le_of_ble_eq_true rfl), (Nat.le_of_ble_eq_true rfl)⟩ ?_
          rintro r w2 ⟨rfl, rfl⟩
          refine z_if_eq (tgt := 41) F dX0_cheapestOf_17 (by decide) (fun c17 => ?_) (fun c17 => ?_)
          · refine z_iinc (v := nI (j + 1)) F dX0_cheapestOf_41 rfl (nI_1 j) (by decide) ?_
            refine z_goto (tgt := 4) F dX0_cheapestOf_44 (by decide) ?_
            have h9 := ih (j + 1) (by omega) (by omega)
            rw [zche_f (by rw [zB_0] at c17; exact c17)] at h9
            rw [hz] at h9
            exact z_lv rfl h9
          · refine z_iload_n F dX0_cheapestOf_20 rfl ?_
            refine z_iconst (v := (-1)) F dX0_cheapestOf_21 (by decide) ?_
            refine z_icmp_eq (tgt := 39) F dX0_cheapestOf_22 (by decide) (fun c22 => ?_) (fun c22 => ?_)
            · refine z_iload_n F dX0_cheapestOf_39 rfl ?_
              refine z_istore_n F dX0_cheapestOf_40 (by decide) ?_
              refine z_iinc (v := nI (j + 1)) F dX0_cheapestOf_41 rfl (nI_1 j) (by decide) ?_
              refine z_goto (tgt := 4) F dX0_cheapestOf_44 (by decide) ?_
              have h9 := ih (j + 1) (by omega) (by omega)
              rw [zche_n (by rw [zB_1] at c17; exact c17) hz] at h9
              exact z_lv rfl h9
            · exact absurd rfl c22
      · have hbl := (zche_lt hz).1
        refine z_iload_n F dX0_cheapestOf_4 rfl ?_
        refine z_aload_n F dX0_cheapestOf_5 rfl ?_
        refine z_get (ci := 0) (C := RX0) (T := TX0) (N := 6) F 0 4 dX0_cheapestOf_6 inX0 kfX0_24 rfl rfl rfl (by decide) rfl ?_
        refine z_icmp_ge (tgt := 47) F dX0_cheapestOf_9 (by decide) (fun c9 => ?_) (fun c9 => ?_)
        · have ej := zge_end hj1 (by omega) c9
          refine z_iload_n F dX0_cheapestOf_47 rfl ?_
          exact z_iret F hr rfl hlk dX0_cheapestOf_48 ⟨by rw [← ej, hz], rfl⟩ (Nat.le_of_ble_eq_true rfl) (Nat.le_of_ble_eq_true rfl)
        · have hlt := zge_on (by omega) hj1 c9
          refine z_iload_n F dX0_cheapestOf_12 rfl ?_
          refine z_iload_n F dX0_cheapestOf_13 rfl ?_
          refine z_callSNi0 F (c_holds a j ha (by omega)) (zcnS F.2.2.2.2.1 kcX4_holds (nlX0_43 F.2.2.2.2.2.2.2.1) ktX4_holds knX4 hdX4_holds rfl rfl ⟨(Nat.le_of_ble_eq_true rfl), (Nat.le_of_ble_eq_true rfl)⟩) dX0_cheapestOf_14 rfl rfl (Nat.le_of_ble_eq_true rfl) ⟨(Nat.le_of_ble_eq_true rfl), (Nat.le_of_ble_eq_true rfl)⟩ ?_
          rintro r w2 ⟨rfl, rfl⟩
          refine z_if_eq (tgt := 41) F dX0_cheapestOf_17 (by decide) (fun c17 => ?_) (fun c17 => ?_)
          · refine z_iinc (v := nI (j + 1)) F dX0_cheapestOf_41 rfl (nI_1 j) (by decide) ?_
            refine z_goto (tgt := 4) F dX0_cheapestOf_44 (by decide) ?_
            have h9 := ih (j + 1) (by omega) (by omega)
            rw [zche_f (by rw [zB_0] at c17; exact c17)] at h9
            rw [hz] at h9
            exact z_lv rfl h9
          · refine z_iload_n F dX0_cheapestOf_20 rfl ?_
            refine z_iconst (v := (-1)) F dX0_cheapestOf_21 (by decide) ?_
            refine z_icmp_eq (tgt := 39) F dX0_cheapestOf_22 (by decide) (fun c22 => ?_) (fun c22 => ?_)
            · exact absurd c22 (zo_ne (by omega))
            · refine z_aload_n F dX0_cheapestOf_25 rfl ?_
              refine z_get (ci := 0) (C := RX0) (T := TX0) (N := 6) F 0 2 dX0_cheapestOf_26 inX0 kfX0_18 rfl rfl rfl (by decide) rfl ?_
              refine z_iload_n F dX0_cheapestOf_29 rfl ?_
              refine z_ialdN F 3 0 dX0_cheapestOf_30 rfl rfl rfl (Nat.lt_of_lt_of_le hlt hn) (by decide) ?_
              refine z_aload_n F dX0_cheapestOf_31 rfl ?_
              refine z_iload_n F dX0_cheapestOf_32 rfl ?_
              refine z_callVi0 F (c_C_costOf hn b (Nat.lt_trans (zche_lt hz).1 hlt)) 0 rfl rfl (zcwV F.2.2.2.2.1 kcX0_costOf kmX0_47 kiX0_costOf ksX0_costOf knX0 hdX0_costOf rfl rfl ⟨(Nat.le_of_ble_eq_true rfl), (Nat.le_of_ble_eq_true rfl)⟩) dX0_cheapestOf_33 rfl rfl (Nat.le_of_ble_eq_true rfl) ⟨(Nat.le_of_ble_eq_true rfl), (Nat.le_of_ble_eq_true rfl)⟩ ?_
              rintro r w2 ⟨rfl, rfl⟩
              refine z_icmp_ge (tgt := 41) F dX0_cheapestOf_36 (by decide) (fun c36 => ?_) (fun c36 => ?_)
              · refine z_iinc (v := nI (j + 1)) F dX0_cheapestOf_41 rfl (nI_1 j) (by decide) ?_
                refine z_goto (tgt := 4) F dX0_cheapestOf_44 (by decide) ?_
                have h9 := ih (j + 1) (by omega) (by omega)
                rw [zche_k (by rw [zB_1] at c17; exact c17) hz (fun q => zlt_nge ((nI_ltI (hb _) (hb _)).mpr q) c36)] at h9
                exact z_lv rfl h9
              · refine z_iload_n F dX0_cheapestOf_39 rfl ?_
                refine z_istore_n F dX0_cheapestOf_40 (by decide) ?_
                refine z_iinc (v := nI (j + 1)) F dX0_cheapestOf_41 rfl (nI_1 j) (by decide) ?_
                refine z_goto (tgt := 4) F dX0_cheapestOf_44 (by decide) ?_
                have h9 := ih (j + 1) (by omega) (by omega)
                rw [zche_l (by rw [zB_1] at c17; exact c17) hz ((nI_ltI (hb _) (hb _)).mp (znle_lt c36))] at h9
                exact z_lv rfl h9
  refine z_iconst (v := (-1)) F dX0_cheapestOf_0 (by decide) ?_
  refine z_istore_n F dX0_cheapestOf_1 (by decide) ?_
  refine z_iconst (v := 0) F dX0_cheapestOf_2 (by decide) ?_
  refine z_istore_n F dX0_cheapestOf_3 (by decide) ?_
  exact z_lv rfl (loop (nb + 1) 0 (by omega) (by omega))

set_option maxHeartbeats 4000000 in
set_option maxRecDepth 100000 in
/-- Catalogue.add -/
theorem c_C_add {l : Launch} {D : va_G} {tys : List (ClassId × FieldType)} {hc c1 c2 c3 c4 : Nat} {cA : ClassId} {ro lo co ks : Nat → Nat} {nb sl : Nat} (hn : nb < 6) (r l2 c k : Nat) : zMi l yX0_add (zws yX0_add cX0_add 6 (some .int)) { frames := 1, cells := 0, slots := 0, locals := 20 } D zcl ((cA, .int) :: tys) zG [.ref hc, .int (nI r), .int (nI l2), .int (nI c), .int (nI k)] (wC hc c1 c2 c3 c4 cA ro lo co ks nb sl) (fun r1 w2 => r1 = nI nb ∧ w2 = wC hc c1 c2 c3 c4 cA (zu ro nb r) (zu lo nb l2) (zu co nb c) (zu ks nb k) (nb + 1) sl) 0 0 := by
  refine z_ofi (cc := cX0_add) (maxL := 6) (ret := (some .int)) (by decide) rfl (Nat.le_of_ble_eq_true rfl) ?_
  intro p e s m below meth c A F hr hlk hnm
  refine z_aload_n F dX0_add_0 rfl ?_
  refine z_callVi0 F (c_C_isFull (Nat.le_of_lt hn)) 0 rfl rfl (zcwV F.2.2.2.2.1 kcX0_isFull kmX0_28 kiX0_isFull ksX0_isFull knX0 hdX0_isFull rfl rfl ⟨(Nat.le_of_ble_eq_true rfl), (Nat.le_of_ble_eq_true rfl)⟩) dX0_add_1 rfl rfl (Nat.le_of_ble_eq_true rfl) ⟨(Nat.le_of_ble_eq_true rfl), (Nat.le_of_ble_eq_true rfl)⟩ ?_
  rintro r w2 ⟨rfl, rfl⟩
  refine z_if_eq (tgt := 9) F dX0_add_4 (by decide) (fun c4 => ?_) (fun c4 => ?_)
  · refine z_aload_n F dX0_add_9 rfl ?_
    refine z_get (ci := 0) (C := RX0) (T := TX0) (N := 6) F 0 4 dX0_add_10 inX0 kfX0_24 rfl rfl rfl (by decide) rfl ?_
    refine z_istore F dX0_add_13 (by decide) ?_
    refine z_aload_n F dX0_add_15 rfl ?_
    refine z_get (ci := 0) (C := RX0) (T := TX0) (N := 6) F 0 0 dX0_add_16 inX0 kfX0_9 rfl rfl rfl (by decide) rfl ?_
    refine z_iload F dX0_add_19 rfl ?_
    refine z_iload_n F dX0_add_21 rfl ?_
    refine z_iastN F 1 0 _ dX0_add_22 rfl rfl rfl hn (by decide) rfl ?_
    refine z_aload_n F dX0_add_23 rfl ?_
    refine z_get (ci := 0) (C := RX0) (T := TX0) (N := 6) F 0 1 dX0_add_24 inX0 kfX0_15 rfl rfl rfl (by decide) rfl ?_
    refine z_iload F dX0_add_27 rfl ?_
    refine z_iload_n F dX0_add_29 rfl ?_
    refine z_iastN F 2 0 _ dX0_add_30 rfl rfl rfl hn (by decide) rfl ?_
    refine z_aload_n F dX0_add_31 rfl ?_
    refine z_get (ci := 0) (C := RX0) (T := TX0) (N := 6) F 0 2 dX0_add_32 inX0 kfX0_18 rfl rfl rfl (by decide) rfl ?_
    refine z_iload F dX0_add_35 rfl ?_
    refine z_iload_n F dX0_add_37 rfl ?_
    refine z_iastN F 3 0 _ dX0_add_38 rfl rfl rfl hn (by decide) rfl ?_
    refine z_aload_n F dX0_add_39 rfl ?_
    refine z_get (ci := 0) (C := RX0) (T := TX0) (N := 6) F 0 3 dX0_add_40 inX0 kfX0_21 rfl rfl rfl (by decide) rfl ?_
    refine z_iload F dX0_add_43 rfl ?_
    refine z_iload F dX0_add_45 rfl ?_
    refine z_iastN F 4 0 _ dX0_add_47 rfl rfl rfl hn (by decide) rfl ?_
    refine z_aload_n F dX0_add_48 rfl ?_
    refine z_dup F dX0_add_49 rfl ?_
    refine z_get (ci := 0) (C := RX0) (T := TX0) (N := 6) F 0 4 dX0_add_50 inX0 kfX0_24 rfl rfl rfl (by decide) rfl ?_
    refine z_iconst (v := 1) F dX0_add_53 (by decide) ?_
    refine z_iadd F dX0_add_54 ?_
    refine z_topi (y := nI (nb + 1)) (nI_1 nb) ?_
    refine z_put (ci := 0) (C := RX0) (T := TX0) (N := 6) (ty := .int) F 0 4 dX0_add_55 inX0 tyX0 tyX0_ok nmX0 kfX0_24 rfl rfl rfl (by decide) rfl (by decide +kernel) rfl rfl (Nat.le_of_ble_eq_true rfl) ?_
    refine z_iload F dX0_add_58 rfl ?_
    exact z_iret F hr rfl hlk dX0_add_60 ⟨rfl, rfl⟩ (Nat.le_of_ble_eq_true rfl) (Nat.le_of_ble_eq_true rfl)
  · exact absurd (zB_1.mp c4) (by rw [decide_eq_false (by omega)]; decide)
end
section
/-! ===== the units, on numbers ===== -/
theorem zu_zu (f : Nat → Nat) (k v w : Nat) : zu (zu f k v) k w = zu f k w := by
  funext j
  unfold zu
  by_cases h : j = k
  · rw [if_pos h, if_pos h]
  · rw [if_neg h, if_neg h, if_neg h]
/-- how two units stand: 1 apart, 2 together -/
def zrel (ap tg : Nat → Nat) (u v : Nat) : Nat := bif (ap u).testBit v then 1 else bif (tg u).testBit v then 2 else 0
/-- bit t of the row of f is b -/
def zrl (ap : Nat → Nat) (f t : Nat) (b : Bool) : Nat → Nat := zu ap f (bif b then zd (ap f) (2 ^ t) ||| 2 ^ t else zd (ap f) (2 ^ t))
theorem zrl_t (ap : Nat → Nat) (f t : Nat) : zrl ap f t true = zu (zu ap f (zd (ap f) (2 ^ t))) f (zu ap f (zd (ap f) (2 ^ t)) f ||| 2 ^ t) := by
  rw [zu_zu, zu_s]; rfl
/-- how many numbers of a .. n - 1 have P -/
def zcin (P : Nat → Bool) (a : Nat) : Nat → Nat
  | 0 => 0
  | n + 1 => bif decide (a ≤ n) && P n then zcin P a n + 1 else zcin P a n
theorem zcin_0 (P : Nat → Bool) (a : Nat) : ∀ n, n ≤ a → zcin P a n = 0
  | 0, _ => rfl
  | n + 1, h => by
    show (bif decide (a ≤ n) && P n then _ else _) = _
    rw [decide_eq_false (by omega)]
    exact zcin_0 P a n (by omega)
theorem zcin_t {P : Nat → Bool} {a n : Nat} (h1 : a ≤ n) (h2 : P n = true) : zcin P a (n + 1) = zcin P a n + 1 := by
  show (bif decide (a ≤ n) && P n then _ else _) = _
  rw [decide_eq_true h1, h2]; rfl
theorem zcin_f {P : Nat → Bool} {a n : Nat} (h2 : P n = false) : zcin P a (n + 1) = zcin P a n := by
  show (bif decide (a ≤ n) && P n then _ else _) = _
  rw [h2, Bool.and_false]; rfl
theorem zcin_le (P : Nat → Bool) (a : Nat) : ∀ n, zcin P a n ≤ n
  | 0 => Nat.le_refl _
  | n + 1 => by
    have := zcin_le P a n
    show (bif decide (a ≤ n) && P n then _ else _) ≤ _
    cases decide (a ≤ n) && P n
    · show zcin P a n ≤ _; omega
    · show zcin P a n + 1 ≤ _; omega
/-- the sum of the f x of the numbers below n -/
def zadd (f : Nat → Nat) : Nat → Nat
  | 0 => 0
  | n + 1 => zadd f n + f n
theorem zadd_le {f : Nat → Nat} {M : Nat} (h : ∀ x, f x ≤ M) : ∀ n, zadd f n ≤ n * M
  | 0 => by simp [zadd]
  | n + 1 => by
    have h1 := zadd_le h n
    have h2 := h n
    rw [Nat.succ_mul]
    exact Nat.add_le_add h1 h2
/-- one round of growth, up to member n -/
def zci (tg : Nat → Nat) (c : Nat) : Nat → Nat
  | 0 => c
  | n + 1 => bif (zci tg c n).testBit n then zci tg c n ||| tg n else zci tg c n
theorem zci_t {tg : Nat → Nat} {c n : Nat} (h : (zci tg c n).testBit n = true) : zci tg c (n + 1) = zci tg c n ||| tg n := by
  show (bif _ then _ else _) = _
  rw [h]; rfl
theorem zci_f {tg : Nat → Nat} {c n : Nat} (h : (zci tg c n).testBit n = false) : zci tg c (n + 1) = zci tg c n := by
  show (bif _ then _ else _) = _
  rw [h]; rfl
theorem zci_lt {tg : Nat → Nat} {c k : Nat} (h : ∀ x, tg x < 2 ^ k) (hc : c < 2 ^ k) : ∀ n, zci tg c n < 2 ^ k
  | 0 => hc
  | n + 1 => by
    have h1 := zci_lt h hc n
    show (bif _ then _ else _) < _
    cases (zci tg c n).testBit n
    · exact h1
    · exact Nat.or_lt_two_pow h1 (h n)
/-- the company of u after r rounds among nu units -/
def zco (tg : Nat → Nat) (nu u : Nat) : Nat → Nat
  | 0 => 2 ^ u
  | r + 1 => zci tg (zco tg nu u r) nu
theorem zco_lt {tg : Nat → Nat} {nu u k : Nat} (h : ∀ x, tg x < 2 ^ k) (hu : u < k) : ∀ r, zco tg nu u r < 2 ^ k
  | 0 => Nat.pow_lt_pow_right (by omega) hu
  | r + 1 => zci_lt h (zco_lt h hu r) nu
theorem zany_s {P : Nat → Bool} {n : Nat} (h1 : zany P n = false) (h2 : P n = false) : zany P (n + 1) = false := by
  show (zany P n || P n) = false
  rw [h1, h2]; rfl
end
section
set_option maxHeartbeats 4000000 in
set_option maxRecDepth 100000 in
/-- Units.has -/
theorem c_U_has {l : Launch} {D : va_G} {tys : List (ClassId × FieldType)} {hu u1 u2 u3 u4 u5 : Nat} {cA : ClassId} {si we ki ap tg : Nat → Nat} {nu : Nat} (b : Int32) : zMi l yX3_has (zws yX3_has cX3_has 2 (some .boolean)) { frames := 0, cells := 0, slots := 0, locals := 0 } D zcl ((cA, .int) :: tys) zG [.ref hu, .int b] (wU hu u1 u2 u3 u4 u5 cA si we ki ap tg nu) (fun r w2 => r = zB (decide (0 ≤ b ∧ b < nI nu)) ∧ w2 = (wU hu u1 u2 u3 u4 u5 cA si we ki ap tg nu)) 0 0 := by
  refine z_ofi (cc := cX3_has) (maxL := 2) (ret := (some .boolean)) (by decide) rfl (Nat.le_of_ble_eq_true rfl) ?_
  intro p e s m below meth c A F hr hlk hnm
  refine z_iload_n F dX3_has_0 rfl ?_
  refine z_if_lt (tgt := 16) F dX3_has_1 (by decide) (fun c1 => ?_) (fun c1 => ?_)
  · refine z_iconst (v := 0) F dX3_has_16 (by decide) ?_
    exact z_iret F hr rfl hlk dX3_has_17 ⟨zhas_f (fun q => zlt_nge c1 q.1), rfl⟩ (Nat.le_of_ble_eq_true rfl) (Nat.le_of_ble_eq_true rfl)
  · refine z_iload_n F dX3_has_4 rfl ?_
    refine z_aload_n F dX3_has_5 rfl ?_
    refine z_get (ci := 3) (C := RX3) (T := TX3) (N := 6) F 0 5 dX3_has_6 inX3 kfX3_27 rfl rfl rfl (by decide) rfl ?_
    refine z_icmp_ge (tgt := 16) F dX3_has_9 (by decide) (fun c9 => ?_) (fun c9 => ?_)
    · refine z_iconst (v := 0) F dX3_has_16 (by decide) ?_
      exact z_iret F hr rfl hlk dX3_has_17 ⟨zhas_f (fun q => zlt_nge q.2 c9), rfl⟩ (Nat.le_of_ble_eq_true rfl) (Nat.le_of_ble_eq_true rfl)
    · refine z_iconst (v := 1) F dX3_has_12 (by decide) ?_
      refine z_goto (tgt := 17) F dX3_has_13 (by decide) ?_
      exact z_iret F hr rfl hlk dX3_has_17 ⟨zhas_t ⟨znlt_ge c1, znle_lt c9⟩, rfl⟩ (Nat.le_of_ble_eq_true rfl) (Nat.le_of_ble_eq_true rfl)

set_option maxHeartbeats 4000000 in
set_option maxRecDepth 100000 in
/-- Units.isFull -/
theorem c_U_isFull {l : Launch} {D : va_G} {tys : List (ClassId × FieldType)} {hu u1 u2 u3 u4 u5 : Nat} {cA : ClassId} {si we ki ap tg : Nat → Nat} {nu : Nat} (hn : nu ≤ 8) : zMi l yX3_isFull (zws yX3_isFull cX3_isFull 1 (some .boolean)) { frames := 0, cells := 0, slots := 0, locals := 0 } D zcl ((cA, .int) :: tys) zG [.ref hu] (wU hu u1 u2 u3 u4 u5 cA si we ki ap tg nu) (fun r w2 => r = zB (decide (8 ≤ nu)) ∧ w2 = (wU hu u1 u2 u3 u4 u5 cA si we ki ap tg nu)) 0 0 := by
  refine z_ofi (cc := cX3_isFull) (maxL := 1) (ret := (some .boolean)) (by decide) rfl (Nat.le_of_ble_eq_true rfl) ?_
  intro p e s m below meth c A F hr hlk hnm
  refine z_aload_n F dX3_isFull_0 rfl ?_
  refine z_get (ci := 3) (C := RX3) (T := TX3) (N := 6) F 0 5 dX3_isFull_1 inX3 kfX3_27 rfl rfl rfl (by decide) rfl ?_
  refine z_bipush (v := 8) F dX3_isFull_4 (by decide) ?_
  refine z_icmp_lt (tgt := 13) F dX3_isFull_6 (by decide) (fun c6 => ?_) (fun c6 => ?_)
  · refine z_iconst (v := 0) F dX3_isFull_13 (by decide) ?_
    exact z_iret F hr rfl hlk dX3_isFull_14 ⟨zhas_f (fun q => by rw [show (8 : Int32) = nI 8 from rfl, nI_ltI (by omega) (by omega)] at c6; omega), rfl⟩ (Nat.le_of_ble_eq_true rfl) (Nat.le_of_ble_eq_true rfl)
  · refine z_iconst (v := 1) F dX3_isFull_9 (by decide) ?_
    refine z_goto (tgt := 14) F dX3_isFull_10 (by decide) ?_
    exact z_iret F hr rfl hlk dX3_isFull_14 ⟨zhas_t (by rw [show (8 : Int32) = nI 8 from rfl, nI_ltI (by omega) (by omega)] at c6; omega), rfl⟩ (Nat.le_of_ble_eq_true rfl) (Nat.le_of_ble_eq_true rfl)

set_option maxHeartbeats 4000000 in
set_option maxRecDepth 100000 in
/-- Units.all -/
theorem c_U_all {l : Launch} {D : va_G} {tys : List (ClassId × FieldType)} {hu u1 u2 u3 u4 u5 : Nat} {cA : ClassId} {si we ki ap tg : Nat → Nat} {nu : Nat} (hn : nu ≤ 8) : zMi l yX3_all (zws yX3_all cX3_all 1 (some .int)) { frames := 0, cells := 0, slots := 0, locals := 0 } D zcl ((cA, .int) :: tys) zG [.ref hu] (wU hu u1 u2 u3 u4 u5 cA si we ki ap tg nu) (fun r w2 => r = nI (2 ^ nu - 1) ∧ w2 = (wU hu u1 u2 u3 u4 u5 cA si we ki ap tg nu)) 0 0 := by
  refine z_ofi (cc := cX3_all) (maxL := 1) (ret := (some .int)) (by decide) rfl (Nat.le_of_ble_eq_true rfl) ?_
  intro p e s m below meth c A F hr hlk hnm
  refine z_iconst (v := 1) F dX3_all_0 (by decide) ?_
  refine z_aload_n F dX3_all_1 rfl ?_
  refine z_get (ci := 3) (C := RX3) (T := TX3) (N := 6) F 0 5 dX3_all_2 inX3 kfX3_27 rfl rfl rfl (by decide) rfl ?_
  refine z_ishl F dX3_all_5 ?_
  refine z_topi (y := nI (2 ^ nu)) (zb_shl1 nu (by omega)) ?_
  refine z_iconst (v := 1) F dX3_all_6 (by decide) ?_
  refine z_isub F dX3_all_7 ?_
  refine z_topi (y := nI (2 ^ nu - 1)) (pk_sub (Nat.two_pow_pos nu)) ?_
  exact z_iret F hr rfl hlk dX3_all_8 ⟨rfl, rfl⟩ (Nat.le_of_ble_eq_true rfl) (Nat.le_of_ble_eq_true rfl)

set_option maxHeartbeats 4000000 in
set_option maxRecDepth 100000 in
/-- Units.add -/
theorem c_U_add {l : Launch} {D : va_G} {tys : List (ClassId × FieldType)} {hu u1 u2 u3 u4 u5 : Nat} {cA : ClassId} {si we ki ap tg : Nat → Nat} {nu : Nat} (hn : nu < 8) (a b k : Nat) : zMi l yX3_add (zws yX3_add cX3_add 5 (some .int)) { frames := 1, cells := 0, slots := 0, locals := 20 } D zcl ((cA, .int) :: tys) zG [.ref hu, .int (nI a), .int (nI b), .int (nI k)] (wU hu u1 u2 u3 u4 u5 cA si we ki ap tg nu) (fun r1 w2 => r1 = nI nu ∧ w2 = wU hu u1 u2 u3 u4 u5 cA (zu si nu a) (zu we nu b) (zu ki nu k) ap tg (nu + 1)) 0 0 := by
  refine z_ofi (cc := cX3_add) (maxL := 5) (ret := (some .int)) (by decide) rfl (Nat.le_of_ble_eq_true rfl) ?_
  intro p e s m below meth c A F hr hlk hnm
  refine z_aload_n F dX3_add_0 rfl ?_
  refine z_callVi0 F (c_U_isFull (Nat.le_of_lt hn)) 0 rfl rfl (zcwV F.2.2.2.2.1 kcX3_isFull kmX3_31 kiX3_isFull ksX3_isFull knX3 hdX3_isFull rfl rfl ⟨(Nat.le_of_ble_eq_true rfl), (Nat.le_of_ble_eq_true rfl)⟩) dX3_add_1 rfl rfl (Nat.le_of_ble_eq_true rfl) ⟨(Nat.le_of_ble_eq_true rfl), (Nat.le_of_ble_eq_true rfl)⟩ ?_
  rintro r w2 ⟨rfl, rfl⟩
  refine z_if_eq (tgt := 9) F dX3_add_4 (by decide) (fun c4 => ?_) (fun c4 => ?_)
  · refine z_aload_n F dX3_add_9 rfl ?_
    refine z_get (ci := 3) (C := RX3) (T := TX3) (N := 6) F 0 5 dX3_add_10 inX3 kfX3_27 rfl rfl rfl (by decide) rfl ?_
    refine z_istore F dX3_add_13 (by decide) ?_
    refine z_aload_n F dX3_add_15 rfl ?_
    refine z_get (ci := 3) (C := RX3) (T := TX3) (N := 6) F 0 0 dX3_add_16 inX3 kfX3_9 rfl rfl rfl (by decide) rfl ?_
    refine z_iload F dX3_add_19 rfl ?_
    refine z_iload_n F dX3_add_21 rfl ?_
    refine z_iastN F 1 0 _ dX3_add_22 rfl rfl rfl hn (by decide) rfl ?_
    refine z_aload_n F dX3_add_23 rfl ?_
    refine z_get (ci := 3) (C := RX3) (T := TX3) (N := 6) F 0 1 dX3_add_24 inX3 kfX3_15 rfl rfl rfl (by decide) rfl ?_
    refine z_iload F dX3_add_27 rfl ?_
    refine z_iload_n F dX3_add_29 rfl ?_
    refine z_iastN F 2 0 _ dX3_add_30 rfl rfl rfl hn (by decide) rfl ?_
    refine z_aload_n F dX3_add_31 rfl ?_
    refine z_get (ci := 3) (C := RX3) (T := TX3) (N := 6) F 0 2 dX3_add_32 inX3 kfX3_18 rfl rfl rfl (by decide) rfl ?_
    refine z_iload F dX3_add_35 rfl ?_
    refine z_iload_n F dX3_add_37 rfl ?_
    refine z_iastN F 3 0 _ dX3_add_38 rfl rfl rfl hn (by decide) rfl ?_
    refine z_aload_n F dX3_add_39 rfl ?_
    refine z_dup F dX3_add_40 rfl ?_
    refine z_get (ci := 3) (C := RX3) (T := TX3) (N := 6) F 0 5 dX3_add_41 inX3 kfX3_27 rfl rfl rfl (by decide) rfl ?_
    refine z_iconst (v := 1) F dX3_add_44 (by decide) ?_
    refine z_iadd F dX3_add_45 ?_
    refine z_topi (y := nI (nu + 1)) (nI_1 nu) ?_
    refine z_put (ci := 3) (C := RX3) (T := TX3) (N := 6) (ty := .int) F 0 5 dX3_add_46 inX3 tyX3 tyX3_ok nmX3 kfX3_27 rfl rfl rfl (by decide) rfl (by decide +kernel) rfl rfl (Nat.le_of_ble_eq_true rfl) ?_
    refine z_iload F dX3_add_49 rfl ?_
    exact z_iret F hr rfl hlk dX3_add_51 ⟨rfl, rfl⟩ (Nat.le_of_ble_eq_true rfl) (Nat.le_of_ble_eq_true rfl)
  · exact absurd (zB_1.mp c4) (by rw [decide_eq_false (by omega)]; decide)

set_option maxHeartbeats 4000000 in
set_option maxRecDepth 100000 in
/-- Units.reweigh -/
theorem c_U_reweigh {l : Launch} {D : va_G} {tys : List (ClassId × FieldType)} {hu u1 u2 u3 u4 u5 : Nat} {cA : ClassId} {si we ki ap tg : Nat → Nat} {nu : Nat} (hn : nu ≤ 8) (u v : Nat) (hu2 : u < nu) : zMi l yX3_reweigh (zws yX3_reweigh cX3_reweigh 4 (some .int)) { frames := 1, cells := 0, slots := 0, locals := 21 } D zcl ((cA, .int) :: tys) zG [.ref hu, .int (nI u), .int (nI v)] (wU hu u1 u2 u3 u4 u5 cA si we ki ap tg nu) (fun r1 w2 => r1 = nI (we u) ∧ w2 = wU hu u1 u2 u3 u4 u5 cA si (zu we u v) ki ap tg nu) 0 0 := by
  refine z_ofi (cc := cX3_reweigh) (maxL := 4) (ret := (some .int)) (by decide) rfl (Nat.le_of_ble_eq_true rfl) ?_
  intro p e s m below meth c A F hr hlk hnm
  refine z_aload_n F dX3_reweigh_0 rfl ?_
  refine z_iload_n F dX3_reweigh_1 rfl ?_
  refine z_callVi0 F (c_U_has (nI u)) 0 rfl rfl (zcwV F.2.2.2.2.1 kcX3_has kmX3_35 kiX3_has ksX3_has knX3 hdX3_has rfl rfl ⟨(Nat.le_of_ble_eq_true rfl), (Nat.le_of_ble_eq_true rfl)⟩) dX3_reweigh_2 rfl rfl (Nat.le_of_ble_eq_true rfl) ⟨(Nat.le_of_ble_eq_true rfl), (Nat.le_of_ble_eq_true rfl)⟩ ?_
  rintro r w2 ⟨rfl, rfl⟩
  refine z_if_ne (tgt := 10) F dX3_reweigh_5 (by decide) (fun c5 => ?_) (fun c5 => ?_)
  · refine z_aload_n F dX3_reweigh_10 rfl ?_
    refine z_get (ci := 3) (C := RX3) (T := TX3) (N := 6) F 0 1 dX3_reweigh_11 inX3 kfX3_15 rfl rfl rfl (by decide) rfl ?_
    refine z_iload_n F dX3_reweigh_14 rfl ?_
    refine z_ialdN F 2 0 dX3_reweigh_15 rfl rfl rfl (Nat.lt_of_lt_of_le hu2 hn) (by decide) ?_
    refine z_istore_n F dX3_reweigh_16 (by decide) ?_
    refine z_aload_n F dX3_reweigh_17 rfl ?_
    refine z_get (ci := 3) (C := RX3) (T := TX3) (N := 6) F 0 1 dX3_reweigh_18 inX3 kfX3_15 rfl rfl rfl (by decide) rfl ?_
    refine z_iload_n F dX3_reweigh_21 rfl ?_
    refine z_iload_n F dX3_reweigh_22 rfl ?_
    refine z_iastN F 2 0 _ dX3_reweigh_23 rfl rfl rfl (Nat.lt_of_lt_of_le hu2 hn) (by decide) rfl ?_
    refine z_iload_n F dX3_reweigh_24 rfl ?_
    exact z_iret F hr rfl hlk dX3_reweigh_25 ⟨rfl, rfl⟩ (Nat.le_of_ble_eq_true rfl) (Nat.le_of_ble_eq_true rfl)
  · exact absurd (zB_0.mp c5) (by rw [decide_eq_true ((zhas (by omega)).mpr ⟨u, hu2, rfl⟩)]; decide)

set_option maxHeartbeats 4000000 in
set_option maxRecDepth 100000 in
/-- Units.relationOf -/
theorem c_U_relationOf {l : Launch} {D : va_G} {tys : List (ClassId × FieldType)} {hu u1 u2 u3 u4 u5 : Nat} {cA : ClassId} {si we ki ap tg : Nat → Nat} {nu : Nat} (hn : nu ≤ 8) (hb1 : ∀ x, ap x < 2 ^ 31) (hb2 : ∀ x, tg x < 2 ^ 31) (u v : Nat) (hu2 : u < nu) (hv2 : v < nu) : zMi l yX3_relationOf (zws yX3_relationOf cX3_relationOf 3 (some .int)) { frames := 1, cells := 0, slots := 0, locals := 21 } D zcl ((cA, .int) :: tys) zG [.ref hu, .int (nI u), .int (nI v)] (wU hu u1 u2 u3 u4 u5 cA si we ki ap tg nu) (fun r w2 => r = nI (zrel ap tg u v) ∧ w2 = (wU hu u1 u2 u3 u4 u5 cA si we ki ap tg nu)) 0 0 := by
  refine z_ofi (cc := cX3_relationOf) (maxL := 3) (ret := (some .int)) (by decide) rfl (Nat.le_of_ble_eq_true rfl) ?_
  intro p e s m below meth c A F hr hlk hnm
  refine z_aload_n F dX3_relationOf_0 rfl ?_
  refine z_iload_n F dX3_relationOf_1 rfl ?_
  refine z_callVi0 F (c_U_has (nI u)) 0 rfl rfl (zcwV F.2.2.2.2.1 kcX3_has kmX3_35 kiX3_has ksX3_has knX3 hdX3_has rfl rfl ⟨(Nat.le_of_ble_eq_true rfl), (Nat.le_of_ble_eq_true rfl)⟩) dX3_relationOf_2 rfl rfl (Nat.le_of_ble_eq_true rfl) ⟨(Nat.le_of_ble_eq_true rfl), (Nat.le_of_ble_eq_true rfl)⟩ ?_
  rintro r w2 ⟨rfl, rfl⟩
  refine z_if_eq (tgt := 16) F dX3_relationOf_5 (by decide) (fun c5 => ?_) (fun c5 => ?_)
  · exact absurd (zB_0.mp c5) (by rw [decide_eq_true ((zhas (by omega)).mpr ⟨u, hu2, rfl⟩)]; decide)
  · refine z_aload_n F dX3_relationOf_8 rfl ?_
    refine z_iload_n F dX3_relationOf_9 rfl ?_
    refine z_callVi0 F (c_U_has (nI v)) 0 rfl rfl (zcwV F.2.2.2.2.1 kcX3_has kmX3_35 kiX3_has ksX3_has knX3 hdX3_has rfl rfl ⟨(Nat.le_of_ble_eq_true rfl), (Nat.le_of_ble_eq_true rfl)⟩) dX3_relationOf_10 rfl rfl (Nat.le_of_ble_eq_true rfl) ⟨(Nat.le_of_ble_eq_true rfl), (Nat.le_of_ble_eq_true rfl)⟩ ?_
    rintro r w2 ⟨rfl, rfl⟩
    refine z_if_ne (tgt := 18) F dX3_relationOf_13 (by decide) (fun c13 => ?_) (fun c13 => ?_)
    · refine z_aload_n F dX3_relationOf_18 rfl ?_
      refine z_get (ci := 3) (C := RX3) (T := TX3) (N := 6) F 0 3 dX3_relationOf_19 inX3 kfX3_21 rfl rfl rfl (by decide) rfl ?_
      refine z_iload_n F dX3_relationOf_22 rfl ?_
      refine z_ialdN F 4 0 dX3_relationOf_23 rfl rfl rfl (Nat.lt_of_lt_of_le hu2 hn) (by decide) ?_
      refine z_iload_n F dX3_relationOf_24 rfl ?_
      refine z_callSNi0 F (c_holds (ap u) v (hb1 u) (by omega)) (zcnS F.2.2.2.2.1 kcX4_holds (nlX3_39 F.2.2.2.2.2.2.2.1) ktX4_holds knX4 hdX4_holds rfl rfl ⟨(Nat.le_of_ble_eq_true rfl), (Nat.le_of_ble_eq_true rfl)⟩) dX3_relationOf_25 rfl rfl (Nat.le_of_ble_eq_true rfl) ⟨(Nat.le_of_ble_eq_true rfl), (Nat.le_of_ble_eq_true rfl)⟩ ?_
      rintro r w2 ⟨rfl, rfl⟩
      refine z_if_eq (tgt := 33) F dX3_relationOf_28 (by decide) (fun c28 => ?_) (fun c28 => ?_)
      · refine z_aload_n F dX3_relationOf_33 rfl ?_
        refine z_get (ci := 3) (C := RX3) (T := TX3) (N := 6) F 0 4 dX3_relationOf_34 inX3 kfX3_24 rfl rfl rfl (by decide) rfl ?_
        refine z_iload_n F dX3_relationOf_37 rfl ?_
        refine z_ialdN F 5 0 dX3_relationOf_38 rfl rfl rfl (Nat.lt_of_lt_of_le hu2 hn) (by decide) ?_
        refine z_iload_n F dX3_relationOf_39 rfl ?_
        refine z_callSNi0 F (c_holds (tg u) v (hb2 u) (by omega)) (zcnS F.2.2.2.2.1 kcX4_holds (nlX3_39 F.2.2.2.2.2.2.2.1) ktX4_holds knX4 hdX4_holds rfl rfl ⟨(Nat.le_of_ble_eq_true rfl), (Nat.le_of_ble_eq_true rfl)⟩) dX3_relationOf_40 rfl rfl (Nat.le_of_ble_eq_true rfl) ⟨(Nat.le_of_ble_eq_true rfl), (Nat.le_of_ble_eq_true rfl)⟩ ?_
        rintro r w2 ⟨rfl, rfl⟩
        refine z_if_eq (tgt := 50) F dX3_relationOf_43 (by decide) (fun c43 => ?_) (fun c43 => ?_)
        · refine z_iconst (v := 0) F dX3_relationOf_50 (by decide) ?_
          exact z_iret F hr rfl hlk dX3_relationOf_51 ⟨by unfold zrel; rw [zB_0.mp c28, zB_0.mp c43]; rfl, rfl⟩ (Nat.le_of_ble_eq_true rfl) (Nat.le_of_ble_eq_true rfl)
        · refine z_iconst (v := 2) F dX3_relationOf_46 (by decide) ?_
          refine z_goto (tgt := 51) F dX3_relationOf_47 (by decide) ?_
          exact z_iret F hr rfl hlk dX3_relationOf_51 ⟨by unfold zrel; rw [zB_0.mp c28, zB_1.mp c43]; rfl, rfl⟩ (Nat.le_of_ble_eq_true rfl) (Nat.le_of_ble_eq_true rfl)
      · refine z_iconst (v := 1) F dX3_relationOf_31 (by decide) ?_
        exact z_iret F hr rfl hlk dX3_relationOf_32 ⟨by unfold zrel; rw [zB_1.mp c28]; rfl, rfl⟩ (Nat.le_of_ble_eq_true rfl) (Nat.le_of_ble_eq_true rfl)
    · exact absurd (zB_0.mp c13) (by rw [decide_eq_true ((zhas (by omega)).mpr ⟨v, hv2, rfl⟩)]; decide)

set_option maxHeartbeats 4000000 in
set_option maxRecDepth 100000 in
/-- Units.relateOneWay -/
theorem c_U_relateOneWay {l : Launch} {D : va_G} {tys : List (ClassId × FieldType)} {hu u1 u2 u3 u4 u5 : Nat} {cA : ClassId} {si we ki ap tg : Nat → Nat} {nu : Nat} (hn : nu ≤ 8) (f t h : Nat) (hf2 : f < nu) (ht2 : t < nu) (hh : h < 2 ^ 31) : zMv l yX3_relateOneWay (zws yX3_relateOneWay cX3_relateOneWay 5 none) { frames := 1, cells := 0, slots := 0, locals := 21 } D zcl ((cA, .int) :: tys) zG [.ref hu, .int (nI f), .int (nI t), .int (nI h)] (wU hu u1 u2 u3 u4 u5 cA si we ki ap tg nu) (fun w2 => w2 = wU hu u1 u2 u3 u4 u5 cA si we ki (zrl ap f t (decide (h = 1))) (zrl tg f t (decide (h = 2))) nu) 0 0 := by
  refine z_ofv (cc := cX3_relateOneWay) (maxL := 5) (ret := none) (by decide) rfl (Nat.le_of_ble_eq_true rfl) ?_
  intro p e s m below meth c A F hr hlk hnm
  refine z_aload_n F dX3_relateOneWay_0 rfl ?_
  refine z_iload_n F dX3_relateOneWay_1 rfl ?_
  refine z_callVi0 F (c_U_has (nI f)) 0 rfl rfl (zcwV F.2.2.2.2.1 kcX3_has kmX3_35 kiX3_has ksX3_has knX3 hdX3_has rfl rfl ⟨(Nat.le_of_ble_eq_true rfl), (Nat.le_of_ble_eq_true rfl)⟩) dX3_relateOneWay_2 rfl rfl (Nat.le_of_ble_eq_true rfl) ⟨(Nat.le_of_ble_eq_true rfl), (Nat.le_of_ble_eq_true rfl)⟩ ?_
  rintro r w2 ⟨rfl, rfl⟩
  refine z_if_eq (tgt := 16) F dX3_relateOneWay_5 (by decide) (fun c5 => ?_) (fun c5 => ?_)
  · exact absurd (zB_0.mp c5) (by rw [decide_eq_true ((zhas (by omega)).mpr ⟨f, hf2, rfl⟩)]; decide)
  · refine z_aload_n F dX3_relateOneWay_8 rfl ?_
    refine z_iload_n F dX3_relateOneWay_9 rfl ?_
    refine z_callVi0 F (c_U_has (nI t)) 0 rfl rfl (zcwV F.2.2.2.2.1 kcX3_has kmX3_35 kiX3_has ksX3_has knX3 hdX3_has rfl rfl ⟨(Nat.le_of_ble_eq_true rfl), (Nat.le_of_ble_eq_true rfl)⟩) dX3_relateOneWay_10 rfl rfl (Nat.le_of_ble_eq_true rfl) ⟨(Nat.le_of_ble_eq_true rfl), (Nat.le_of_ble_eq_true rfl)⟩ ?_
    rintro r w2 ⟨rfl, rfl⟩
    refine z_if_ne (tgt := 17) F dX3_relateOneWay_13 (by decide) (fun c13 => ?_) (fun c13 => ?_)
    · refine z_iconst (v := 1) F dX3_relateOneWay_17 (by decide) ?_
      refine z_iload_n F dX3_relateOneWay_18 rfl ?_
      refine z_ishl F dX3_relateOneWay_19 ?_
      refine z_topi (y := nI (2 ^ t)) (zb_shl1 t (by omega)) ?_
      refine z_istore F dX3_relateOneWay_20 (by decide) ?_
      refine z_aload_n F dX3_relateOneWay_22 rfl ?_
      refine z_get (ci := 3) (C := RX3) (T := TX3) (N := 6) F 0 3 dX3_relateOneWay_23 inX3 kfX3_21 rfl rfl rfl (by decide) rfl ?_
      refine z_iload_n F dX3_relateOneWay_26 rfl ?_
      refine z_dup2 F dX3_relateOneWay_27 rfl rfl ?_
      refine z_ialdN F 4 0 dX3_relateOneWay_28 rfl rfl rfl (Nat.lt_of_lt_of_le hf2 hn) (by decide) ?_
      refine z_iload F dX3_relateOneWay_29 rfl ?_
      refine z_iconst (v := (-1)) F dX3_relateOneWay_31 (by decide) ?_
      refine z_ixor F dX3_relateOneWay_32 ?_
      refine z_iand F dX3_relateOneWay_33 ?_
      refine z_topi (y := nI (zd (ap f) (2 ^ t))) (zb_nand _ _) ?_
      refine z_iastN F 4 0 _ dX3_relateOneWay_34 rfl rfl rfl (Nat.lt_of_lt_of_le hf2 hn) (by decide) rfl ?_
      refine z_aload_n F dX3_relateOneWay_35 rfl ?_
      refine z_get (ci := 3) (C := RX3) (T := TX3) (N := 6) F 0 4 dX3_relateOneWay_36 inX3 kfX3_24 rfl rfl rfl (by decide) rfl ?_
      refine z_iload_n F dX3_relateOneWay_39 rfl ?_
      refine z_dup2 F dX3_relateOneWay_40 rfl rfl ?_
      refine z_ialdN F 5 0 dX3_relateOneWay_41 rfl rfl rfl (Nat.lt_of_lt_of_le hf2 hn) (by decide) ?_
      refine z_iload F dX3_relateOneWay_42 rfl ?_
      refine z_iconst (v := (-1)) F dX3_relateOneWay_44 (by decide) ?_
      refine z_ixor F dX3_relateOneWay_45 ?_
      refine z_iand F dX3_relateOneWay_46 ?_
      refine z_topi (y := nI (zd (tg f) (2 ^ t))) (zb_nand _ _) ?_
      refine z_iastN F 5 0 _ dX3_relateOneWay_47 rfl rfl rfl (Nat.lt_of_lt_of_le hf2 hn) (by decide) rfl ?_
      refine z_iload_n F dX3_relateOneWay_48 rfl ?_
      refine z_iconst (v := 1) F dX3_relateOneWay_49 (by decide) ?_
      refine z_icmp_ne (tgt := 67) F dX3_relateOneWay_50 (by decide) (fun c50 => ?_) (fun c50 => ?_)
      · refine z_iload_n F dX3_relateOneWay_67 rfl ?_
        refine z_iconst (v := 2) F dX3_relateOneWay_68 (by decide) ?_
        refine z_icmp_ne (tgt := 83) F dX3_relateOneWay_69 (by decide) (fun c69 => ?_) (fun c69 => ?_)
        · exact z_vret F hr hlk dX3_relateOneWay_83 (by have e1 : ¬ h = 1 := fun q => c50 (by rw [q]; rfl); have e2 : ¬ h = 2 := fun q => c69 (by rw [q]; rfl); rw [decide_eq_false e1, decide_eq_false e2]; rfl) (Nat.le_of_ble_eq_true rfl) (Nat.le_of_ble_eq_true rfl)
        · refine z_aload_n F dX3_relateOneWay_72 rfl ?_
          refine z_get (ci := 3) (C := RX3) (T := TX3) (N := 6) F 0 4 dX3_relateOneWay_73 inX3 kfX3_24 rfl rfl rfl (by decide) rfl ?_
          refine z_iload_n F dX3_relateOneWay_76 rfl ?_
          refine z_dup2 F dX3_relateOneWay_77 rfl rfl ?_
          refine z_ialdN F 5 0 dX3_relateOneWay_78 rfl rfl rfl (Nat.lt_of_lt_of_le hf2 hn) (by decide) ?_
          refine z_iload F dX3_relateOneWay_79 rfl ?_
          refine z_ior F dX3_relateOneWay_81 ?_
          refine z_topi (y := nI (zu tg f (zd (tg f) (2 ^ t)) f ||| 2 ^ t)) (zb_or _ _) ?_
          refine z_iastN F 5 0 _ dX3_relateOneWay_82 rfl rfl rfl (Nat.lt_of_lt_of_le hf2 hn) (by decide) rfl ?_
          exact z_vret F hr hlk dX3_relateOneWay_83 (by have e : h = 2 := (nI_eq hh (by omega)).mp c69; subst e; rw [show decide (2 = 2) = true from rfl, zrl_t]; rfl) (Nat.le_of_ble_eq_true rfl) (Nat.le_of_ble_eq_true rfl)
      · refine z_aload_n F dX3_relateOneWay_53 rfl ?_
        refine z_get (ci := 3) (C := RX3) (T := TX3) (N := 6) F 0 3 dX3_relateOneWay_54 inX3 kfX3_21 rfl rfl rfl (by decide) rfl ?_
        refine z_iload_n F dX3_relateOneWay_57 rfl ?_
        refine z_dup2 F dX3_relateOneWay_58 rfl rfl ?_
        refine z_ialdN F 4 0 dX3_relateOneWay_59 rfl rfl rfl (Nat.lt_of_lt_of_le hf2 hn) (by decide) ?_
        refine z_iload F dX3_relateOneWay_60 rfl ?_
        refine z_ior F dX3_relateOneWay_62 ?_
        refine z_topi (y := nI (zu ap f (zd (ap f) (2 ^ t)) f ||| 2 ^ t)) (zb_or _ _) ?_
        refine z_iastN F 4 0 _ dX3_relateOneWay_63 rfl rfl rfl (Nat.lt_of_lt_of_le hf2 hn) (by decide) rfl ?_
        refine z_goto (tgt := 83) F dX3_relateOneWay_64 (by decide) ?_
        exact z_vret F hr hlk dX3_relateOneWay_83 (by have e : h = 1 := (nI_eq hh (by omega)).mp c50; subst e; rw [show decide (1 = 1) = true from rfl, zrl_t]; rfl) (Nat.le_of_ble_eq_true rfl) (Nat.le_of_ble_eq_true rfl)
    · exact absurd (zB_0.mp c13) (by rw [decide_eq_true ((zhas (by omega)).mpr ⟨t, ht2, rfl⟩)]; decide)

set_option maxHeartbeats 4000000 in
set_option maxRecDepth 100000 in
/-- Units.relate -/
theorem c_U_relate {l : Launch} {D : va_G} {tys : List (ClassId × FieldType)} {hu u1 u2 u3 u4 u5 : Nat} {cA : ClassId} {si we ki ap tg : Nat → Nat} {nu : Nat} (hn : nu ≤ 8) (u v h : Nat) (hu2 : u < nu) (hv2 : v < nu) (hh : h < 2 ^ 31) : zMv l yX3_relate (zws yX3_relate cX3_relate 4 none) { frames := 2, cells := 0, slots := 0, locals := 45 } D zcl ((cA, .int) :: tys) zG [.ref hu, .int (nI u), .int (nI v), .int (nI h)] (wU hu u1 u2 u3 u4 u5 cA si we ki ap tg nu) (fun w2 => w2 = wU hu u1 u2 u3 u4 u5 cA si we ki (zrl (zrl ap u v (decide (h = 1))) v u (decide (h = 1))) (zrl (zrl tg u v (decide (h = 2))) v u (decide (h = 2))) nu) 0 0 := by
  refine z_ofv (cc := cX3_relate) (maxL := 4) (ret := none) (by decide) rfl (Nat.le_of_ble_eq_true rfl) ?_
  intro p e s m below meth c A F hr hlk hnm
  refine z_aload_n F dX3_relate_0 rfl ?_
  refine z_iload_n F dX3_relate_1 rfl ?_
  refine z_iload_n F dX3_relate_2 rfl ?_
  refine z_iload_n F dX3_relate_3 rfl ?_
  refine z_callVv0 F (c_U_relateOneWay hn u v h hu2 hv2 hh) 0 rfl rfl (zcwV F.2.2.2.2.1 kcX3_relateOneWay kmX3_43 kiX3_relateOneWay ksX3_relateOneWay knX3 hdX3_relateOneWay rfl rfl ⟨(Nat.le_of_ble_eq_true rfl), (Nat.le_of_ble_eq_true rfl)⟩) dX3_relate_4 rfl rfl (Nat.le_of_ble_eq_true rfl) ⟨(Nat.le_of_ble_eq_true rfl), (Nat.le_of_ble_eq_true rfl)⟩ ?_
  rintro w2 rfl
  refine z_aload_n F dX3_relate_7 rfl ?_
  refine z_iload_n F dX3_relate_8 rfl ?_
  refine z_iload_n F dX3_relate_9 rfl ?_
  refine z_iload_n F dX3_relate_10 rfl ?_
  refine z_callVv0 F (c_U_relateOneWay hn v u h hv2 hu2 hh) 0 rfl rfl (zcwV F.2.2.2.2.1 kcX3_relateOneWay kmX3_43 kiX3_relateOneWay ksX3_relateOneWay knX3 hdX3_relateOneWay rfl rfl ⟨(Nat.le_of_ble_eq_true rfl), (Nat.le_of_ble_eq_true rfl)⟩) dX3_relate_11 rfl rfl (Nat.le_of_ble_eq_true rfl) ⟨(Nat.le_of_ble_eq_true rfl), (Nat.le_of_ble_eq_true rfl)⟩ ?_
  rintro w2 rfl
  exact z_vret F hr hlk dX3_relate_14 rfl (Nat.le_of_ble_eq_true rfl) (Nat.le_of_ble_eq_true rfl)

set_option maxHeartbeats 4000000 in
set_option maxRecDepth 100000 in
/-- Units.sumOf -/
theorem c_U_sum_s {l : Launch} {D : va_G} {tys : List (ClassId × FieldType)} {hu u1 u2 u3 u4 u5 : Nat} {cA : ClassId} {si we ki ap tg : Nat → Nat} {nu : Nat} (hn : nu ≤ 8) (a : Nat) (ha : a < 2 ^ 31) : zMi l yX3_sumOf (zws yX3_sumOf cX3_sumOf 5 (some .int)) { frames := 1, cells := 0, slots := 0, locals := 21 } D zcl ((cA, .int) :: tys) zG [.ref hu, .ref u1, .int (nI a)] (wU hu u1 u2 u3 u4 u5 cA si we ki ap tg nu) (fun r w2 => r = nI (zsum si a nu) ∧ w2 = (wU hu u1 u2 u3 u4 u5 cA si we ki ap tg nu)) 0 0 := by
  refine z_ofi (cc := cX3_sumOf) (maxL := 5) (ret := (some .int)) (by decide) rfl (Nat.le_of_ble_eq_true rfl) ?_
  intro p e s m below meth c A F hr hlk hnm
  have loop : ∀ (n j : Nat), j ≤ nu → nu + 1 ≤ j + n → zW p l e (headSpec (zws yX3_sumOf cX3_sumOf 5 (some .int)) { frames := 1, cells := 0, slots := 0, locals := 21 }).room s m [.ref hu, .ref u1, .int (nI a)].toArray below meth c 5 D zcl A 0 0 (MQ below (va_Qi (fun r w2 => r = nI (zsum si a nu) ∧ w2 = (wU hu u1 u2 u3 u4 u5 cA si we ki ap tg nu)) (zEnd D zcl A) A) [.ref hu, .ref u1, .int (nI a)].toArray s 0 0 A) (wU hu u1 u2 u3 u4 u5 cA si we ki ap tg nu) [(0, .ref hu), (1, .ref u1), (2, .int (nI a)), (3, .int (nI (zsum si a j))), (4, .int (nI j))] 5 [] := by
    intro n
    induction n with
    | zero => intro j h1 h2; omega
    | succ n ih =>
      intro j hj1 hj2
      refine z_iload F dX3_sumOf_5 rfl ?_
      refine z_aload_n F dX3_sumOf_7 rfl ?_
      refine z_get (ci := 3) (C := RX3) (T := TX3) (N := 6) F 0 5 dX3_sumOf_8 inX3 kfX3_27 rfl rfl rfl (by decide) rfl ?_
      refine z_icmp_ge (tgt := 36) F dX3_sumOf_11 (by decide) (fun c11 => ?_) (fun c11 => ?_)
      · have ej := zge_end hj1 (by omega) c11
        refine z_iload_n F dX3_sumOf_36 rfl ?_
        exact z_iret F hr rfl hlk dX3_sumOf_37 ⟨by rw [ej], rfl⟩ (Nat.le_of_ble_eq_true rfl) (Nat.le_of_ble_eq_true rfl)
      · have hlt := zge_on (by omega) hj1 c11
        refine z_iload_n F dX3_sumOf_14 rfl ?_
        refine z_iload F dX3_sumOf_15 rfl ?_
        refine z_callSNi0 F (c_holds a j ha (by omega)) (zcnS F.2.2.2.2.1 kcX4_holds (nlX3_39 F.2.2.2.2.2.2.2.1) ktX4_holds knX4 hdX4_holds rfl rfl ⟨(Nat.le_of_ble_eq_true rfl), (Nat.le_of_ble_eq_true rfl)⟩) dX3_sumOf_17 rfl rfl (Nat.le_of_ble_eq_true rfl) ⟨(Nat.le_of_ble_eq_true rfl), (Nat.le_of_ble_eq_true rfl)⟩ ?_
        rintro r w2 ⟨rfl, rfl⟩
        refine z_if_eq (tgt := 30) F dX3_sumOf_20 (by decide) (fun c20 => ?_) (fun c20 => ?_)
        · refine z_iinc (v := nI (j + 1)) F dX3_sumOf_30 rfl (nI_1 j) (by decide) ?_
          refine z_goto (tgt := 5) F dX3_sumOf_33 (by decide) ?_
          have h9 := ih (j + 1) (by omega) (by omega)
          rw [zsum_f (zB_0.mp c20)] at h9
          exact z_lv rfl h9
        · refine z_iload_n F dX3_sumOf_23 rfl ?_
          refine z_aload_n F dX3_sumOf_24 rfl ?_
          refine z_iload F dX3_sumOf_25 rfl ?_
          refine z_ialdN F 1 0 dX3_sumOf_27 rfl rfl rfl (Nat.lt_of_lt_of_le hlt hn) (by decide) ?_
          refine z_iadd F dX3_sumOf_28 ?_
          refine z_topi (y := nI (zsum si a j + si j)) (nI_add _ _) ?_
          refine z_istore_n F dX3_sumOf_29 (by decide) ?_
          refine z_iinc (v := nI (j + 1)) F dX3_sumOf_30 rfl (nI_1 j) (by decide) ?_
          refine z_goto (tgt := 5) F dX3_sumOf_33 (by decide) ?_
          have h9 := ih (j + 1) (by omega) (by omega)
          rw [zsum_t (zB_1.mp c20)] at h9
          exact z_lv rfl h9
  refine z_iconst (v := 0) F dX3_sumOf_0 (by decide) ?_
  refine z_istore_n F dX3_sumOf_1 (by decide) ?_
  refine z_iconst (v := 0) F dX3_sumOf_2 (by decide) ?_
  refine z_istore F dX3_sumOf_3 (by decide) ?_
  exact z_lv rfl (loop (nu + 1) 0 (by omega) (by omega))

set_option maxHeartbeats 4000000 in
set_option maxRecDepth 100000 in
/-- Units.sumOf -/
theorem c_U_sum_w {l : Launch} {D : va_G} {tys : List (ClassId × FieldType)} {hu u1 u2 u3 u4 u5 : Nat} {cA : ClassId} {si we ki ap tg : Nat → Nat} {nu : Nat} (hn : nu ≤ 8) (a : Nat) (ha : a < 2 ^ 31) : zMi l yX3_sumOf (zws yX3_sumOf cX3_sumOf 5 (some .int)) { frames := 1, cells := 0, slots := 0, locals := 21 } D zcl ((cA, .int) :: tys) zG [.ref hu, .ref u2, .int (nI a)] (wU hu u1 u2 u3 u4 u5 cA si we ki ap tg nu) (fun r w2 => r = nI (zsum we a nu) ∧ w2 = (wU hu u1 u2 u3 u4 u5 cA si we ki ap tg nu)) 0 0 := by
  refine z_ofi (cc := cX3_sumOf) (maxL := 5) (ret := (some .int)) (by decide) rfl (Nat.le_of_ble_eq_true rfl) ?_
  intro p e s m below meth c A F hr hlk hnm
  have loop : ∀ (n j : Nat), j ≤ nu → nu + 1 ≤ j + n → zW p l e (headSpec (zws yX3_sumOf cX3_sumOf 5 (some .int)) { frames := 1, cells := 0, slots := 0, locals := 21 }).room s m [.ref hu, .ref u2, .int (nI a)].toArray below meth c 5 D zcl A 0 0 (MQ below (va_Qi (fun r w2 => r = nI (zsum we a nu) ∧ w2 = (wU hu u1 u2 u3 u4 u5 cA si we ki ap tg nu)) (zEnd D zcl A) A) [.ref hu, .ref u2, .int (nI a)].toArray s 0 0 A) (wU hu u1 u2 u3 u4 u5 cA si we ki ap tg nu) [(0, .ref hu), (1, .ref u2), (2, .int (nI a)), (3, .int (nI (zsum we a j))), (4, .int (nI j))] 5 [] := by
    intro n
    induction n with
    | zero => intro j h1 h2; omega
    | succ n ih =>
      intro j hj1 hj2
      refine z_iload F dX3_sumOf_5 rfl ?_
      refine z_aload_n F dX3_sumOf_7 rfl ?_
      refine z_get (ci := 3) (C := RX3) (T := TX3) (N := 6) F 0 5 dX3_sumOf_8 inX3 kfX3_27 rfl rfl rfl (by decide) rfl ?_
      refine z_icmp_ge (tgt := 36) F dX3_sumOf_11 (by decide) (fun c11 => ?_) (fun c11 => ?_)
      · have ej := zge_end hj1 (by omega) c11
        refine z_iload_n F dX3_sumOf_36 rfl ?_
        exact z_iret F hr rfl hlk dX3_sumOf_37 ⟨by rw [ej], rfl⟩ (Nat.le_of_ble_eq_true rfl) (Nat.le_of_ble_eq_true rfl)
      · have hlt := zge_on (by omega) hj1 c11
        refine z_iload_n F dX3_sumOf_14 rfl ?_
        refine z_iload F dX3_sumOf_15 rfl ?_
        refine z_callSNi0 F (c_holds a j ha (by omega)) (zcnS F.2.2.2.2.1 kcX4_holds (nlX3_39 F.2.2.2.2.2.2.2.1) ktX4_holds knX4 hdX4_holds rfl rfl ⟨(Nat.le_of_ble_eq_true rfl), (Nat.le_of_ble_eq_true rfl)⟩) dX3_sumOf_17 rfl rfl (Nat.le_of_ble_eq_true rfl) ⟨(Nat.le_of_ble_eq_true rfl), (Nat.le_of_ble_eq_true rfl)⟩ ?_
        rintro r w2 ⟨rfl, rfl⟩
        refine z_if_eq (tgt := 30) F dX3_sumOf_20 (by decide) (fun c20 => ?_) (fun c20 => ?_)
        · refine z_iinc (v := nI (j + 1)) F dX3_sumOf_30 rfl (nI_1 j) (by decide) ?_
          refine z_goto (tgt := 5) F dX3_sumOf_33 (by decide) ?_
          have h9 := ih (j + 1) (by omega) (by omega)
          rw [zsum_f (zB_0.mp c20)] at h9
          exact z_lv rfl h9
        · refine z_iload_n F dX3_sumOf_23 rfl ?_
          refine z_aload_n F dX3_sumOf_24 rfl ?_
          refine z_iload F dX3_sumOf_25 rfl ?_
          refine z_ialdN F 2 0 dX3_sumOf_27 rfl rfl rfl (Nat.lt_of_lt_of_le hlt hn) (by decide) ?_
          refine z_iadd F dX3_sumOf_28 ?_
          refine z_topi (y := nI (zsum we a j + we j)) (nI_add _ _) ?_
          refine z_istore_n F dX3_sumOf_29 (by decide) ?_
          refine z_iinc (v := nI (j + 1)) F dX3_sumOf_30 rfl (nI_1 j) (by decide) ?_
          refine z_goto (tgt := 5) F dX3_sumOf_33 (by decide) ?_
          have h9 := ih (j + 1) (by omega) (by omega)
          rw [zsum_t (zB_1.mp c20)] at h9
          exact z_lv rfl h9
  refine z_iconst (v := 0) F dX3_sumOf_0 (by decide) ?_
  refine z_istore_n F dX3_sumOf_1 (by decide) ?_
  refine z_iconst (v := 0) F dX3_sumOf_2 (by decide) ?_
  refine z_istore F dX3_sumOf_3 (by decide) ?_
  exact z_lv rfl (loop (nu + 1) 0 (by omega) (by omega))

set_option maxHeartbeats 4000000 in
set_option maxRecDepth 100000 in
/-- Units.sizeOf -/
theorem c_U_sizeOf {l : Launch} {D : va_G} {tys : List (ClassId × FieldType)} {hu u1 u2 u3 u4 u5 : Nat} {cA : ClassId} {si we ki ap tg : Nat → Nat} {nu : Nat} (hn : nu ≤ 8) (a : Nat) (ha : a < 2 ^ 31) : zMi l yX3_sizeOf (zws yX3_sizeOf cX3_sizeOf 2 (some .int)) { frames := 2, cells := 0, slots := 0, locals := 45 } D zcl ((cA, .int) :: tys) zG [.ref hu, .int (nI a)] (wU hu u1 u2 u3 u4 u5 cA si we ki ap tg nu) (fun r w2 => r = nI (zsum si a nu) ∧ w2 = (wU hu u1 u2 u3 u4 u5 cA si we ki ap tg nu)) 0 0 := by
  refine z_ofi (cc := cX3_sizeOf) (maxL := 2) (ret := (some .int)) (by decide) rfl (Nat.le_of_ble_eq_true rfl) ?_
  intro p e s m below meth c A F hr hlk hnm
  refine z_aload_n F dX3_sizeOf_0 rfl ?_
  refine z_aload_n F dX3_sizeOf_1 rfl ?_
  refine z_get (ci := 3) (C := RX3) (T := TX3) (N := 6) F 0 0 dX3_sizeOf_2 inX3 kfX3_9 rfl rfl rfl (by decide) rfl ?_
  refine z_iload_n F dX3_sizeOf_5 rfl ?_
  refine z_callVi0 F (c_U_sum_s hn a ha) 0 rfl rfl (zcwV F.2.2.2.2.1 kcX3_sumOf kmX3_51 kiX3_sumOf ksX3_sumOf knX3 hdX3_sumOf rfl rfl ⟨(Nat.le_of_ble_eq_true rfl), (Nat.le_of_ble_eq_true rfl)⟩) dX3_sizeOf_6 rfl rfl (Nat.le_of_ble_eq_true rfl) ⟨(Nat.le_of_ble_eq_true rfl), (Nat.le_of_ble_eq_true rfl)⟩ ?_
  rintro r w2 ⟨rfl, rfl⟩
  exact z_iret F hr rfl hlk dX3_sizeOf_9 ⟨rfl, rfl⟩ (Nat.le_of_ble_eq_true rfl) (Nat.le_of_ble_eq_true rfl)

set_option maxHeartbeats 4000000 in
set_option maxRecDepth 100000 in
/-- Units.weightOf -/
theorem c_U_weightOf {l : Launch} {D : va_G} {tys : List (ClassId × FieldType)} {hu u1 u2 u3 u4 u5 : Nat} {cA : ClassId} {si we ki ap tg : Nat → Nat} {nu : Nat} (hn : nu ≤ 8) (a : Nat) (ha : a < 2 ^ 31) : zMi l yX3_weightOf (zws yX3_weightOf cX3_weightOf 2 (some .int)) { frames := 2, cells := 0, slots := 0, locals := 45 } D zcl ((cA, .int) :: tys) zG [.ref hu, .int (nI a)] (wU hu u1 u2 u3 u4 u5 cA si we ki ap tg nu) (fun r w2 => r = nI (zsum we a nu) ∧ w2 = (wU hu u1 u2 u3 u4 u5 cA si we ki ap tg nu)) 0 0 := by
  refine z_ofi (cc := cX3_weightOf) (maxL := 2) (ret := (some .int)) (by decide) rfl (Nat.le_of_ble_eq_true rfl) ?_
  intro p e s m below meth c A F hr hlk hnm
  refine z_aload_n F dX3_weightOf_0 rfl ?_
  refine z_aload_n F dX3_weightOf_1 rfl ?_
  refine z_get (ci := 3) (C := RX3) (T := TX3) (N := 6) F 0 1 dX3_weightOf_2 inX3 kfX3_15 rfl rfl rfl (by decide) rfl ?_
  refine z_iload_n F dX3_weightOf_5 rfl ?_
  refine z_callVi0 F (c_U_sum_w hn a ha) 0 rfl rfl (zcwV F.2.2.2.2.1 kcX3_sumOf kmX3_51 kiX3_sumOf ksX3_sumOf knX3 hdX3_sumOf rfl rfl ⟨(Nat.le_of_ble_eq_true rfl), (Nat.le_of_ble_eq_true rfl)⟩) dX3_weightOf_6 rfl rfl (Nat.le_of_ble_eq_true rfl) ⟨(Nat.le_of_ble_eq_true rfl), (Nat.le_of_ble_eq_true rfl)⟩ ?_
  rintro r w2 ⟨rfl, rfl⟩
  exact z_iret F hr rfl hlk dX3_weightOf_9 ⟨rfl, rfl⟩ (Nat.le_of_ble_eq_true rfl) (Nat.le_of_ble_eq_true rfl)

set_option maxHeartbeats 4000000 in
set_option maxRecDepth 100000 in
/-- Units.kindsOf -/
theorem c_U_kindsOf {l : Launch} {D : va_G} {tys : List (ClassId × FieldType)} {hu u1 u2 u3 u4 u5 : Nat} {cA : ClassId} {si we ki ap tg : Nat → Nat} {nu : Nat} (hn : nu ≤ 8) (hk : ∀ x, ki x < 31) (a : Nat) (ha : a < 2 ^ 31) : zMi l yX3_kindsOf (zws yX3_kindsOf cX3_kindsOf 4 (some .int)) { frames := 1, cells := 0, slots := 0, locals := 21 } D zcl ((cA, .int) :: tys) zG [.ref hu, .int (nI a)] (wU hu u1 u2 u3 u4 u5 cA si we ki ap tg nu) (fun r w2 => r = nI (zuni (fun x => 2 ^ ki x) a nu) ∧ w2 = (wU hu u1 u2 u3 u4 u5 cA si we ki ap tg nu)) 0 0 := by
  refine z_ofi (cc := cX3_kindsOf) (maxL := 4) (ret := (some .int)) (by decide) rfl (Nat.le_of_ble_eq_true rfl) ?_
  intro p e s m below meth c A F hr hlk hnm
  have loop : ∀ (n j : Nat), j ≤ nu → nu + 1 ≤ j + n → zW p l e (headSpec (zws yX3_kindsOf cX3_kindsOf 4 (some .int)) { frames := 1, cells := 0, slots := 0, locals := 21 }).room s m [.ref hu, .int (nI a)].toArray below meth c 4 D zcl A 0 0 (MQ below (va_Qi (fun r w2 => r = nI (zuni (fun x => 2 ^ ki x) a nu) ∧ w2 = (wU hu u1 u2 u3 u4 u5 cA si we ki ap tg nu)) (zEnd D zcl A) A) [.ref hu, .int (nI a)].toArray s 0 0 A) (wU hu u1 u2 u3 u4 u5 cA si we ki ap tg nu) [(0, .ref hu), (1, .int (nI a)), (2, .int (nI (zuni (fun x => 2 ^ ki x) a j))), (3, .int (nI j))] 4 [] := by
    intro n
    induction n with
    | zero => intro j h1 h2; omega
    | succ n ih =>
      intro j hj1 hj2
      refine z_iload_n F dX3_kindsOf_4 rfl ?_
      refine z_aload_n F dX3_kindsOf_5 rfl ?_
      refine z_get (ci := 3) (C := RX3) (T := TX3) (N := 6) F 0 5 dX3_kindsOf_6 inX3 kfX3_27 rfl rfl rfl (by decide) rfl ?_
      refine z_icmp_ge (tgt := 37) F dX3_kindsOf_9 (by decide) (fun c9 => ?_) (fun c9 => ?_)
      · have ej := zge_end hj1 (by omega) c9
        refine z_iload_n F dX3_kindsOf_37 rfl ?_
        exact z_iret F hr rfl hlk dX3_kindsOf_38 ⟨by rw [ej], rfl⟩ (Nat.le_of_ble_eq_true rfl) (Nat.le_of_ble_eq_true rfl)
      · have hlt := zge_on (by omega) hj1 c9
        refine z_iload_n F dX3_kindsOf_12 rfl ?_
        refine z_iload_n F dX3_kindsOf_13 rfl ?_
        refine z_callSNi0 F (c_holds a j ha (by omega)) (zcnS F.2.2.2.2.1 kcX4_holds (nlX3_39 F.2.2.2.2.2.2.2.1) ktX4_holds knX4 hdX4_holds rfl rfl ⟨(Nat.le_of_ble_eq_true rfl), (Nat.le_of_ble_eq_true rfl)⟩) dX3_kindsOf_14 rfl rfl (Nat.le_of_ble_eq_true rfl) ⟨(Nat.le_of_ble_eq_true rfl), (Nat.le_of_ble_eq_true rfl)⟩ ?_
        rintro r w2 ⟨rfl, rfl⟩
        refine z_if_eq (tgt := 31) F dX3_kindsOf_17 (by decide) (fun c17 => ?_) (fun c17 => ?_)
        · refine z_iinc (v := nI (j + 1)) F dX3_kindsOf_31 rfl (nI_1 j) (by decide) ?_
          refine z_goto (tgt := 4) F dX3_kindsOf_34 (by decide) ?_
          have h9 := ih (j + 1) (by omega) (by omega)
          rw [zuni_f (zB_0.mp c17)] at h9
          exact z_lv rfl h9
        · refine z_iload_n F dX3_kindsOf_20 rfl ?_
          refine z_iconst (v := 1) F dX3_kindsOf_21 (by decide) ?_
          refine z_aload_n F dX3_kindsOf_22 rfl ?_
          refine z_get (ci := 3) (C := RX3) (T := TX3) (N := 6) F 0 2 dX3_kindsOf_23 inX3 kfX3_18 rfl rfl rfl (by decide) rfl ?_
          refine z_iload_n F dX3_kindsOf_26 rfl ?_
          refine z_ialdN F 3 0 dX3_kindsOf_27 rfl rfl rfl (Nat.lt_of_lt_of_le hlt hn) (by decide) ?_
          refine z_ishl F dX3_kindsOf_28 ?_
          refine z_topi (y := nI (2 ^ ki j)) (zb_shl1 (ki j) (hk j)) ?_
          refine z_ior F dX3_kindsOf_29 ?_
          refine z_topi (y := nI (zuni (fun x => 2 ^ ki x) a j ||| 2 ^ ki j)) (zb_or _ _) ?_
          refine z_istore_n F dX3_kindsOf_30 (by decide) ?_
          refine z_iinc (v := nI (j + 1)) F dX3_kindsOf_31 rfl (nI_1 j) (by decide) ?_
          refine z_goto (tgt := 4) F dX3_kindsOf_34 (by decide) ?_
          have h9 := ih (j + 1) (by omega) (by omega)
          rw [zuni_t (zB_1.mp c17)] at h9
          exact z_lv rfl h9
  refine z_iconst (v := 0) F dX3_kindsOf_0 (by decide) ?_
  refine z_istore_n F dX3_kindsOf_1 (by decide) ?_
  refine z_iconst (v := 0) F dX3_kindsOf_2 (by decide) ?_
  refine z_istore_n F dX3_kindsOf_3 (by decide) ?_
  exact z_lv rfl (loop (nu + 1) 0 (by omega) (by omega))

set_option maxHeartbeats 4000000 in
set_option maxRecDepth 100000 in
/-- Units.anyApart -/
theorem c_U_anyApart {l : Launch} {D : va_G} {tys : List (ClassId × FieldType)} {hu u1 u2 u3 u4 u5 : Nat} {cA : ClassId} {si we ki ap tg : Nat → Nat} {nu : Nat} (hn : nu ≤ 8) (hb : ∀ x, ap x < 2 ^ 31) (a : Nat) (ha : a < 2 ^ 31) : zMi l yX3_anyApart (zws yX3_anyApart cX3_anyApart 3 (some .boolean)) { frames := 1, cells := 0, slots := 0, locals := 21 } D zcl ((cA, .int) :: tys) zG [.ref hu, .int (nI a)] (wU hu u1 u2 u3 u4 u5 cA si we ki ap tg nu) (fun r w2 => r = zB (zany (fun x => a.testBit x && decide (¬ ap x &&& a = 0)) nu) ∧ w2 = (wU hu u1 u2 u3 u4 u5 cA si we ki ap tg nu)) 0 0 := by
  refine z_ofi (cc := cX3_anyApart) (maxL := 3) (ret := (some .boolean)) (by decide) rfl (Nat.le_of_ble_eq_true rfl) ?_
  intro p e s m below meth c A F hr hlk hnm
  have loop : ∀ (n j : Nat), j ≤ nu → nu + 1 ≤ j + n → zany (fun x => a.testBit x && decide (¬ ap x &&& a = 0)) j = false → zW p l e (headSpec (zws yX3_anyApart cX3_anyApart 3 (some .boolean)) { frames := 1, cells := 0, slots := 0, locals := 21 }).room s m [.ref hu, .int (nI a)].toArray below meth c 3 D zcl A 0 0 (MQ below (va_Qi (fun r w2 => r = zB (zany (fun x => a.testBit x && decide (¬ ap x &&& a = 0)) nu) ∧ w2 = (wU hu u1 u2 u3 u4 u5 cA si we ki ap tg nu)) (zEnd D zcl A) A) [.ref hu, .int (nI a)].toArray s 0 0 A) (wU hu u1 u2 u3 u4 u5 cA si we ki ap tg nu) [(0, .ref hu), (1, .int (nI a)), (2, .int (nI j))] 2 [] := by
    intro n
    induction n with
    | zero => intro j h1 h2; omega
    | succ n ih =>
      intro j hj1 hj2 hz
      refine z_iload_n F dX3_anyApart_2 rfl ?_
      refine z_aload_n F dX3_anyApart_3 rfl ?_
      refine z_get (ci := 3) (C := RX3) (T := TX3) (N := 6) F 0 5 dX3_anyApart_4 inX3 kfX3_27 rfl rfl rfl (by decide) rfl ?_
      refine z_icmp_ge (tgt := 37) F dX3_anyApart_7 (by decide) (fun c7 => ?_) (fun c7 => ?_)
      · have ej := zge_end hj1 (by omega) c7
        refine z_iconst (v := 0) F dX3_anyApart_37 (by decide) ?_
        exact z_iret F hr rfl hlk dX3_anyApart_38 ⟨by rw [← ej, hz]; rfl, rfl⟩ (Nat.le_of_ble_eq_true rfl) (Nat.le_of_ble_eq_true rfl)
      · have hlt := zge_on (by omega) hj1 c7
        refine z_iload_n F dX3_anyApart_10 rfl ?_
        refine z_iload_n F dX3_anyApart_11 rfl ?_
        refine z_callSNi0 F (c_holds a j ha (by omega)) (zcnS F.2.2.2.2.1 kcX4_holds (nlX3_39 F.2.2.2.2.2.2.2.1) ktX4_holds knX4 hdX4_holds rfl rfl ⟨(Nat.le_of_ble_eq_true rfl), (Nat.le_of_ble_eq_true rfl)⟩) dX3_anyApart_12 rfl rfl (Nat.le_of_ble_eq_true rfl) ⟨(Nat.le_of_ble_eq_true rfl), (Nat.le_of_ble_eq_true rfl)⟩ ?_
        rintro r w2 ⟨rfl, rfl⟩
        refine z_if_eq (tgt := 31) F dX3_anyApart_15 (by decide) (fun c15 => ?_) (fun c15 => ?_)
        · refine z_iinc (v := nI (j + 1)) F dX3_anyApart_31 rfl (nI_1 j) (by decide) ?_
          refine z_goto (tgt := 2) F dX3_anyApart_34 (by decide) ?_
          exact z_lv rfl (ih (j + 1) (by omega) (by omega) (zany_s hz (by rw [zB_0.mp c15]; rfl)))
        · refine z_aload_n F dX3_anyApart_18 rfl ?_
          refine z_get (ci := 3) (C := RX3) (T := TX3) (N := 6) F 0 3 dX3_anyApart_19 inX3 kfX3_21 rfl rfl rfl (by decide) rfl ?_
          refine z_iload_n F dX3_anyApart_22 rfl ?_
          refine z_ialdN F 4 0 dX3_anyApart_23 rfl rfl rfl (Nat.lt_of_lt_of_le hlt hn) (by decide) ?_
          refine z_iload_n F dX3_anyApart_24 rfl ?_
          refine z_iand F dX3_anyApart_25 ?_
          refine z_topi (y := nI (ap j &&& a)) (zb_and _ _) ?_
          refine z_if_eq (tgt := 31) F dX3_anyApart_26 (by decide) (fun c26 => ?_) (fun c26 => ?_)
          · refine z_iinc (v := nI (j + 1)) F dX3_anyApart_31 rfl (nI_1 j) (by decide) ?_
            refine z_goto (tgt := 2) F dX3_anyApart_34 (by decide) ?_
            exact z_lv rfl (ih (j + 1) (by omega) (by omega) (zany_s hz (by rw [decide_eq_false (fun q => q ((zb_eq0 (Nat.lt_of_le_of_lt Nat.and_le_left (hb j))).mp c26)), Bool.and_false])))
          · refine z_iconst (v := 1) F dX3_anyApart_29 (by decide) ?_
            exact z_iret F hr rfl hlk dX3_anyApart_30 ⟨by rw [zany_t hlt (by rw [zB_1.mp c15, decide_eq_true (p := ¬ ap j &&& a = 0) (fun q => c26 ((zb_eq0 (Nat.lt_of_le_of_lt Nat.and_le_left (hb j))).mpr q))]; rfl)]; rfl, rfl⟩ (Nat.le_of_ble_eq_true rfl) (Nat.le_of_ble_eq_true rfl)
  refine z_iconst (v := 0) F dX3_anyApart_0 (by decide) ?_
  refine z_istore_n F dX3_anyApart_1 (by decide) ?_
  exact z_lv rfl (loop (nu + 1) 0 (by omega) (by omega) rfl)

set_option maxHeartbeats 4000000 in
set_option maxRecDepth 100000 in
/-- Units.isWhole -/
theorem c_U_isWhole {l : Launch} {D : va_G} {tys : List (ClassId × FieldType)} {hu u1 u2 u3 u4 u5 : Nat} {cA : ClassId} {si we ki ap tg : Nat → Nat} {nu : Nat} (hn : nu ≤ 8) (hb : ∀ x, tg x < 2 ^ 31) (a : Nat) (ha : a < 2 ^ 31) : zMi l yX3_isWhole (zws yX3_isWhole cX3_isWhole 3 (some .boolean)) { frames := 1, cells := 0, slots := 0, locals := 21 } D zcl ((cA, .int) :: tys) zG [.ref hu, .int (nI a)] (wU hu u1 u2 u3 u4 u5 cA si we ki ap tg nu) (fun r w2 => r = zB (!zany (fun x => a.testBit x && decide (¬ zd (tg x) a = 0)) nu) ∧ w2 = (wU hu u1 u2 u3 u4 u5 cA si we ki ap tg nu)) 0 0 := by
  refine z_ofi (cc := cX3_isWhole) (maxL := 3) (ret := (some .boolean)) (by decide) rfl (Nat.le_of_ble_eq_true rfl) ?_
  intro p e s m below meth c A F hr hlk hnm
  have loop : ∀ (n j : Nat), j ≤ nu → nu + 1 ≤ j + n → zany (fun x => a.testBit x && decide (¬ zd (tg x) a = 0)) j = false → zW p l e (headSpec (zws yX3_isWhole cX3_isWhole 3 (some .boolean)) { frames := 1, cells := 0, slots := 0, locals := 21 }).room s m [.ref hu, .int (nI a)].toArray below meth c 3 D zcl A 0 0 (MQ below (va_Qi (fun r w2 => r = zB (!zany (fun x => a.testBit x && decide (¬ zd (tg x) a = 0)) nu) ∧ w2 = (wU hu u1 u2 u3 u4 u5 cA si we ki ap tg nu)) (zEnd D zcl A) A) [.ref hu, .int (nI a)].toArray s 0 0 A) (wU hu u1 u2 u3 u4 u5 cA si we ki ap tg nu) [(0, .ref hu), (1, .int (nI a)), (2, .int (nI j))] 2 [] := by
    intro n
    induction n with
    | zero => intro j h1 h2; omega
    | succ n ih =>
      intro j hj1 hj2 hz
      refine z_iload_n F dX3_isWhole_2 rfl ?_
      refine z_aload_n F dX3_isWhole_3 rfl ?_
      refine z_get (ci := 3) (C := RX3) (T := TX3) (N := 6) F 0 5 dX3_isWhole_4 inX3 kfX3_27 rfl rfl rfl (by decide) rfl ?_
      refine z_icmp_ge (tgt := 39) F dX3_isWhole_7 (by decide) (fun c7 => ?_) (fun c7 => ?_)
      · have ej := zge_end hj1 (by omega) c7
        refine z_iconst (v := 1) F dX3_isWhole_39 (by decide) ?_
        exact z_iret F hr rfl hlk dX3_isWhole_40 ⟨by rw [← ej, hz]; rfl, rfl⟩ (Nat.le_of_ble_eq_true rfl) (Nat.le_of_ble_eq_true rfl)
      · have hlt := zge_on (by omega) hj1 c7
        refine z_iload_n F dX3_isWhole_10 rfl ?_
        refine z_iload_n F dX3_isWhole_11 rfl ?_
        refine z_callSNi0 F (c_holds a j ha (by omega)) (zcnS F.2.2.2.2.1 kcX4_holds (nlX3_39 F.2.2.2.2.2.2.2.1) ktX4_holds knX4 hdX4_holds rfl rfl ⟨(Nat.le_of_ble_eq_true rfl), (Nat.le_of_ble_eq_true rfl)⟩) dX3_isWhole_12 rfl rfl (Nat.le_of_ble_eq_true rfl) ⟨(Nat.le_of_ble_eq_true rfl), (Nat.le_of_ble_eq_true rfl)⟩ ?_
        rintro r w2 ⟨rfl, rfl⟩
        refine z_if_eq (tgt := 33) F dX3_isWhole_15 (by decide) (fun c15 => ?_) (fun c15 => ?_)
        · refine z_iinc (v := nI (j + 1)) F dX3_isWhole_33 rfl (nI_1 j) (by decide) ?_
          refine z_goto (tgt := 2) F dX3_isWhole_36 (by decide) ?_
          exact z_lv rfl (ih (j + 1) (by omega) (by omega) (zany_s hz (by rw [zB_0.mp c15]; rfl)))
        · refine z_aload_n F dX3_isWhole_18 rfl ?_
          refine z_get (ci := 3) (C := RX3) (T := TX3) (N := 6) F 0 4 dX3_isWhole_19 inX3 kfX3_24 rfl rfl rfl (by decide) rfl ?_
          refine z_iload_n F dX3_isWhole_22 rfl ?_
          refine z_ialdN F 5 0 dX3_isWhole_23 rfl rfl rfl (Nat.lt_of_lt_of_le hlt hn) (by decide) ?_
          refine z_iload_n F dX3_isWhole_24 rfl ?_
          refine z_iconst (v := (-1)) F dX3_isWhole_25 (by decide) ?_
          refine z_ixor F dX3_isWhole_26 ?_
          refine z_iand F dX3_isWhole_27 ?_
          refine z_topi (y := nI (zd (tg j) a)) (zb_nand _ _) ?_
          refine z_if_eq (tgt := 33) F dX3_isWhole_28 (by decide) (fun c28 => ?_) (fun c28 => ?_)
          · refine z_iinc (v := nI (j + 1)) F dX3_isWhole_33 rfl (nI_1 j) (by decide) ?_
            refine z_goto (tgt := 2) F dX3_isWhole_36 (by decide) ?_
            exact z_lv rfl (ih (j + 1) (by omega) (by omega) (zany_s hz (by rw [decide_eq_false (fun q => q ((zb_eq0 (Nat.lt_of_le_of_lt (zd_le _ _) (hb j))).mp c28)), Bool.and_false])))
          · refine z_iconst (v := 0) F dX3_isWhole_31 (by decide) ?_
            exact z_iret F hr rfl hlk dX3_isWhole_32 ⟨by rw [zany_t hlt (by rw [zB_1.mp c15, decide_eq_true (p := ¬ zd (tg j) a = 0) (fun q => c28 ((zb_eq0 (Nat.lt_of_le_of_lt (zd_le _ _) (hb j))).mpr q))]; rfl)]; rfl, rfl⟩ (Nat.le_of_ble_eq_true rfl) (Nat.le_of_ble_eq_true rfl)
  refine z_iconst (v := 0) F dX3_isWhole_0 (by decide) ?_
  refine z_istore_n F dX3_isWhole_1 (by decide) ?_
  exact z_lv rfl (loop (nu + 1) 0 (by omega) (by omega) rfl)

theorem zrel_lt (ap tg : Nat → Nat) (u v : Nat) : zrel ap tg u v < 2 ^ 31 := by
  unfold zrel
  cases (ap u).testBit v <;> cases (tg u).testBit v <;> decide

set_option maxHeartbeats 4000000 in
set_option maxRecDepth 100000 in
/-- Units.pairsOf -/
theorem c_U_pairsOf {l : Launch} {D : va_G} {tys : List (ClassId × FieldType)} {hu u1 u2 u3 u4 u5 : Nat} {cA : ClassId} {si we ki ap tg : Nat → Nat} {nu : Nat} (hn : nu ≤ 8) (hb1 : ∀ x, ap x < 2 ^ 31) (hb2 : ∀ x, tg x < 2 ^ 31) (h : Nat) (hh : h < 2 ^ 31) : zMi l yX3_pairsOf (zws yX3_pairsOf cX3_pairsOf 5 (some .int)) { frames := 2, cells := 0, slots := 0, locals := 43 } D zcl ((cA, .int) :: tys) zG [.ref hu, .int (nI h)] (wU hu u1 u2 u3 u4 u5 cA si we ki ap tg nu) (fun r w2 => r = nI (zadd (fun y => zcin (fun x => decide (zrel ap tg y x = h)) (y + 1) nu) nu) ∧ w2 = (wU hu u1 u2 u3 u4 u5 cA si we ki ap tg nu)) 0 0 := by
  refine z_ofi (cc := cX3_pairsOf) (maxL := 5) (ret := (some .int)) (by decide) rfl (Nat.le_of_ble_eq_true rfl) ?_
  intro p e s m below meth c A F hr hlk hnm
  have loop : ∀ (n u : Nat), u ≤ nu → nu + 1 ≤ u + n → zW p l e (headSpec (zws yX3_pairsOf cX3_pairsOf 5 (some .int)) { frames := 2, cells := 0, slots := 0, locals := 43 }).room s m [.ref hu, .int (nI h)].toArray below meth c 5 D zcl A 0 0 (MQ below (va_Qi (fun r w2 => r = nI (zadd (fun y => zcin (fun x => decide (zrel ap tg y x = h)) (y + 1) nu) nu) ∧ w2 = (wU hu u1 u2 u3 u4 u5 cA si we ki ap tg nu)) (zEnd D zcl A) A) [.ref hu, .int (nI h)].toArray s 0 0 A) (wU hu u1 u2 u3 u4 u5 cA si we ki ap tg nu) [(0, .ref hu), (1, .int (nI h)), (2, .int (nI (zadd (fun y => zcin (fun x => decide (zrel ap tg y x = h)) (y + 1) nu) u))), (3, .int (nI u))] 4 [] := by
    intro n
    induction n with
    | zero => intro u h1 h2; omega
    | succ n ih =>
      intro u hu1 hu3
      refine z_iload_n F dX3_pairsOf_4 rfl ?_
      refine z_aload_n F dX3_pairsOf_5 rfl ?_
      refine z_get (ci := 3) (C := RX3) (T := TX3) (N := 6) F 0 5 dX3_pairsOf_6 inX3 kfX3_27 rfl rfl rfl (by decide) rfl ?_
      refine z_icmp_ge (tgt := 52) F dX3_pairsOf_9 (by decide) (fun c9 => ?_) (fun c9 => ?_)
      · have ej := zge_end hu1 (by omega) c9
        refine z_iload_n F dX3_pairsOf_52 rfl ?_
        exact z_iret F hr rfl hlk dX3_pairsOf_53 ⟨by rw [ej], rfl⟩ (Nat.le_of_ble_eq_true rfl) (Nat.le_of_ble_eq_true rfl)
      · have hlt := zge_on (by omega) hu1 c9
        refine z_iload_n F dX3_pairsOf_12 rfl ?_
        refine z_iconst (v := 1) F dX3_pairsOf_13 (by decide) ?_
        refine z_iadd F dX3_pairsOf_14 ?_
        refine z_topi (y := nI (u + 1)) (nI_1 u) ?_
        refine z_istore F dX3_pairsOf_15 (by decide) ?_
        have inner : ∀ (n2 v : Nat), u + 1 ≤ v → v ≤ nu → nu + 1 ≤ v + n2 → zW p l e (headSpec (zws yX3_pairsOf cX3_pairsOf 5 (some .int)) { frames := 2, cells := 0, slots := 0, locals := 43 }).room s m [.ref hu, .int (nI h)].toArray below meth c 5 D zcl A 0 0 (MQ below (va_Qi (fun r w2 => r = nI (zadd (fun y => zcin (fun x => decide (zrel ap tg y x = h)) (y + 1) nu) nu) ∧ w2 = (wU hu u1 u2 u3 u4 u5 cA si we ki ap tg nu)) (zEnd D zcl A) A) [.ref hu, .int (nI h)].toArray s 0 0 A) (wU hu u1 u2 u3 u4 u5 cA si we ki ap tg nu) [(0, .ref hu), (1, .int (nI h)), (2, .int (nI (zadd (fun y => zcin (fun x => decide (zrel ap tg y x = h)) (y + 1) nu) u + zcin (fun x => decide (zrel ap tg u x = h)) (u + 1) v))), (3, .int (nI u)), (4, .int (nI v))] 17 [] := by
          intro n2
          induction n2 with
          | zero => intro v h1 h2 h3; omega
          | succ n2 ih2 =>
            intro v hv1 hv2 hv3
            refine z_iload F dX3_pairsOf_17 rfl ?_
            refine z_aload_n F dX3_pairsOf_19 rfl ?_
            refine z_get (ci := 3) (C := RX3) (T := TX3) (N := 6) F 0 5 dX3_pairsOf_20 inX3 kfX3_27 rfl rfl rfl (by decide) rfl ?_
            refine z_icmp_ge (tgt := 46) F dX3_pairsOf_23 (by decide) (fun c23 => ?_) (fun c23 => ?_)
            · have ev := zge_end hv2 (by omega) c23
              refine z_iinc (v := nI (u + 1)) F dX3_pairsOf_46 rfl (nI_1 u) (by decide) ?_
              refine z_goto (tgt := 4) F dX3_pairsOf_49 (by decide) ?_
              subst ev
              exact z_lv rfl (ih (u + 1) (by omega) (by omega))
            · have hlv := zge_on (by omega) hv2 c23
              refine z_aload_n F dX3_pairsOf_26 rfl ?_
              refine z_iload_n F dX3_pairsOf_27 rfl ?_
              refine z_iload F dX3_pairsOf_28 rfl ?_
              refine z_callVi0 F (c_U_relationOf hn hb1 hb2 u v hlt hlv) 0 rfl rfl (zcwV F.2.2.2.2.1 kcX3_relationOf kmX3_47 kiX3_relationOf ksX3_relationOf knX3 hdX3_relationOf rfl rfl ⟨(Nat.le_of_ble_eq_true rfl), (Nat.le_of_ble_eq_true rfl)⟩) dX3_pairsOf_30 rfl rfl (Nat.le_of_ble_eq_true rfl) ⟨(Nat.le_of_ble_eq_true rfl), (Nat.le_of_ble_eq_true rfl)⟩ ?_
              rintro r w2 ⟨rfl, rfl⟩
              refine z_iload_n F dX3_pairsOf_33 rfl ?_
              refine z_icmp_ne (tgt := 40) F dX3_pairsOf_34 (by decide) (fun c34 => ?_) (fun c34 => ?_)
              · refine z_iinc (v := nI (v + 1)) F dX3_pairsOf_40 rfl (nI_1 v) (by decide) ?_
                refine z_goto (tgt := 17) F dX3_pairsOf_43 (by decide) ?_
                have h9 := ih2 (v + 1) (by omega) (by omega) (by omega)
                rw [zcin_f (decide_eq_false (fun q => c34 (by rw [q])))] at h9
                exact z_lv rfl h9
              · refine z_iinc (v := nI (zadd (fun y => zcin (fun x => decide (zrel ap tg y x = h)) (y + 1) nu) u + (zcin (fun x => decide (zrel ap tg u x = h)) (u + 1) v + 1))) F dX3_pairsOf_37 rfl (by rw [← Nat.add_assoc]; exact nI_1 _) (by decide) ?_
                refine z_iinc (v := nI (v + 1)) F dX3_pairsOf_40 rfl (nI_1 v) (by decide) ?_
                refine z_goto (tgt := 17) F dX3_pairsOf_43 (by decide) ?_
                have h9 := ih2 (v + 1) (by omega) (by omega) (by omega)
                rw [zcin_t hv1 (decide_eq_true ((nI_eq (zrel_lt ap tg u v) hh).mp c34))] at h9
                exact z_lv rfl h9
        have h9 := inner (nu + 1) (u + 1) (by omega) (by omega) (by omega)
        rw [zcin_0 _ (u + 1) (u + 1) (Nat.le_refl _)] at h9
        exact z_lv rfl h9
  refine z_iconst (v := 0) F dX3_pairsOf_0 (by decide) ?_
  refine z_istore_n F dX3_pairsOf_1 (by decide) ?_
  refine z_iconst (v := 0) F dX3_pairsOf_2 (by decide) ?_
  refine z_istore_n F dX3_pairsOf_3 (by decide) ?_
  exact z_lv rfl (loop (nu + 1) 0 (by omega) (by omega))

set_option maxHeartbeats 4000000 in
set_option maxRecDepth 100000 in
/-- Units.companyOf -/
theorem c_U_companyOf {l : Launch} {D : va_G} {tys : List (ClassId × FieldType)} {hu u1 u2 u3 u4 u5 : Nat} {cA : ClassId} {si we ki ap tg : Nat → Nat} {nu : Nat} (hn : nu ≤ 8) (hb : ∀ x, tg x < 2 ^ 8) (u : Nat) (hu2 : u < nu) : zMi l yX3_companyOf (zws yX3_companyOf cX3_companyOf 5 (some .int)) { frames := 1, cells := 0, slots := 0, locals := 21 } D zcl ((cA, .int) :: tys) zG [.ref hu, .int (nI u)] (wU hu u1 u2 u3 u4 u5 cA si we ki ap tg nu) (fun r w2 => r = nI (zco tg nu u nu) ∧ w2 = (wU hu u1 u2 u3 u4 u5 cA si we ki ap tg nu)) 0 0 := by
  refine z_ofi (cc := cX3_companyOf) (maxL := 5) (ret := (some .int)) (by decide) rfl (Nat.le_of_ble_eq_true rfl) ?_
  intro p e s m below meth c A F hr hlk hnm
  have loop : ∀ (n r : Nat), r ≤ nu → nu + 1 ≤ r + n → zW p l e (headSpec (zws yX3_companyOf cX3_companyOf 5 (some .int)) { frames := 1, cells := 0, slots := 0, locals := 21 }).room s m [.ref hu, .int (nI u)].toArray below meth c 5 D zcl A 0 0 (MQ below (va_Qi (fun r w2 => r = nI (zco tg nu u nu) ∧ w2 = (wU hu u1 u2 u3 u4 u5 cA si we ki ap tg nu)) (zEnd D zcl A) A) [.ref hu, .int (nI u)].toArray s 0 0 A) (wU hu u1 u2 u3 u4 u5 cA si we ki ap tg nu) [(0, .ref hu), (1, .int (nI u)), (2, .int (nI (zco tg nu u r))), (3, .int (nI r))] 16 [] := by
    intro n
    induction n with
    | zero => intro r h1 h2; omega
    | succ n ih =>
      intro r hr1 hr3
      refine z_iload_n F dX3_companyOf_16 rfl ?_
      refine z_aload_n F dX3_companyOf_17 rfl ?_
      refine z_get (ci := 3) (C := RX3) (T := TX3) (N := 6) F 0 5 dX3_companyOf_18 inX3 kfX3_27 rfl rfl rfl (by decide) rfl ?_
      refine z_icmp_ge (tgt := 67) F dX3_companyOf_21 (by decide) (fun c21 => ?_) (fun c21 => ?_)
      · have ej := zge_end hr1 (by omega) c21
        refine z_iload_n F dX3_companyOf_67 rfl ?_
        exact z_iret F hr rfl hlk dX3_companyOf_68 ⟨by rw [ej], rfl⟩ (Nat.le_of_ble_eq_true rfl) (Nat.le_of_ble_eq_true rfl)
      · have hlt := zge_on (by omega) hr1 c21
        refine z_iconst (v := 0) F dX3_companyOf_24 (by decide) ?_
        refine z_istore F dX3_companyOf_25 (by decide) ?_
        have inner : ∀ (n2 v : Nat), v ≤ nu → nu + 1 ≤ v + n2 → zW p l e (headSpec (zws yX3_companyOf cX3_companyOf 5 (some .int)) { frames := 1, cells := 0, slots := 0, locals := 21 }).room s m [.ref hu, .int (nI u)].toArray below meth c 5 D zcl A 0 0 (MQ below (va_Qi (fun r w2 => r = nI (zco tg nu u nu) ∧ w2 = (wU hu u1 u2 u3 u4 u5 cA si we ki ap tg nu)) (zEnd D zcl A) A) [.ref hu, .int (nI u)].toArray s 0 0 A) (wU hu u1 u2 u3 u4 u5 cA si we ki ap tg nu) [(0, .ref hu), (1, .int (nI u)), (2, .int (nI (zci tg (zco tg nu u r) v))), (3, .int (nI r)), (4, .int (nI v))] 27 [] := by
          intro n2
          induction n2 with
          | zero => intro v h1 h2; omega
          | succ n2 ih2 =>
            intro v hv2 hv3
            refine z_iload F dX3_companyOf_27 rfl ?_
            refine z_aload_n F dX3_companyOf_29 rfl ?_
            refine z_get (ci := 3) (C := RX3) (T := TX3) (N := 6) F 0 5 dX3_companyOf_30 inX3 kfX3_27 rfl rfl rfl (by decide) rfl ?_
            refine z_icmp_ge (tgt := 61) F dX3_companyOf_33 (by decide) (fun c33 => ?_) (fun c33 => ?_)
            · have ev := zge_end hv2 (by omega) c33
              refine z_iinc (v := nI (r + 1)) F dX3_companyOf_61 rfl (nI_1 r) (by decide) ?_
              refine z_goto (tgt := 16) F dX3_companyOf_64 (by decide) ?_
              subst ev
              exact z_lv rfl (ih (r + 1) (by omega) (by omega))
            · have hlv := zge_on (by omega) hv2 c33
              refine z_iload_n F dX3_companyOf_36 rfl ?_
              refine z_iload F dX3_companyOf_37 rfl ?_
              refine z_callSNi0 F (c_holds (zci tg (zco tg nu u r) v) v (Nat.lt_trans (zci_lt hb (zco_lt hb (by omega) r) v) (by decide)) (by omega)) (zcnS F.2.2.2.2.1 kcX4_holds (nlX3_39 F.2.2.2.2.2.2.2.1) ktX4_holds knX4 hdX4_holds rfl rfl ⟨(Nat.le_of_ble_eq_true rfl), (Nat.le_of_ble_eq_true rfl)⟩) dX3_companyOf_39 rfl rfl (Nat.le_of_ble_eq_true rfl) ⟨(Nat.le_of_ble_eq_true rfl), (Nat.le_of_ble_eq_true rfl)⟩ ?_
              rintro r2 w2 ⟨rfl, rfl⟩
              refine z_if_eq (tgt := 55) F dX3_companyOf_42 (by decide) (fun c42 => ?_) (fun c42 => ?_)
              · refine z_iinc (v := nI (v + 1)) F dX3_companyOf_55 rfl (nI_1 v) (by decide) ?_
                refine z_goto (tgt := 27) F dX3_companyOf_58 (by decide) ?_
                have h9 := ih2 (v + 1) (by omega) (by omega)
                rw [zci_f (zB_0.mp c42)] at h9
                exact z_lv rfl h9
              · refine z_iload_n F dX3_companyOf_45 rfl ?_
                refine z_aload_n F dX3_companyOf_46 rfl ?_
                refine z_get (ci := 3) (C := RX3) (T := TX3) (N := 6) F 0 4 dX3_companyOf_47 inX3 kfX3_24 rfl rfl rfl (by decide) rfl ?_
                refine z_iload F dX3_companyOf_50 rfl ?_
                refine z_ialdN F 5 0 dX3_companyOf_52 rfl rfl rfl (Nat.lt_of_lt_of_le hlv hn) (by decide) ?_
                refine z_ior F dX3_companyOf_53 ?_
                refine z_topi (y := nI (zci tg (zco tg nu u r) v ||| tg v)) (zb_or _ _) ?_
                refine z_istore_n F dX3_companyOf_54 (by decide) ?_
                refine z_iinc (v := nI (v + 1)) F dX3_companyOf_55 rfl (nI_1 v) (by decide) ?_
                refine z_goto (tgt := 27) F dX3_companyOf_58 (by decide) ?_
                have h9 := ih2 (v + 1) (by omega) (by omega)
                rw [zci_t (zB_1.mp c42)] at h9
                exact z_lv rfl h9
        exact z_lv rfl (inner (nu + 1) 0 (by omega) (by omega))
  refine z_aload_n F dX3_companyOf_0 rfl ?_
  refine z_iload_n F dX3_companyOf_1 rfl ?_
  refine z_callVi0 F (c_U_has (nI u)) 0 rfl rfl (zcwV F.2.2.2.2.1 kcX3_has kmX3_35 kiX3_has ksX3_has knX3 hdX3_has rfl rfl ⟨(Nat.le_of_ble_eq_true rfl), (Nat.le_of_ble_eq_true rfl)⟩) dX3_companyOf_2 rfl rfl (Nat.le_of_ble_eq_true rfl) ⟨(Nat.le_of_ble_eq_true rfl), (Nat.le_of_ble_eq_true rfl)⟩ ?_
  rintro r w2 ⟨rfl, rfl⟩
  refine z_if_ne (tgt := 10) F dX3_companyOf_5 (by decide) (fun c5 => ?_) (fun c5 => ?_)
  · refine z_iconst (v := 1) F dX3_companyOf_10 (by decide) ?_
    refine z_iload_n F dX3_companyOf_11 rfl ?_
    refine z_ishl F dX3_companyOf_12 ?_
    refine z_topi (y := nI (2 ^ u)) (zb_shl1 u (by omega)) ?_
    refine z_istore_n F dX3_companyOf_13 (by decide) ?_
    refine z_iconst (v := 0) F dX3_companyOf_14 (by decide) ?_
    refine z_istore_n F dX3_companyOf_15 (by decide) ?_
    exact z_lv rfl (loop (nu + 1) 0 (by omega) (by omega))
  · exact absurd (zB_0.mp c5) (by rw [decide_eq_true ((zhas (by omega)).mpr ⟨u, hu2, rfl⟩)]; decide)
end
section
/-! ===== the choice and the search, on numbers ===== -/
/-- the first number below n that P holds of -/
def zfst (P : Nat → Bool) : Nat → Option Nat
  | 0 => none
  | n + 1 => match zfst P n with
    | some k => some k
    | none => bif P n then some n else none
theorem zfst_n {P : Nat → Bool} {n : Nat} (h : zfst P n = none) (hp : P n = false) : zfst P (n + 1) = none := by
  show (match zfst P n with | some k => some k | none => bif P n then some n else none) = none
  rw [h, hp]; rfl
theorem zfst_s {P : Nat → Bool} {n : Nat} (h : zfst P n = none) (hp : P n = true) : zfst P (n + 1) = some n := by
  show (match zfst P n with | some k => some k | none => bif P n then some n else none) = _
  rw [h, hp]; rfl
theorem zfst_k {P : Nat → Bool} {n k : Nat} (h : zfst P n = some k) : zfst P (n + 1) = some k := by
  show (match zfst P n with | some k => some k | none => bif P n then some n else none) = _
  rw [h]
theorem zfst_up {P : Nat → Bool} {j k : Nat} (h : zfst P j = some k) : ∀ d, zfst P (j + d) = some k
  | 0 => h
  | d + 1 => zfst_k (zfst_up h d)
theorem zfst_at {P : Nat → Bool} {j n : Nat} (h : zfst P j = none) (hp : P j = true) (hj : j < n) : zfst P n = some j := by
  have := zfst_up (zfst_s h hp) (n - (j + 1))
  rw [show j + 1 + (n - (j + 1)) = n by omega] at this
  exact this
/-- a store among numbers or nothing -/
def zuo (f : Nat → Option Nat) (k : Nat) (v : Option Nat) : Nat → Option Nat := fun j => if j = k then v else f j
theorem zuo_s {f : Nat → Option Nat} {k : Nat} {v : Option Nat} : zuo f k v k = v := if_pos rfl
theorem zuo_n {f : Nat → Option Nat} {k j : Nat} {v : Option Nat} (h : j ≠ k) : zuo f k v j = f j := if_neg h
theorem zuo_upd (f : Nat → Option Nat) (k : Nat) (v : Option Nat) : upd (fun j => zo (f j)) k (zo v) = fun j => zo (zuo f k v j) := by
  funext j
  unfold upd zuo
  by_cases h : j = k
  · rw [if_pos h, if_pos h]
  · rw [if_neg h, if_neg h]
section ZO
variable {p : Program} {l : Launch} {e : Env} {R : Room} {s : State} {m : MethodId} {args : Array Value} {below : List Frame} {meth : Method} {c : Code} {Q : State → Prop}
variable {cc : ByteArray} {nL cells slots pc : Nat} {D : va_G} {cl : List vw_C} {A : Nat → Prop} {tys : List (ClassId × FieldType)} {Ts : List Cond} {own : String} {G : State → (Nat → Prop) → Prop}
variable {ws : va_W} {lv : List (Nat × Value)} {st : List Value}
theorem z_iastO (F : zF p s m args c cc nL Ts own D cl tys A G) (q0 t0 : Nat) {a n j : Nat} {cA : ClassId} {f : Nat → Option Nat} {i x : Int32} (v : Option Nat) (hd : decode cc pc = .ok (.iastore, 1)) (he : ws[q0]? = some (a, .inl (cA, n, .inl (fun x => zo (f x))))) (ht : tys[t0]? = some (cA, .int)) (hi : i = nI j) (hj : j < n) (hn : n < 2 ^ 31) (hx : x = zo v)
    (kk : zW p l e R s m args below meth c nL D cl A cells slots Q (ws.set q0 (a, .inl (cA, n, .inl (fun x => zo (zuo f j v x))))) lv (pc + 1) st) : zW p l e R s m args below meth c nL D cl A cells slots Q ws lv pc (.int x :: .int i :: .ref a :: st) := by
  subst hx
  refine z_iast F q0 t0 hd he ht hi hj hn ?_
  rw [zuo_upd]
  exact kk
end ZO
/-- the first j places emptied -/
def zclr (f : Nat → Option Nat) (j : Nat) : Nat → Option Nat := fun x => if x < j then none else f x
theorem zclr_0 (f : Nat → Option Nat) : zclr f 0 = f := by funext x; simp [zclr]
theorem zclr_s (f : Nat → Option Nat) (j : Nat) : zuo (zclr f j) j none = zclr f (j + 1) := by
  funext x
  unfold zuo zclr
  by_cases h : x = j
  · rw [if_pos h, if_pos (by omega)]
  · rw [if_neg h]
    by_cases h2 : x < j
    · rw [if_pos h2, if_pos (by omega)]
    · rw [if_neg h2, if_neg (by omega)]
/-- whether the way by first f, at cost c with n boxes, is better than what is known of s -/
def zbet (ob lc : Nat → Option Nat) (fb fs : Nat → Nat) (s f c n : Nat) : Bool := match lc s with
  | none => true
  | some L => decide (c < L ∨ c = L ∧ (n < fb s ∨ n = fb s ∧ ((ob f).getD 0 < (ob (fs s)).getD 0 ∨ (ob f).getD 0 = (ob (fs s)).getD 0 ∧ f < fs s)))
abbrev zT : Type := (Nat → Option Nat) × (Nat → Nat) × (Nat → Nat)
/-- s is tried with the first set f -/
def ztry (ob : Nat → Option Nat) (oc : Nat → Nat) (s f : Nat) (t : zT) : zT := match t.1 (zd s f) with
  | none => t
  | some L => bif zbet ob t.1 t.2.1 t.2.2 s f (oc f + L) (1 + t.2.1 (zd s f)) then (zuo t.1 s (some (oc f + L)), zu t.2.1 s (1 + t.2.1 (zd s f)), zu t.2.2 s f) else t
/-- a loop's state at x, begun at lo with a -/
def zfr {α : Type} (step : Nat → α → α) (a : α) (lo : Nat) : Nat → α
  | 0 => a
  | n + 1 => if lo ≤ n then step n (zfr step a lo n) else a
theorem zfr_0 {α : Type} (step : Nat → α → α) (a : α) (lo : Nat) : ∀ n, n ≤ lo → zfr step a lo n = a
  | 0, _ => rfl
  | n + 1, h => by
    show (if lo ≤ n then _ else _) = _
    rw [if_neg (by omega)]
theorem zfr_s {α : Type} {step : Nat → α → α} {a : α} {lo n : Nat} (h : lo ≤ n) : zfr step a lo (n + 1) = step n (zfr step a lo n) := by
  show (if lo ≤ n then _ else _) = _
  rw [if_pos h]
/-- the lowest bit -/
def zlow (s : Nat) : Nat := s &&& (256 - s)
/-- what findBest does with a first set -/
def zfbs (ob : Nat → Option Nat) (oc : Nat → Nat) (s : Nat) (f : Nat) (t : zT) : zT :=
  bif decide (zd f s = 0) && (decide (¬ f &&& zlow s = 0) && (ob f).isSome) then ztry ob oc s f t else t
def zfnd (ob : Nat → Option Nat) (oc : Nat → Nat) (s : Nat) (t : zT) : zT := zfr (zfbs ob oc s) t (zlow s) (s + 1)
/-- the state of the search is sound -/
def zEok (ob : Nat → Option Nat) (oc : Nat → Nat) (t : zT) : Prop := (∀ x, oc x ≤ 1000) ∧ (∀ x b, ob x = some b → b < 6) ∧ ∀ x, x < 64 → ∀ L, t.1 x = some L → L ≤ 1000 * x ∧ t.2.1 x ≤ x ∧ (0 < x → t.2.2 x < 64 ∧ (ob (t.2.2 x)).isSome = true ∧ zd x (t.2.2 x) < x ∧ (t.1 (zd x (t.2.2 x))).isSome = true)
theorem ztry_ok {ob : Nat → Option Nat} {oc : Nat → Nat} {s f : Nat} {t : zT} (h : zEok ob oc t) (hs64 : s < 64) (hf : f < 64) (hs : zd s f < s) (ho : (ob f).isSome = true) : zEok ob oc (ztry ob oc s f t) := by
  obtain ⟨h1, h2, h3⟩ := h
  unfold ztry
  cases hr : t.1 (zd s f) with
  | none => exact ⟨h1, h2, h3⟩
  | some L =>
    have hL := h3 _ (by omega) _ hr
    show zEok ob oc (bif _ then _ else _)
    cases zbet ob t.1 t.2.1 t.2.2 s f (oc f + L) (1 + t.2.1 (zd s f)) with
    | false => exact ⟨h1, h2, h3⟩
    | true =>
      refine ⟨h1, h2, fun x hx64 L2 hx => ?_⟩
      have hx : zuo t.1 s (some (oc f + L)) x = some L2 := hx
      show L2 ≤ 1000 * x ∧ zu t.2.1 s (1 + t.2.1 (zd s f)) x ≤ x ∧ (0 < x → zu t.2.2 s f x < 64 ∧ (ob (zu t.2.2 s f x)).isSome = true ∧ zd x (zu t.2.2 s f x) < x ∧ (zuo t.1 s (some (oc f + L)) (zd x (zu t.2.2 s f x))).isSome = true)
      by_cases hxs : x = s
      · subst hxs
        rw [zuo_s] at hx
        cases hx
        rw [zu_s, zu_s]
        have := h1 f
        exact ⟨by omega, by omega, fun _ => ⟨hf, ho, hs, by rw [zuo_n (by omega), hr]; rfl⟩⟩
      · rw [zuo_n hxs] at hx
        rw [zu_n hxs, zu_n hxs]
        obtain ⟨g1, g2, g3⟩ := h3 x hx64 L2 hx
        refine ⟨g1, g2, fun h0 => ?_⟩
        obtain ⟨k1, k2, k3, k4⟩ := g3 h0
        refine ⟨k1, k2, k3, ?_⟩
        by_cases he : zd x (t.2.2 x) = s
        · rw [he, zuo_s]; rfl
        · rw [zuo_n he]; exact k4
theorem zd_lt {s f : Nat} (h : ¬ f &&& s = 0) : zd s f < s := by
  have h1 := zd_le s f
  rcases Nat.lt_or_ge (zd s f) s with h2 | h2
  · exact h2
  · exfalso
    have e : zd s f = s := Nat.le_antisymm h1 h2
    apply h
    apply Nat.eq_of_testBit_eq
    intro i
    rw [Nat.testBit_and, Nat.zero_testBit]
    have := zd_bit s f i
    rw [e] at this
    cases hs : s.testBit i <;> cases hf : f.testBit i <;> simp_all
theorem zlow_in : ∀ s, s < 64 → zlow s &&& s = zlow s ∧ (0 < s → 0 < zlow s ∧ zlow s ≤ s) := by decide +kernel
theorem zlow_meet {f s : Nat} (hs : s < 64) (h : ¬ f &&& zlow s = 0) : ¬ f &&& s = 0 := by
  intro q
  apply h
  rw [← (zlow_in s hs).1, Nat.and_comm (zlow s) s, ← Nat.and_assoc, q, Nat.zero_and]
theorem zfbs_ok {ob : Nat → Option Nat} {oc : Nat → Nat} {s f : Nat} {t : zT} (h : zEok ob oc t) (hs : s < 64) (hf : f < 64) : zEok ob oc (zfbs ob oc s f t) := by
  unfold zfbs
  by_cases hc : (decide (zd f s = 0) && (decide (¬ f &&& zlow s = 0) && (ob f).isSome)) = true
  · rw [hc]
    simp only [Bool.and_eq_true, decide_eq_true_eq] at hc
    exact ztry_ok h hs hf (zd_lt (zlow_meet hs hc.2.1)) hc.2.2
  · rw [Bool.not_eq_true] at hc
    rw [hc]
    exact h
theorem zfr_ok {α : Type} {step : Nat → α → α} {a : α} {lo : Nat} {I : α → Prop} (h0 : I a) : ∀ n, (∀ x b, x < n → I b → I (step x b)) → I (zfr step a lo n)
  | 0, _ => h0
  | n + 1, hs => by
    by_cases h : lo ≤ n
    · rw [zfr_s h]
      exact hs n _ (by omega) (zfr_ok h0 n (fun x b hx => hs x b (by omega)))
    · rw [zfr_0 step a lo (n + 1) (by omega)]
      exact h0
theorem zfnd_ok {ob : Nat → Option Nat} {oc : Nat → Nat} {s : Nat} {t : zT} (h : zEok ob oc t) (hs : s < 64) : zEok ob oc (zfnd ob oc s t) :=
  zfr_ok h _ (fun x b hx hb => zfbs_ok hb hs (by omega))
/-- taking the boxes of a way out, one after another: what is left, boxes, sets, how many, cost -/
abbrev zX : Type := Nat × (Nat → Nat) × (Nat → Nat) × Nat × Nat
def zexs (ob : Nat → Option Nat) (oc fs : Nat → Nat) (t : zX) : zX := (zd t.1 (fs t.1), zu t.2.1 t.2.2.2.1 ((ob (fs t.1)).getD 0), zu t.2.2.1 t.2.2.2.1 (fs t.1), t.2.2.2.1 + 1, t.2.2.2.2 + oc (fs t.1))
def zexn (ob : Nat → Option Nat) (oc fs : Nat → Nat) (t : zX) : Nat → zX
  | 0 => t
  | i + 1 => if 0 < (zexn ob oc fs t i).1 then zexs ob oc fs (zexn ob oc fs t i) else zexn ob oc fs t i
theorem zexn_t {ob : Nat → Option Nat} {oc fs : Nat → Nat} {t : zX} {i : Nat} (h : 0 < (zexn ob oc fs t i).1) : zexn ob oc fs t (i + 1) = zexs ob oc fs (zexn ob oc fs t i) := by
  show (if _ then _ else _) = _
  rw [if_pos h]
theorem zexn_f {ob : Nat → Option Nat} {oc fs : Nat → Nat} {t : zX} {i : Nat} (h : ¬ 0 < (zexn ob oc fs t i).1) : zexn ob oc fs t (i + 1) = zexn ob oc fs t i := by
  show (if _ then _ else _) = _
  rw [if_neg h]
theorem zexn_up {ob : Nat → Option Nat} {oc fs : Nat → Nat} {t : zX} {i : Nat} (h : ¬ 0 < (zexn ob oc fs t i).1) : ∀ d, zexn ob oc fs t (i + d) = zexn ob oc fs t i
  | 0 => rfl
  | d + 1 => by
    have e := zexn_up h d
    rw [show i + (d + 1) = (i + d) + 1 from rfl, zexn_f (by rw [e]; exact h), e]
theorem zexn_ok {ob : Nat → Option Nat} {oc : Nat → Nat} {t : zT} {x : zX} (h : zEok ob oc t) (hx : x.1 < 64) (hl : (t.1 x.1).isSome = true) : ∀ i, (zexn ob oc t.2.2 x i).1 < 64 ∧ (t.1 (zexn ob oc t.2.2 x i).1).isSome = true ∧ (zexn ob oc t.2.2 x i).2.2.2.1 ≤ x.2.2.2.1 + i
  | 0 => ⟨hx, hl, Nat.le_refl _⟩
  | i + 1 => by
    obtain ⟨h1, h2, h3⟩ := zexn_ok h hx hl i
    by_cases h0 : 0 < (zexn ob oc t.2.2 x i).1
    · rw [zexn_t h0]
      obtain ⟨L, hL⟩ := Option.isSome_iff_exists.mp h2
      obtain ⟨-, -, g⟩ := h.2.2 _ h1 _ hL
      obtain ⟨k1, k2, k3, k4⟩ := g h0
      exact ⟨Nat.lt_trans k3 h1, k4, by show _ + 1 ≤ _; omega⟩
    · rw [zexn_f h0]
      exact ⟨h1, h2, by omega⟩
theorem zbet_some {ob lc : Nat → Option Nat} {fb fs : Nat → Nat} {x f v k L b1 b2 : Nat} (hL : lc x = some L) (h1 : ob f = some b1) (h2 : ob (fs x) = some b2) : zbet ob lc fb fs x f v k = decide (v < L ∨ v = L ∧ (k < fb x ∨ k = fb x ∧ (b1 < b2 ∨ b1 = b2 ∧ f < fs x))) := by
  unfold zbet
  rw [hL, h1, h2]; rfl
theorem zbet_none {ob lc : Nat → Option Nat} {fb fs : Nat → Nat} {x f v k : Nat} (hL : lc x = none) : zbet ob lc fb fs x f v k = true := by
  unfold zbet
  rw [hL]
theorem ztry_none {ob : Nat → Option Nat} {oc : Nat → Nat} {x f : Nat} {t : zT} (h : t.1 (zd x f) = none) : ztry ob oc x f t = t := by
  unfold ztry
  rw [h]
theorem ztry_t {ob : Nat → Option Nat} {oc : Nat → Nat} {x f L : Nat} {t : zT} (h : t.1 (zd x f) = some L) (hb : zbet ob t.1 t.2.1 t.2.2 x f (oc f + L) (1 + t.2.1 (zd x f)) = true) : ztry ob oc x f t = (zuo t.1 x (some (oc f + L)), zu t.2.1 x (1 + t.2.1 (zd x f)), zu t.2.2 x f) := by
  unfold ztry
  rw [h]
  show (bif _ then _ else _) = _
  rw [hb]; rfl
theorem ztry_f {ob : Nat → Option Nat} {oc : Nat → Nat} {x f L : Nat} {t : zT} (h : t.1 (zd x f) = some L) (hb : zbet ob t.1 t.2.1 t.2.2 x f (oc f + L) (1 + t.2.1 (zd x f)) = false) : ztry ob oc x f t = t := by
  unfold ztry
  rw [h]
  show (bif _ then _ else _) = _
  rw [hb]; rfl
/-- the search with its three tables as one -/
def wT (he e1 e2 e3 e4 e5 : Nat) (cA : ClassId) (ob : Nat → Option Nat) (oc : Nat → Nat) (t : zT) : va_W := wE he e1 e2 e3 e4 e5 cA ob oc t.1 t.2.1 t.2.2
/-- all sets up to y searched -/
def zall (ob : Nat → Option Nat) (oc : Nat → Nat) (y : Nat) (t : zT) : zT := zfr (zfnd ob oc) t 1 (y + 1)
theorem zall_ok {ob : Nat → Option Nat} {oc : Nat → Nat} {t : zT} (h : zEok ob oc t) {y : Nat} (hy : y ≤ 64) : zEok ob oc (zfr (zfnd ob oc) t 1 y) := zfr_ok h _ (fun x b hx hb => zfnd_ok hb (by omega))
theorem zo_n1 {o : Option Nat} (h : o = none) : zo o = -1 := by rw [h]; rfl
theorem zo_s1 {o : Option Nat} {v : Nat} (h : o = some v) : zo o = nI v := by rw [h]; rfl
theorem zo_g {o : Option Nat} (h : o.isSome = true) : zo o = nI (o.getD 0) := by
  obtain ⟨v, rfl⟩ := Option.isSome_iff_exists.mp h
  rfl
theorem zi_ne (v : Nat) (h : v < 2 ^ 31) : ¬ nI v = -1 := zo_ne h
theorem zo_isn {o : Option Nat} (h : zo o = -1) (hb : ∀ b, o = some b → b < 2 ^ 31) : o.isSome = false := by
  cases o with
  | none => rfl
  | some b => exact absurd h (zo_ne (hb b rfl))
theorem zo_iss {o : Option Nat} (h : ¬ zo o = -1) : o.isSome = true := by
  cases o with
  | none => exact absurd rfl h
  | some b => rfl
end
section
set_option maxHeartbeats 4000000 in
set_option maxRecDepth 100000 in
/-- Choice.clear -/
theorem c_H_clear {l : Launch} {D : va_G} {tys : List (ClassId × FieldType)} {hd d1 d2 : Nat} {cA : ClassId} {bn us : Nat → Nat} {nh ct : Nat} {mk ex : Bool} : zMv l yX1_clear (zws yX1_clear cX1_clear 1 none) { frames := 0, cells := 0, slots := 0, locals := 0 } D zcl ((cA, .int) :: tys) zG [.ref hd] (wH hd d1 d2 cA bn us nh ct mk ex) (fun w2 => w2 = wH hd d1 d2 cA bn us 0 0 false false) 0 0 := by
  refine z_ofv (cc := cX1_clear) (maxL := 1) (ret := none) (by decide) rfl (Nat.le_of_ble_eq_true rfl) ?_
  intro p e s m below meth c A F hr hlk hnm
  refine z_aload_n F dX1_clear_0 rfl ?_
  refine z_iconst (v := 0) F dX1_clear_1 (by decide) ?_
  refine z_put (ci := 1) (C := RX1) (T := TX1) (N := 6) (ty := .int) F 0 2 dX1_clear_2 inX1 tyX1 tyX1_ok nmX1 kfX1_18 rfl rfl rfl (by decide) rfl (by decide +kernel) rfl rfl (Nat.le_of_ble_eq_true rfl) ?_
  refine z_aload_n F dX1_clear_5 rfl ?_
  refine z_iconst (v := 0) F dX1_clear_6 (by decide) ?_
  refine z_put (ci := 1) (C := RX1) (T := TX1) (N := 6) (ty := .int) F 0 3 dX1_clear_7 inX1 tyX1 tyX1_ok nmX1 kfX1_22 rfl rfl rfl (by decide) rfl (by decide +kernel) rfl rfl (Nat.le_of_ble_eq_true rfl) ?_
  refine z_aload_n F dX1_clear_10 rfl ?_
  refine z_iconst (v := 0) F dX1_clear_11 (by decide) ?_
  refine z_put (ci := 1) (C := RX1) (T := TX1) (N := 6) (ty := .boolean) F 0 4 dX1_clear_12 inX1 tyX1 tyX1_ok nmX1 kfX1_25 rfl rfl rfl (by decide) rfl (by decide +kernel) rfl rfl (Nat.le_of_ble_eq_true rfl) ?_
  refine z_aload_n F dX1_clear_15 rfl ?_
  refine z_iconst (v := 0) F dX1_clear_16 (by decide) ?_
  refine z_put (ci := 1) (C := RX1) (T := TX1) (N := 6) (ty := .boolean) F 0 5 dX1_clear_17 inX1 tyX1 tyX1_ok nmX1 kfX1_29 rfl rfl rfl (by decide) rfl (by decide +kernel) rfl rfl (Nat.le_of_ble_eq_true rfl) ?_
  exact z_vret F hr hlk dX1_clear_20 rfl (Nat.le_of_ble_eq_true rfl) (Nat.le_of_ble_eq_true rfl)

set_option maxHeartbeats 4000000 in
set_option maxRecDepth 100000 in
/-- Choice.finish -/
theorem c_H_finish {l : Launch} {D : va_G} {tys : List (ClassId × FieldType)} {hd d1 d2 : Nat} {cA : ClassId} {bn us : Nat → Nat} {nh ct : Nat} {mk ex : Bool} (b : Bool) : zMv l yX1_finish (zws yX1_finish cX1_finish 2 none) { frames := 0, cells := 0, slots := 0, locals := 0 } D zcl ((cA, .int) :: tys) zG [.ref hd, .int (zB b)] (wH hd d1 d2 cA bn us nh ct mk ex) (fun w2 => w2 = wH hd d1 d2 cA bn us nh ct true b) 0 0 := by
  refine z_ofv (cc := cX1_finish) (maxL := 2) (ret := none) (by decide) rfl (Nat.le_of_ble_eq_true rfl) ?_
  intro p e s m below meth c A F hr hlk hnm
  refine z_aload_n F dX1_finish_0 rfl ?_
  refine z_iconst (v := 1) F dX1_finish_1 (by decide) ?_
  refine z_put (ci := 1) (C := RX1) (T := TX1) (N := 6) (ty := .boolean) F 0 4 dX1_finish_2 inX1 tyX1 tyX1_ok nmX1 kfX1_25 rfl rfl rfl (by decide) rfl (by decide +kernel) rfl rfl (Nat.le_of_ble_eq_true rfl) ?_
  refine z_aload_n F dX1_finish_5 rfl ?_
  refine z_iload_n F dX1_finish_6 rfl ?_
  refine z_put (ci := 1) (C := RX1) (T := TX1) (N := 6) (ty := .boolean) F 0 5 dX1_finish_7 inX1 tyX1 tyX1_ok nmX1 kfX1_29 rfl rfl rfl (by decide) rfl (by decide +kernel) (zB_nar b) (zB_fit b) (Nat.le_of_ble_eq_true rfl) ?_
  exact z_vret F hr hlk dX1_finish_10 rfl (Nat.le_of_ble_eq_true rfl) (Nat.le_of_ble_eq_true rfl)

set_option maxHeartbeats 4000000 in
set_option maxRecDepth 100000 in
/-- Choice.has -/
theorem c_H_has {l : Launch} {D : va_G} {tys : List (ClassId × FieldType)} {hd d1 d2 : Nat} {cA : ClassId} {bn us : Nat → Nat} {nh ct : Nat} {mk ex : Bool} (b : Int32) : zMi l yX1_has (zws yX1_has cX1_has 2 (some .boolean)) { frames := 0, cells := 0, slots := 0, locals := 0 } D zcl ((cA, .int) :: tys) zG [.ref hd, .int b] (wH hd d1 d2 cA bn us nh ct mk ex) (fun r w2 => r = zB (decide (0 ≤ b ∧ b < nI nh)) ∧ w2 = (wH hd d1 d2 cA bn us nh ct mk ex)) 0 0 := by
  refine z_ofi (cc := cX1_has) (maxL := 2) (ret := (some .boolean)) (by decide) rfl (Nat.le_of_ble_eq_true rfl) ?_
  intro p e s m below meth c A F hr hlk hnm
  refine z_iload_n F dX1_has_0 rfl ?_
  refine z_if_lt (tgt := 16) F dX1_has_1 (by decide) (fun c1 => ?_) (fun c1 => ?_)
  · refine z_iconst (v := 0) F dX1_has_16 (by decide) ?_
    exact z_iret F hr rfl hlk dX1_has_17 ⟨zhas_f (fun q => zlt_nge c1 q.1), rfl⟩ (Nat.le_of_ble_eq_true rfl) (Nat.le_of_ble_eq_true rfl)
  · refine z_iload_n F dX1_has_4 rfl ?_
    refine z_aload_n F dX1_has_5 rfl ?_
    refine z_get (ci := 1) (C := RX1) (T := TX1) (N := 6) F 0 2 dX1_has_6 inX1 kfX1_18 rfl rfl rfl (by decide) rfl ?_
    refine z_icmp_ge (tgt := 16) F dX1_has_9 (by decide) (fun c9 => ?_) (fun c9 => ?_)
    · refine z_iconst (v := 0) F dX1_has_16 (by decide) ?_
      exact z_iret F hr rfl hlk dX1_has_17 ⟨zhas_f (fun q => zlt_nge q.2 c9), rfl⟩ (Nat.le_of_ble_eq_true rfl) (Nat.le_of_ble_eq_true rfl)
    · refine z_iconst (v := 1) F dX1_has_12 (by decide) ?_
      refine z_goto (tgt := 17) F dX1_has_13 (by decide) ?_
      exact z_iret F hr rfl hlk dX1_has_17 ⟨zhas_t ⟨znlt_ge c1, znle_lt c9⟩, rfl⟩ (Nat.le_of_ble_eq_true rfl) (Nat.le_of_ble_eq_true rfl)

set_option maxHeartbeats 4000000 in
set_option maxRecDepth 100000 in
/-- Choice.append -/
theorem c_H_append {l : Launch} {D : va_G} {tys : List (ClassId × FieldType)} {hd d1 d2 : Nat} {cA : ClassId} {bn us : Nat → Nat} {nh ct : Nat} {mk ex : Bool} (hn : nh < 8) (b u v : Nat) : zMv l yX1_append (zws yX1_append cX1_append 4 none) { frames := 0, cells := 0, slots := 0, locals := 0 } D zcl ((cA, .int) :: tys) zG [.ref hd, .int (nI b), .int (nI u), .int (nI v)] (wH hd d1 d2 cA bn us nh ct mk ex) (fun w2 => w2 = wH hd d1 d2 cA (zu bn nh b) (zu us nh u) (nh + 1) (ct + v) mk ex) 0 0 := by
  refine z_ofv (cc := cX1_append) (maxL := 4) (ret := none) (by decide) rfl (Nat.le_of_ble_eq_true rfl) ?_
  intro p e s m below meth c A F hr hlk hnm
  refine z_aload_n F dX1_append_0 rfl ?_
  refine z_get (ci := 1) (C := RX1) (T := TX1) (N := 6) F 0 2 dX1_append_1 inX1 kfX1_18 rfl rfl rfl (by decide) rfl ?_
  refine z_bipush (v := 8) F dX1_append_4 (by decide) ?_
  refine z_icmp_lt (tgt := 10) F dX1_append_6 (by decide) (fun c6 => ?_) (fun c6 => ?_)
  · refine z_aload_n F dX1_append_10 rfl ?_
    refine z_get (ci := 1) (C := RX1) (T := TX1) (N := 6) F 0 0 dX1_append_11 inX1 kfX1_9 rfl rfl rfl (by decide) rfl ?_
    refine z_aload_n F dX1_append_14 rfl ?_
    refine z_get (ci := 1) (C := RX1) (T := TX1) (N := 6) F 0 2 dX1_append_15 inX1 kfX1_18 rfl rfl rfl (by decide) rfl ?_
    refine z_iload_n F dX1_append_18 rfl ?_
    refine z_iastN F 1 0 _ dX1_append_19 rfl rfl rfl hn (by decide) rfl ?_
    refine z_aload_n F dX1_append_20 rfl ?_
    refine z_get (ci := 1) (C := RX1) (T := TX1) (N := 6) F 0 1 dX1_append_21 inX1 kfX1_15 rfl rfl rfl (by decide) rfl ?_
    refine z_aload_n F dX1_append_24 rfl ?_
    refine z_get (ci := 1) (C := RX1) (T := TX1) (N := 6) F 0 2 dX1_append_25 inX1 kfX1_18 rfl rfl rfl (by decide) rfl ?_
    refine z_iload_n F dX1_append_28 rfl ?_
    refine z_iastN F 2 0 _ dX1_append_29 rfl rfl rfl hn (by decide) rfl ?_
    refine z_aload_n F dX1_append_30 rfl ?_
    refine z_dup F dX1_append_31 rfl ?_
    refine z_get (ci := 1) (C := RX1) (T := TX1) (N := 6) F 0 2 dX1_append_32 inX1 kfX1_18 rfl rfl rfl (by decide) rfl ?_
    refine z_iconst (v := 1) F dX1_append_35 (by decide) ?_
    refine z_iadd F dX1_append_36 ?_
    refine z_topi (y := nI (nh + 1)) (nI_1 nh) ?_
    refine z_put (ci := 1) (C := RX1) (T := TX1) (N := 6) (ty := .int) F 0 2 dX1_append_37 inX1 tyX1 tyX1_ok nmX1 kfX1_18 rfl rfl rfl (by decide) rfl (by decide +kernel) rfl rfl (Nat.le_of_ble_eq_true rfl) ?_
    refine z_aload_n F dX1_append_40 rfl ?_
    refine z_dup F dX1_append_41 rfl ?_
    refine z_get (ci := 1) (C := RX1) (T := TX1) (N := 6) F 0 3 dX1_append_42 inX1 kfX1_22 rfl rfl rfl (by decide) rfl ?_
    refine z_iload_n F dX1_append_45 rfl ?_
    refine z_iadd F dX1_append_46 ?_
    refine z_topi (y := nI (ct + v)) (nI_add _ _) ?_
    refine z_put (ci := 1) (C := RX1) (T := TX1) (N := 6) (ty := .int) F 0 3 dX1_append_47 inX1 tyX1 tyX1_ok nmX1 kfX1_22 rfl rfl rfl (by decide) rfl (by decide +kernel) rfl rfl (Nat.le_of_ble_eq_true rfl) ?_
    exact z_vret F hr hlk dX1_append_50 rfl (Nat.le_of_ble_eq_true rfl) (Nat.le_of_ble_eq_true rfl)
  · exact absurd (nI_lt hn (by omega)) c6

set_option maxHeartbeats 4000000 in
set_option maxRecDepth 100000 in
/-- Choice.replaceSet -/
theorem c_H_replaceSet {l : Launch} {D : va_G} {tys : List (ClassId × FieldType)} {hd d1 d2 : Nat} {cA : ClassId} {bn us : Nat → Nat} {nh ct : Nat} {mk ex : Bool} (hn : nh ≤ 8) (i v : Nat) (hi : i < nh) : zMv l yX1_replaceSet (zws yX1_replaceSet cX1_replaceSet 3 none) { frames := 1, cells := 0, slots := 0, locals := 21 } D zcl ((cA, .int) :: tys) zG [.ref hd, .int (nI i), .int (nI v)] (wH hd d1 d2 cA bn us nh ct mk ex) (fun w2 => w2 = wH hd d1 d2 cA bn (zu us i v) nh ct mk ex) 0 0 := by
  refine z_ofv (cc := cX1_replaceSet) (maxL := 3) (ret := none) (by decide) rfl (Nat.le_of_ble_eq_true rfl) ?_
  intro p e s m below meth c A F hr hlk hnm
  refine z_aload_n F dX1_replaceSet_0 rfl ?_
  refine z_iload_n F dX1_replaceSet_1 rfl ?_
  refine z_callVi0 F (c_H_has (nI i)) 0 rfl rfl (zcwV F.2.2.2.2.1 kcX1_has kmX1_32 kiX1_has ksX1_has knX1 hdX1_has rfl rfl ⟨(Nat.le_of_ble_eq_true rfl), (Nat.le_of_ble_eq_true rfl)⟩) dX1_replaceSet_2 rfl rfl (Nat.le_of_ble_eq_true rfl) ⟨(Nat.le_of_ble_eq_true rfl), (Nat.le_of_ble_eq_true rfl)⟩ ?_
  rintro r w2 ⟨rfl, rfl⟩
  refine z_if_eq (tgt := 15) F dX1_replaceSet_5 (by decide) (fun c5 => ?_) (fun c5 => ?_)
  · exact absurd (zB_0.mp c5) (by rw [decide_eq_true ((zhas (by omega)).mpr ⟨i, hi, rfl⟩)]; decide)
  · refine z_aload_n F dX1_replaceSet_8 rfl ?_
    refine z_get (ci := 1) (C := RX1) (T := TX1) (N := 6) F 0 1 dX1_replaceSet_9 inX1 kfX1_15 rfl rfl rfl (by decide) rfl ?_
    refine z_iload_n F dX1_replaceSet_12 rfl ?_
    refine z_iload_n F dX1_replaceSet_13 rfl ?_
    refine z_iastN F 2 0 _ dX1_replaceSet_14 rfl rfl rfl (Nat.lt_of_lt_of_le hi hn) (by decide) rfl ?_
    exact z_vret F hr hlk dX1_replaceSet_15 rfl (Nat.le_of_ble_eq_true rfl) (Nat.le_of_ble_eq_true rfl)

set_option maxHeartbeats 4000000 in
set_option maxRecDepth 100000 in
/-- Choice.boxAt -/
theorem c_H_boxAt {l : Launch} {D : va_G} {tys : List (ClassId × FieldType)} {hd d1 d2 : Nat} {cA : ClassId} {bn us : Nat → Nat} {nh ct : Nat} {mk ex : Bool} (hn : nh ≤ 8) (i : Nat) (hi : i < nh) : zMi l yX1_boxAt (zws yX1_boxAt cX1_boxAt 2 (some .int)) { frames := 1, cells := 0, slots := 0, locals := 21 } D zcl ((cA, .int) :: tys) zG [.ref hd, .int (nI i)] (wH hd d1 d2 cA bn us nh ct mk ex) (fun r w2 => r = nI (bn i) ∧ w2 = (wH hd d1 d2 cA bn us nh ct mk ex)) 0 0 := by
  refine z_ofi (cc := cX1_boxAt) (maxL := 2) (ret := (some .int)) (by decide) rfl (Nat.le_of_ble_eq_true rfl) ?_
  intro p e s m below meth c A F hr hlk hnm
  refine z_aload_n F dX1_boxAt_0 rfl ?_
  refine z_iload_n F dX1_boxAt_1 rfl ?_
  refine z_callVi0 F (c_H_has (nI i)) 0 rfl rfl (zcwV F.2.2.2.2.1 kcX1_has kmX1_32 kiX1_has ksX1_has knX1 hdX1_has rfl rfl ⟨(Nat.le_of_ble_eq_true rfl), (Nat.le_of_ble_eq_true rfl)⟩) dX1_boxAt_2 rfl rfl (Nat.le_of_ble_eq_true rfl) ⟨(Nat.le_of_ble_eq_true rfl), (Nat.le_of_ble_eq_true rfl)⟩ ?_
  rintro r w2 ⟨rfl, rfl⟩
  refine z_if_eq (tgt := 17) F dX1_boxAt_5 (by decide) (fun c5 => ?_) (fun c5 => ?_)
  · exact absurd (zB_0.mp c5) (by rw [decide_eq_true ((zhas (by omega)).mpr ⟨i, hi, rfl⟩)]; decide)
  · refine z_aload_n F dX1_boxAt_8 rfl ?_
    refine z_get (ci := 1) (C := RX1) (T := TX1) (N := 6) F 0 0 dX1_boxAt_9 inX1 kfX1_9 rfl rfl rfl (by decide) rfl ?_
    refine z_iload_n F dX1_boxAt_12 rfl ?_
    refine z_ialdN F 1 0 dX1_boxAt_13 rfl rfl rfl (Nat.lt_of_lt_of_le hi hn) (by decide) ?_
    refine z_goto (tgt := 18) F dX1_boxAt_14 (by decide) ?_
    exact z_iret F hr rfl hlk dX1_boxAt_18 ⟨rfl, rfl⟩ (Nat.le_of_ble_eq_true rfl) (Nat.le_of_ble_eq_true rfl)

set_option maxHeartbeats 4000000 in
set_option maxRecDepth 100000 in
/-- Choice.setAt -/
theorem c_H_setAt {l : Launch} {D : va_G} {tys : List (ClassId × FieldType)} {hd d1 d2 : Nat} {cA : ClassId} {bn us : Nat → Nat} {nh ct : Nat} {mk ex : Bool} (hn : nh ≤ 8) (i : Nat) (hi : i < nh) : zMi l yX1_setAt (zws yX1_setAt cX1_setAt 2 (some .int)) { frames := 1, cells := 0, slots := 0, locals := 21 } D zcl ((cA, .int) :: tys) zG [.ref hd, .int (nI i)] (wH hd d1 d2 cA bn us nh ct mk ex) (fun r w2 => r = nI (us i) ∧ w2 = (wH hd d1 d2 cA bn us nh ct mk ex)) 0 0 := by
  refine z_ofi (cc := cX1_setAt) (maxL := 2) (ret := (some .int)) (by decide) rfl (Nat.le_of_ble_eq_true rfl) ?_
  intro p e s m below meth c A F hr hlk hnm
  refine z_aload_n F dX1_setAt_0 rfl ?_
  refine z_iload_n F dX1_setAt_1 rfl ?_
  refine z_callVi0 F (c_H_has (nI i)) 0 rfl rfl (zcwV F.2.2.2.2.1 kcX1_has kmX1_32 kiX1_has ksX1_has knX1 hdX1_has rfl rfl ⟨(Nat.le_of_ble_eq_true rfl), (Nat.le_of_ble_eq_true rfl)⟩) dX1_setAt_2 rfl rfl (Nat.le_of_ble_eq_true rfl) ⟨(Nat.le_of_ble_eq_true rfl), (Nat.le_of_ble_eq_true rfl)⟩ ?_
  rintro r w2 ⟨rfl, rfl⟩
  refine z_if_eq (tgt := 17) F dX1_setAt_5 (by decide) (fun c5 => ?_) (fun c5 => ?_)
  · exact absurd (zB_0.mp c5) (by rw [decide_eq_true ((zhas (by omega)).mpr ⟨i, hi, rfl⟩)]; decide)
  · refine z_aload_n F dX1_setAt_8 rfl ?_
    refine z_get (ci := 1) (C := RX1) (T := TX1) (N := 6) F 0 1 dX1_setAt_9 inX1 kfX1_15 rfl rfl rfl (by decide) rfl ?_
    refine z_iload_n F dX1_setAt_12 rfl ?_
    refine z_ialdN F 2 0 dX1_setAt_13 rfl rfl rfl (Nat.lt_of_lt_of_le hi hn) (by decide) ?_
    refine z_goto (tgt := 18) F dX1_setAt_14 (by decide) ?_
    exact z_iret F hr rfl hlk dX1_setAt_18 ⟨rfl, rfl⟩ (Nat.le_of_ble_eq_true rfl) (Nat.le_of_ble_eq_true rfl)

set_option maxHeartbeats 4000000 in
set_option maxRecDepth 100000 in
/-- Choice.holderOf -/
theorem c_H_holderOf {l : Launch} {D : va_G} {tys : List (ClassId × FieldType)} {hd d1 d2 : Nat} {cA : ClassId} {bn us : Nat → Nat} {nh ct : Nat} {mk ex : Bool} (hn : nh ≤ 8) (hb : ∀ x, us x < 2 ^ 31) (u : Nat) (hu : u < 32) : zMi l yX1_holderOf (zws yX1_holderOf cX1_holderOf 3 (some .int)) { frames := 1, cells := 0, slots := 0, locals := 21 } D zcl ((cA, .int) :: tys) zG [.ref hd, .int (nI u)] (wH hd d1 d2 cA bn us nh ct mk ex) (fun r w2 => r = zo (zfst (fun x => (us x).testBit u) nh) ∧ w2 = (wH hd d1 d2 cA bn us nh ct mk ex)) 0 0 := by
  refine z_ofi (cc := cX1_holderOf) (maxL := 3) (ret := (some .int)) (by decide) rfl (Nat.le_of_ble_eq_true rfl) ?_
  intro p e s m below meth c A F hr hlk hnm
  have loop : ∀ (n j : Nat), j ≤ nh → nh + 1 ≤ j + n → zfst (fun x => (us x).testBit u) j = none → zW p l e (headSpec (zws yX1_holderOf cX1_holderOf 3 (some .int)) { frames := 1, cells := 0, slots := 0, locals := 21 }).room s m [.ref hd, .int (nI u)].toArray below meth c 3 D zcl A 0 0 (MQ below (va_Qi (fun r w2 => r = zo (zfst (fun x => (us x).testBit u) nh) ∧ w2 = (wH hd d1 d2 cA bn us nh ct mk ex)) (zEnd D zcl A) A) [.ref hd, .int (nI u)].toArray s 0 0 A) (wH hd d1 d2 cA bn us nh ct mk ex) [(0, .ref hd), (1, .int (nI u)), (2, .int (nI j))] 2 [] := by
    intro n
    induction n with
    | zero => intro j h1 h2; omega
    | succ n ih =>
      intro j hj1 hj2 hz
      refine z_iload_n F dX1_holderOf_2 rfl ?_
      refine z_aload_n F dX1_holderOf_3 rfl ?_
      refine z_get (ci := 1) (C := RX1) (T := TX1) (N := 6) F 0 2 dX1_holderOf_4 inX1 kfX1_18 rfl rfl rfl (by decide) rfl ?_
      refine z_icmp_ge (tgt := 31) F dX1_holderOf_7 (by decide) (fun c7 => ?_) (fun c7 => ?_)
      · have ej := zge_end hj1 (by omega) c7
        refine z_iconst (v := (-1)) F dX1_holderOf_31 (by decide) ?_
        exact z_iret F hr rfl hlk dX1_holderOf_32 ⟨by rw [← ej, hz]; rfl, rfl⟩ (Nat.le_of_ble_eq_true rfl) (Nat.le_of_ble_eq_true rfl)
      · have hlt := zge_on (by omega) hj1 c7
        refine z_aload_n F dX1_holderOf_10 rfl ?_
        refine z_get (ci := 1) (C := RX1) (T := TX1) (N := 6) F 0 1 dX1_holderOf_11 inX1 kfX1_15 rfl rfl rfl (by decide) rfl ?_
        refine z_iload_n F dX1_holderOf_14 rfl ?_
        refine z_ialdN F 2 0 dX1_holderOf_15 rfl rfl rfl (Nat.lt_of_lt_of_le hlt hn) (by decide) ?_
        refine z_iload_n F dX1_holderOf_16 rfl ?_
        refine z_callSNi0 F (c_holds (us j) u (hb j) hu) (zcnS F.2.2.2.2.1 kcX4_holds (nlX1_36 F.2.2.2.2.2.2.2.1) ktX4_holds knX4 hdX4_holds rfl rfl ⟨(Nat.le_of_ble_eq_true rfl), (Nat.le_of_ble_eq_true rfl)⟩) dX1_holderOf_17 rfl rfl (Nat.le_of_ble_eq_true rfl) ⟨(Nat.le_of_ble_eq_true rfl), (Nat.le_of_ble_eq_true rfl)⟩ ?_
        rintro r w2 ⟨rfl, rfl⟩
        refine z_if_eq (tgt := 25) F dX1_holderOf_20 (by decide) (fun c20 => ?_) (fun c20 => ?_)
        · refine z_iinc (v := nI (j + 1)) F dX1_holderOf_25 rfl (nI_1 j) (by decide) ?_
          refine z_goto (tgt := 2) F dX1_holderOf_28 (by decide) ?_
          exact z_lv rfl (ih (j + 1) (by omega) (by omega) (zfst_n hz (zB_0.mp c20)))
        · refine z_iload_n F dX1_holderOf_23 rfl ?_
          exact z_iret F hr rfl hlk dX1_holderOf_24 ⟨by rw [zfst_at hz (zB_1.mp c20) hlt]; rfl, rfl⟩ (Nat.le_of_ble_eq_true rfl) (Nat.le_of_ble_eq_true rfl)
  refine z_iconst (v := 0) F dX1_holderOf_0 (by decide) ?_
  refine z_istore_n F dX1_holderOf_1 (by decide) ?_
  exact z_lv rfl (loop (nh + 1) 0 (by omega) (by omega) rfl)
end
section
set_option maxHeartbeats 4000000 in
set_option maxRecDepth 100000 in
/-- ExactSearch.clear -/
theorem c_E_clear {l : Launch} {D : va_G} {tys : List (ClassId × FieldType)} {he e1 e2 e3 e4 e5 : Nat} {cA : ClassId} {ob : Nat → Option Nat} {oc : Nat → Nat} {lc : Nat → Option Nat} {fb fs : Nat → Nat} : zMv l yX2_clear (zws yX2_clear cX2_clear 2 none) { frames := 0, cells := 0, slots := 0, locals := 0 } D zcl ((cA, .int) :: tys) zG [.ref he] (wE he e1 e2 e3 e4 e5 cA ob oc lc fb fs) (fun w2 => w2 = (wE he e1 e2 e3 e4 e5 cA (zclr ob 64) oc (zuo (zclr lc 64) 0 (some 0)) (zu fb 0 0) fs)) 0 0 := by
  refine z_ofv (cc := cX2_clear) (maxL := 2) (ret := none) (by decide) rfl (Nat.le_of_ble_eq_true rfl) ?_
  intro p e s m below meth c A F hr hlk hnm
  have loop : ∀ (n j : Nat), j ≤ 64 → 64 + 1 ≤ j + n → zW p l e (headSpec (zws yX2_clear cX2_clear 2 none) { frames := 0, cells := 0, slots := 0, locals := 0 }).room s m [.ref he].toArray below meth c 2 D zcl A 0 0 (MQ below (va_Qv (fun w2 => w2 = (wE he e1 e2 e3 e4 e5 cA (zclr ob 64) oc (zuo (zclr lc 64) 0 (some 0)) (zu fb 0 0) fs)) (zEnd D zcl A) A) [.ref he].toArray s 0 0 A) (wE he e1 e2 e3 e4 e5 cA (zclr ob j) oc (zclr lc j) fb fs) [(0, .ref he), (1, .int (nI j))] 2 [] := by
    intro n
    induction n with
    | zero => intro j h1 h2; omega
    | succ n ih =>
      intro j hj1 hj2
      refine z_iload_n F dX2_clear_2 rfl ?_
      refine z_bipush (v := 64) F dX2_clear_3 (by decide) ?_
      refine z_icmp_ge (tgt := 28) F dX2_clear_5 (by decide) (fun c5 => ?_) (fun c5 => ?_)
      · have ej : j = 64 := zge_end hj1 (by omega) c5
        subst ej
        refine z_aload_n F dX2_clear_28 rfl ?_
        refine z_get (ci := 2) (C := RX2) (T := TX2) (N := 5) F 0 2 dX2_clear_29 inX2 kfX2_18 rfl rfl rfl (by decide) rfl ?_
        refine z_iconst (v := 0) F dX2_clear_32 (by decide) ?_
        refine z_iconst (v := 0) F dX2_clear_33 (by decide) ?_
        refine z_iastO F 3 0 (some 0) dX2_clear_34 rfl rfl rfl (by decide) (by decide) rfl ?_
        refine z_aload_n F dX2_clear_35 rfl ?_
        refine z_get (ci := 2) (C := RX2) (T := TX2) (N := 5) F 0 3 dX2_clear_36 inX2 kfX2_21 rfl rfl rfl (by decide) rfl ?_
        refine z_iconst (v := 0) F dX2_clear_39 (by decide) ?_
        refine z_iconst (v := 0) F dX2_clear_40 (by decide) ?_
        refine z_iastN F 4 0 0 dX2_clear_41 rfl rfl rfl (by decide) (by decide) rfl ?_
        exact z_vret F hr hlk dX2_clear_42 rfl (Nat.le_of_ble_eq_true rfl) (Nat.le_of_ble_eq_true rfl)
      · have hlt : j < 64 := zge_on (by omega) hj1 c5
        refine z_aload_n F dX2_clear_8 rfl ?_
        refine z_get (ci := 2) (C := RX2) (T := TX2) (N := 5) F 0 0 dX2_clear_9 inX2 kfX2_9 rfl rfl rfl (by decide) rfl ?_
        refine z_iload_n F dX2_clear_12 rfl ?_
        refine z_iconst (v := (-1)) F dX2_clear_13 (by decide) ?_
        refine z_iastO F 1 0 none dX2_clear_14 rfl rfl rfl hlt (by decide) rfl ?_
        refine z_aload_n F dX2_clear_15 rfl ?_
        refine z_get (ci := 2) (C := RX2) (T := TX2) (N := 5) F 0 2 dX2_clear_16 inX2 kfX2_18 rfl rfl rfl (by decide) rfl ?_
        refine z_iload_n F dX2_clear_19 rfl ?_
        refine z_iconst (v := (-1)) F dX2_clear_20 (by decide) ?_
        refine z_iastO F 3 0 none dX2_clear_21 rfl rfl rfl hlt (by decide) rfl ?_
        refine z_iinc (v := nI (j + 1)) F dX2_clear_22 rfl (nI_1 j) (by decide) ?_
        refine z_goto (tgt := 2) F dX2_clear_25 (by decide) ?_
        have h9 := ih (j + 1) (by omega) (by omega)
        rw [← zclr_s ob j, ← zclr_s lc j] at h9
        exact z_eq rfl rfl rfl rfl (z_lv rfl h9)
  refine z_iconst (v := 0) F dX2_clear_0 (by decide) ?_
  refine z_istore_n F dX2_clear_1 (by decide) ?_
  have h9 := loop 65 0 (by omega) (by omega)
  rw [zclr_0, zclr_0] at h9
  exact z_lv rfl h9

set_option maxHeartbeats 4000000 in
set_option maxRecDepth 100000 in
/-- ExactSearch.offer -/
theorem c_E_offer {l : Launch} {D : va_G} {tys : List (ClassId × FieldType)} {he e1 e2 e3 e4 e5 : Nat} {cA : ClassId} {ob : Nat → Option Nat} {oc : Nat → Nat} {lc : Nat → Option Nat} {fb fs : Nat → Nat} (x b v : Nat) (hx0 : 0 < x) (hx : x < 64) : zMv l yX2_offer (zws yX2_offer cX2_offer 4 none) { frames := 0, cells := 0, slots := 0, locals := 0 } D zcl ((cA, .int) :: tys) zG [.ref he, .int (nI x), .int (nI b), .int (nI v)] (wE he e1 e2 e3 e4 e5 cA ob oc lc fb fs) (fun w2 => w2 = wE he e1 e2 e3 e4 e5 cA (zuo ob x (some b)) (zu oc x v) lc fb fs) 0 0 := by
  refine z_ofv (cc := cX2_offer) (maxL := 4) (ret := none) (by decide) rfl (Nat.le_of_ble_eq_true rfl) ?_
  intro p e s m below meth c A F hr hlk hnm
  refine z_iload_n F dX2_offer_0 rfl ?_
  refine z_if_le (tgt := 24) F dX2_offer_1 (by decide) (fun c1 => ?_) (fun c1 => ?_)
  · exact absurd c1 (nI_nle hx0 (by omega))
  · refine z_iload_n F dX2_offer_4 rfl ?_
    refine z_bipush (v := 64) F dX2_offer_5 (by decide) ?_
    refine z_icmp_ge (tgt := 24) F dX2_offer_7 (by decide) (fun c7 => ?_) (fun c7 => ?_)
    · exact absurd c7 (nI_ge hx (by decide))
    · refine z_aload_n F dX2_offer_10 rfl ?_
      refine z_get (ci := 2) (C := RX2) (T := TX2) (N := 5) F 0 0 dX2_offer_11 inX2 kfX2_9 rfl rfl rfl (by decide) rfl ?_
      refine z_iload_n F dX2_offer_14 rfl ?_
      refine z_iload_n F dX2_offer_15 rfl ?_
      refine z_iastO F 1 0 (some b) dX2_offer_16 rfl rfl rfl hx (by decide) rfl ?_
      refine z_aload_n F dX2_offer_17 rfl ?_
      refine z_get (ci := 2) (C := RX2) (T := TX2) (N := 5) F 0 1 dX2_offer_18 inX2 kfX2_15 rfl rfl rfl (by decide) rfl ?_
      refine z_iload_n F dX2_offer_21 rfl ?_
      refine z_iload_n F dX2_offer_22 rfl ?_
      refine z_iastN F 2 0 _ dX2_offer_23 rfl rfl rfl hx (by decide) rfl ?_
      exact z_vret F hr hlk dX2_offer_24 rfl (Nat.le_of_ble_eq_true rfl) (Nat.le_of_ble_eq_true rfl)

set_option maxHeartbeats 4000000 in
set_option maxRecDepth 100000 in
/-- ExactSearch.isBetter -/
theorem c_E_isBetter {l : Launch} {D : va_G} {tys : List (ClassId × FieldType)} {he e1 e2 e3 e4 e5 : Nat} {cA : ClassId} {ob : Nat → Option Nat} {oc : Nat → Nat} {t : zT} (ok : zEok ob oc t) (x f v k : Nat) (hx0 : 0 < x) (hx : x < 64) (hf : f < 64) (ho : (ob f).isSome = true) (hv : v < 2 ^ 31) (hk : k < 2 ^ 31) : zMi l yX2_isBetter (zws yX2_isBetter cX2_isBetter 7 (some .boolean)) { frames := 0, cells := 0, slots := 0, locals := 0 } D zcl ((cA, .int) :: tys) zG [.ref he, .int (nI x), .int (nI f), .int (nI v), .int (nI k)] (wT he e1 e2 e3 e4 e5 cA ob oc t) (fun r w2 => r = zB (zbet ob t.1 t.2.1 t.2.2 x f v k) ∧ w2 = (wT he e1 e2 e3 e4 e5 cA ob oc t)) 0 0 := by
  refine z_ofi (cc := cX2_isBetter) (maxL := 7) (ret := (some .boolean)) (by decide) rfl (Nat.le_of_ble_eq_true rfl) ?_
  intro p e s m below meth c A F hr hlk hnm
  rcases hL : t.1 x with _ | L
  · refine z_aload_n F dX2_isBetter_0 rfl ?_
    refine z_get (ci := 2) (C := RX2) (T := TX2) (N := 5) F 0 2 dX2_isBetter_1 inX2 kfX2_18 rfl rfl rfl (by decide) rfl ?_
    refine z_iload_n F dX2_isBetter_4 rfl ?_
    refine z_iald F 3 0 dX2_isBetter_5 rfl rfl rfl hx (by decide) ?_
    refine z_topi (y := (-1)) (zo_n1 hL) ?_
    refine z_iconst (v := (-1)) F dX2_isBetter_6 (by decide) ?_
    refine z_icmp_ne (tgt := 12) F dX2_isBetter_7 (by decide) (fun c7 => ?_) (fun c7 => ?_)
    · exact absurd rfl c7
    · refine z_iconst (v := 1) F dX2_isBetter_10 (by decide) ?_
      exact z_iret F hr rfl hlk dX2_isBetter_11 ⟨by rw [zbet_none hL]; rfl, rfl⟩ (Nat.le_of_ble_eq_true rfl) (Nat.le_of_ble_eq_true rfl)
  · obtain ⟨k1, k2, k3⟩ := ok.2.2 x hx L hL
    obtain ⟨hfs, hos, -, -⟩ := k3 hx0
    have hL2 : L < 2 ^ 31 := by omega
    have hfb : t.2.1 x < 2 ^ 31 := by omega
    obtain ⟨b1, hb1⟩ := Option.isSome_iff_exists.mp ho
    obtain ⟨b2, hb2⟩ := Option.isSome_iff_exists.mp hos
    have hb1l : b1 < 2 ^ 31 := Nat.lt_trans (ok.2.1 f b1 hb1) (by decide)
    have hb2l : b2 < 2 ^ 31 := Nat.lt_trans (ok.2.1 _ b2 hb2) (by decide)
    refine z_aload_n F dX2_isBetter_0 rfl ?_
    refine z_get (ci := 2) (C := RX2) (T := TX2) (N := 5) F 0 2 dX2_isBetter_1 inX2 kfX2_18 rfl rfl rfl (by decide) rfl ?_
    refine z_iload_n F dX2_isBetter_4 rfl ?_
    refine z_iald F 3 0 dX2_isBetter_5 rfl rfl rfl hx (by decide) ?_
    refine z_topi (y := nI L) (zo_s1 hL) ?_
    refine z_iconst (v := (-1)) F dX2_isBetter_6 (by decide) ?_
    refine z_icmp_ne (tgt := 12) F dX2_isBetter_7 (by decide) (fun c7 => ?_) (fun c7 => ?_)
    · refine z_iload_n F dX2_isBetter_12 rfl ?_
      refine z_aload_n F dX2_isBetter_13 rfl ?_
      refine z_get (ci := 2) (C := RX2) (T := TX2) (N := 5) F 0 2 dX2_isBetter_14 inX2 kfX2_18 rfl rfl rfl (by decide) rfl ?_
      refine z_iload_n F dX2_isBetter_17 rfl ?_
      refine z_iald F 3 0 dX2_isBetter_18 rfl rfl rfl hx (by decide) ?_
      refine z_topi (y := nI L) (zo_s1 hL) ?_
      refine z_icmp_eq (tgt := 38) F dX2_isBetter_19 (by decide) (fun c19 => ?_) (fun c19 => ?_)
      · have n19 : v = L := (nI_eq hv hL2).mp c19
        refine z_iload F dX2_isBetter_38 rfl ?_
        refine z_aload_n F dX2_isBetter_40 rfl ?_
        refine z_get (ci := 2) (C := RX2) (T := TX2) (N := 5) F 0 3 dX2_isBetter_41 inX2 kfX2_21 rfl rfl rfl (by decide) rfl ?_
        refine z_iload_n F dX2_isBetter_44 rfl ?_
        refine z_ialdN F 4 0 dX2_isBetter_45 rfl rfl rfl hx (by decide) ?_
        refine z_icmp_eq (tgt := 66) F dX2_isBetter_46 (by decide) (fun c46 => ?_) (fun c46 => ?_)
        · have n46 : k = t.2.1 x := (nI_eq hk hfb).mp c46
          refine z_aload_n F dX2_isBetter_66 rfl ?_
          refine z_get (ci := 2) (C := RX2) (T := TX2) (N := 5) F 0 0 dX2_isBetter_67 inX2 kfX2_9 rfl rfl rfl (by decide) rfl ?_
          refine z_iload_n F dX2_isBetter_70 rfl ?_
          refine z_iald F 1 0 dX2_isBetter_71 rfl rfl rfl hf (by decide) ?_
          refine z_topi (y := nI b1) (zo_s1 hb1) ?_
          refine z_istore F dX2_isBetter_72 (by decide) ?_
          refine z_aload_n F dX2_isBetter_74 rfl ?_
          refine z_get (ci := 2) (C := RX2) (T := TX2) (N := 5) F 0 0 dX2_isBetter_75 inX2 kfX2_9 rfl rfl rfl (by decide) rfl ?_
          refine z_aload_n F dX2_isBetter_78 rfl ?_
          refine z_get (ci := 2) (C := RX2) (T := TX2) (N := 5) F 0 4 dX2_isBetter_79 inX2 kfX2_24 rfl rfl rfl (by decide) rfl ?_
          refine z_iload_n F dX2_isBetter_82 rfl ?_
          refine z_ialdN F 5 0 dX2_isBetter_83 rfl rfl rfl hx (by decide) ?_
          refine z_iald F 1 0 dX2_isBetter_84 rfl rfl rfl hfs (by decide) ?_
          refine z_topi (y := nI b2) (zo_s1 hb2) ?_
          refine z_istore F dX2_isBetter_85 (by decide) ?_
          refine z_iload F dX2_isBetter_87 rfl ?_
          refine z_iload F dX2_isBetter_89 rfl ?_
          refine z_icmp_eq (tgt := 109) F dX2_isBetter_91 (by decide) (fun c91 => ?_) (fun c91 => ?_)
          · have n91 : b1 = b2 := (nI_eq hb1l hb2l).mp c91
            refine z_iload_n F dX2_isBetter_109 rfl ?_
            refine z_aload_n F dX2_isBetter_110 rfl ?_
            refine z_get (ci := 2) (C := RX2) (T := TX2) (N := 5) F 0 4 dX2_isBetter_111 inX2 kfX2_24 rfl rfl rfl (by decide) rfl ?_
            refine z_iload_n F dX2_isBetter_114 rfl ?_
            refine z_ialdN F 5 0 dX2_isBetter_115 rfl rfl rfl hx (by decide) ?_
            refine z_icmp_ge (tgt := 123) F dX2_isBetter_116 (by decide) (fun c116 => ?_) (fun c116 => ?_)
            · have n116 : t.2.2 x ≤ f := (nI_leI (by omega) (by omega)).mp c116
              refine z_iconst (v := 0) F dX2_isBetter_123 (by decide) ?_
              exact z_iret F hr rfl hlk dX2_isBetter_124 ⟨by rw [zbet_some hL hb1 hb2]; exact zhas_f (by omega), rfl⟩ (Nat.le_of_ble_eq_true rfl) (Nat.le_of_ble_eq_true rfl)
            · have n116 : ¬ t.2.2 x ≤ f := fun q => c116 ((nI_leI (by omega) (by omega)).mpr q)
              refine z_iconst (v := 1) F dX2_isBetter_119 (by decide) ?_
              refine z_goto (tgt := 124) F dX2_isBetter_120 (by decide) ?_
              exact z_iret F hr rfl hlk dX2_isBetter_124 ⟨by rw [zbet_some hL hb1 hb2]; exact zhas_t (by omega), rfl⟩ (Nat.le_of_ble_eq_true rfl) (Nat.le_of_ble_eq_true rfl)
          · have n91 : ¬ b1 = b2 := fun q => c91 (by rw [q])
            refine z_iload F dX2_isBetter_94 rfl ?_
            refine z_iload F dX2_isBetter_96 rfl ?_
            refine z_icmp_ge (tgt := 105) F dX2_isBetter_98 (by decide) (fun c98 => ?_) (fun c98 => ?_)
            · have n98 : b2 ≤ b1 := (nI_leI hb2l hb1l).mp c98
              refine z_iconst (v := 0) F dX2_isBetter_105 (by decide) ?_
              refine z_goto (tgt := 124) F dX2_isBetter_106 (by decide) ?_
              exact z_iret F hr rfl hlk dX2_isBetter_124 ⟨by rw [zbet_some hL hb1 hb2]; exact zhas_f (by omega), rfl⟩ (Nat.le_of_ble_eq_true rfl) (Nat.le_of_ble_eq_true rfl)
            · have n98 : ¬ b2 ≤ b1 := fun q => c98 ((nI_leI hb2l hb1l).mpr q)
              refine z_iconst (v := 1) F dX2_isBetter_101 (by decide) ?_
              refine z_goto (tgt := 124) F dX2_isBetter_102 (by decide) ?_
              exact z_iret F hr rfl hlk dX2_isBetter_124 ⟨by rw [zbet_some hL hb1 hb2]; exact zhas_t (by omega), rfl⟩ (Nat.le_of_ble_eq_true rfl) (Nat.le_of_ble_eq_true rfl)
        · have n46 : ¬ k = t.2.1 x := fun q => c46 (by rw [q])
          refine z_iload F dX2_isBetter_49 rfl ?_
          refine z_aload_n F dX2_isBetter_51 rfl ?_
          refine z_get (ci := 2) (C := RX2) (T := TX2) (N := 5) F 0 3 dX2_isBetter_52 inX2 kfX2_21 rfl rfl rfl (by decide) rfl ?_
          refine z_iload_n F dX2_isBetter_55 rfl ?_
          refine z_ialdN F 4 0 dX2_isBetter_56 rfl rfl rfl hx (by decide) ?_
          refine z_icmp_ge (tgt := 64) F dX2_isBetter_57 (by decide) (fun c57 => ?_) (fun c57 => ?_)
          · have n57 : t.2.1 x ≤ k := (nI_leI hfb hk).mp c57
            refine z_iconst (v := 0) F dX2_isBetter_64 (by decide) ?_
            exact z_iret F hr rfl hlk dX2_isBetter_65 ⟨by rw [zbet_some hL hb1 hb2]; exact zhas_f (by omega), rfl⟩ (Nat.le_of_ble_eq_true rfl) (Nat.le_of_ble_eq_true rfl)
          · have n57 : ¬ t.2.1 x ≤ k := fun q => c57 ((nI_leI hfb hk).mpr q)
            refine z_iconst (v := 1) F dX2_isBetter_60 (by decide) ?_
            refine z_goto (tgt := 65) F dX2_isBetter_61 (by decide) ?_
            exact z_iret F hr rfl hlk dX2_isBetter_65 ⟨by rw [zbet_some hL hb1 hb2]; exact zhas_t (by omega), rfl⟩ (Nat.le_of_ble_eq_true rfl) (Nat.le_of_ble_eq_true rfl)
      · have n19 : ¬ v = L := fun q => c19 (by rw [q])
        refine z_iload_n F dX2_isBetter_22 rfl ?_
        refine z_aload_n F dX2_isBetter_23 rfl ?_
        refine z_get (ci := 2) (C := RX2) (T := TX2) (N := 5) F 0 2 dX2_isBetter_24 inX2 kfX2_18 rfl rfl rfl (by decide) rfl ?_
        refine z_iload_n F dX2_isBetter_27 rfl ?_
        refine z_iald F 3 0 dX2_isBetter_28 rfl rfl rfl hx (by decide) ?_
        refine z_topi (y := nI L) (zo_s1 hL) ?_
        refine z_icmp_ge (tgt := 36) F dX2_isBetter_29 (by decide) (fun c29 => ?_) (fun c29 => ?_)
        · have n29 : L ≤ v := (nI_leI hL2 hv).mp c29
          refine z_iconst (v := 0) F dX2_isBetter_36 (by decide) ?_
          exact z_iret F hr rfl hlk dX2_isBetter_37 ⟨by rw [zbet_some hL hb1 hb2]; exact zhas_f (by omega), rfl⟩ (Nat.le_of_ble_eq_true rfl) (Nat.le_of_ble_eq_true rfl)
        · have n29 : ¬ L ≤ v := fun q => c29 ((nI_leI hL2 hv).mpr q)
          refine z_iconst (v := 1) F dX2_isBetter_32 (by decide) ?_
          refine z_goto (tgt := 37) F dX2_isBetter_33 (by decide) ?_
          exact z_iret F hr rfl hlk dX2_isBetter_37 ⟨by rw [zbet_some hL hb1 hb2]; exact zhas_t (by omega), rfl⟩ (Nat.le_of_ble_eq_true rfl) (Nat.le_of_ble_eq_true rfl)
    · exact absurd c7 (zi_ne L hL2)

set_option maxHeartbeats 4000000 in
set_option maxRecDepth 100000 in
/-- ExactSearch.tryFirst -/
theorem c_E_tryFirst {l : Launch} {D : va_G} {tys : List (ClassId × FieldType)} {he e1 e2 e3 e4 e5 : Nat} {cA : ClassId} {ob : Nat → Option Nat} {oc : Nat → Nat} {t : zT} (ok : zEok ob oc t) (x f : Nat) (hx : x < 64) (hf : f < 64) (hlt : zd x f < x) (ho : (ob f).isSome = true) : zMv l yX2_tryFirst (zws yX2_tryFirst cX2_tryFirst 6 none) { frames := 1, cells := 0, slots := 0, locals := 26 } D zcl ((cA, .int) :: tys) zG [.ref he, .int (nI x), .int (nI f)] (wT he e1 e2 e3 e4 e5 cA ob oc t) (fun w2 => w2 = wT he e1 e2 e3 e4 e5 cA ob oc (ztry ob oc x f t)) 0 0 := by
  refine z_ofv (cc := cX2_tryFirst) (maxL := 6) (ret := none) (by decide) rfl (Nat.le_of_ble_eq_true rfl) ?_
  intro p e s m below meth c A F hr hlk hnm
  rcases hL : t.1 (zd x f) with _ | L
  · refine z_iload_n F dX2_tryFirst_0 rfl ?_
    refine z_iload_n F dX2_tryFirst_1 rfl ?_
    refine z_iconst (v := (-1)) F dX2_tryFirst_2 (by decide) ?_
    refine z_ixor F dX2_tryFirst_3 ?_
    refine z_iand F dX2_tryFirst_4 ?_
    refine z_topi (y := nI (zd x f)) (zb_nand _ _) ?_
    refine z_istore_n F dX2_tryFirst_5 (by decide) ?_
    refine z_aload_n F dX2_tryFirst_6 rfl ?_
    refine z_get (ci := 2) (C := RX2) (T := TX2) (N := 5) F 0 2 dX2_tryFirst_7 inX2 kfX2_18 rfl rfl rfl (by decide) rfl ?_
    refine z_iload_n F dX2_tryFirst_10 rfl ?_
    refine z_iald F 3 0 dX2_tryFirst_11 rfl rfl rfl (by omega) (by decide) ?_
    refine z_topi (y := (-1)) (zo_n1 hL) ?_
    refine z_iconst (v := (-1)) F dX2_tryFirst_12 (by decide) ?_
    refine z_icmp_ne (tgt := 17) F dX2_tryFirst_13 (by decide) (fun c13 => ?_) (fun c13 => ?_)
    · exact absurd rfl c13
    · exact z_vret F hr hlk dX2_tryFirst_16 (by rw [ztry_none hL]) (Nat.le_of_ble_eq_true rfl) (Nat.le_of_ble_eq_true rfl)
  · obtain ⟨k1, k2, -⟩ := ok.2.2 _ (by omega) L hL
    have k0 := ok.1 f
    refine z_iload_n F dX2_tryFirst_0 rfl ?_
    refine z_iload_n F dX2_tryFirst_1 rfl ?_
    refine z_iconst (v := (-1)) F dX2_tryFirst_2 (by decide) ?_
    refine z_ixor F dX2_tryFirst_3 ?_
    refine z_iand F dX2_tryFirst_4 ?_
    refine z_topi (y := nI (zd x f)) (zb_nand _ _) ?_
    refine z_istore_n F dX2_tryFirst_5 (by decide) ?_
    refine z_aload_n F dX2_tryFirst_6 rfl ?_
    refine z_get (ci := 2) (C := RX2) (T := TX2) (N := 5) F 0 2 dX2_tryFirst_7 inX2 kfX2_18 rfl rfl rfl (by decide) rfl ?_
    refine z_iload_n F dX2_tryFirst_10 rfl ?_
    refine z_iald F 3 0 dX2_tryFirst_11 rfl rfl rfl (by omega) (by decide) ?_
    refine z_topi (y := nI L) (zo_s1 hL) ?_
    refine z_iconst (v := (-1)) F dX2_tryFirst_12 (by decide) ?_
    refine z_icmp_ne (tgt := 17) F dX2_tryFirst_13 (by decide) (fun c13 => ?_) (fun c13 => ?_)
    · refine z_aload_n F dX2_tryFirst_17 rfl ?_
      refine z_get (ci := 2) (C := RX2) (T := TX2) (N := 5) F 0 1 dX2_tryFirst_18 inX2 kfX2_15 rfl rfl rfl (by decide) rfl ?_
      refine z_iload_n F dX2_tryFirst_21 rfl ?_
      refine z_ialdN F 2 0 dX2_tryFirst_22 rfl rfl rfl hf (by decide) ?_
      refine z_aload_n F dX2_tryFirst_23 rfl ?_
      refine z_get (ci := 2) (C := RX2) (T := TX2) (N := 5) F 0 2 dX2_tryFirst_24 inX2 kfX2_18 rfl rfl rfl (by decide) rfl ?_
      refine z_iload_n F dX2_tryFirst_27 rfl ?_
      refine z_iald F 3 0 dX2_tryFirst_28 rfl rfl rfl (by omega) (by decide) ?_
      refine z_topi (y := nI L) (zo_s1 hL) ?_
      refine z_iadd F dX2_tryFirst_29 ?_
      refine z_topi (y := nI (oc f + L)) (nI_add _ _) ?_
      refine z_istore F dX2_tryFirst_30 (by decide) ?_
      refine z_iconst (v := 1) F dX2_tryFirst_32 (by decide) ?_
      refine z_aload_n F dX2_tryFirst_33 rfl ?_
      refine z_get (ci := 2) (C := RX2) (T := TX2) (N := 5) F 0 3 dX2_tryFirst_34 inX2 kfX2_21 rfl rfl rfl (by decide) rfl ?_
      refine z_iload_n F dX2_tryFirst_37 rfl ?_
      refine z_ialdN F 4 0 dX2_tryFirst_38 rfl rfl rfl (by omega) (by decide) ?_
      refine z_iadd F dX2_tryFirst_39 ?_
      refine z_topi (y := nI (1 + t.2.1 (zd x f))) (nI_add 1 _) ?_
      refine z_istore F dX2_tryFirst_40 (by decide) ?_
      refine z_aload_n F dX2_tryFirst_42 rfl ?_
      refine z_iload_n F dX2_tryFirst_43 rfl ?_
      refine z_iload_n F dX2_tryFirst_44 rfl ?_
      refine z_iload F dX2_tryFirst_45 rfl ?_
      refine z_iload F dX2_tryFirst_47 rfl ?_
      refine z_callVi0 F (c_E_isBetter ok x f (oc f + L) (1 + t.2.1 (zd x f)) (by omega) hx hf ho (by omega) (by omega)) 0 rfl rfl (zcwV F.2.2.2.2.1 kcX2_isBetter kmX2_41 kiX2_isBetter ksX2_isBetter knX2 hdX2_isBetter rfl rfl ⟨(Nat.le_of_ble_eq_true rfl), (Nat.le_of_ble_eq_true rfl)⟩) dX2_tryFirst_49 rfl rfl (Nat.le_of_ble_eq_true rfl) ⟨(Nat.le_of_ble_eq_true rfl), (Nat.le_of_ble_eq_true rfl)⟩ ?_
      rintro r w2 ⟨rfl, rfl⟩
      refine z_if_eq (tgt := 78) F dX2_tryFirst_52 (by decide) (fun c52 => ?_) (fun c52 => ?_)
      · exact z_vret F hr hlk dX2_tryFirst_78 (by rw [ztry_f hL (zB_0.mp c52)]) (Nat.le_of_ble_eq_true rfl) (Nat.le_of_ble_eq_true rfl)
      · refine z_aload_n F dX2_tryFirst_55 rfl ?_
        refine z_get (ci := 2) (C := RX2) (T := TX2) (N := 5) F 0 2 dX2_tryFirst_56 inX2 kfX2_18 rfl rfl rfl (by decide) rfl ?_
        refine z_iload_n F dX2_tryFirst_59 rfl ?_
        refine z_iload F dX2_tryFirst_60 rfl ?_
        refine z_iastO F 3 0 (some (oc f + L)) dX2_tryFirst_62 rfl rfl rfl hx (by decide) rfl ?_
        refine z_aload_n F dX2_tryFirst_63 rfl ?_
        refine z_get (ci := 2) (C := RX2) (T := TX2) (N := 5) F 0 3 dX2_tryFirst_64 inX2 kfX2_21 rfl rfl rfl (by decide) rfl ?_
        refine z_iload_n F dX2_tryFirst_67 rfl ?_
        refine z_iload F dX2_tryFirst_68 rfl ?_
        refine z_iastN F 4 0 _ dX2_tryFirst_70 rfl rfl rfl hx (by decide) rfl ?_
        refine z_aload_n F dX2_tryFirst_71 rfl ?_
        refine z_get (ci := 2) (C := RX2) (T := TX2) (N := 5) F 0 4 dX2_tryFirst_72 inX2 kfX2_24 rfl rfl rfl (by decide) rfl ?_
        refine z_iload_n F dX2_tryFirst_75 rfl ?_
        refine z_iload_n F dX2_tryFirst_76 rfl ?_
        refine z_iastN F 5 0 _ dX2_tryFirst_77 rfl rfl rfl hx (by decide) rfl ?_
        exact z_vret F hr hlk dX2_tryFirst_78 (by rw [ztry_t hL (zB_1.mp c52)]; rfl) (Nat.le_of_ble_eq_true rfl) (Nat.le_of_ble_eq_true rfl)
    · exact absurd c13 (zi_ne L (by omega))

set_option maxHeartbeats 4000000 in
set_option maxRecDepth 100000 in
/-- ExactSearch.findBest -/
theorem c_E_findBest {l : Launch} {D : va_G} {tys : List (ClassId × FieldType)} {he e1 e2 e3 e4 e5 : Nat} {cA : ClassId} {ob : Nat → Option Nat} {oc : Nat → Nat} {t : zT} (ok : zEok ob oc t) (x : Nat) (hx0 : 0 < x) (hx : x < 64) : zMv l yX2_findBest (zws yX2_findBest cX2_findBest 4 none) { frames := 2, cells := 0, slots := 0, locals := 51 } D zcl ((cA, .int) :: tys) zG [.ref he, .int (nI x)] (wT he e1 e2 e3 e4 e5 cA ob oc t) (fun w2 => w2 = wT he e1 e2 e3 e4 e5 cA ob oc (zfnd ob oc x t)) 0 0 := by
  refine z_ofv (cc := cX2_findBest) (maxL := 4) (ret := none) (by decide) rfl (Nat.le_of_ble_eq_true rfl) ?_
  intro p e s m below meth c A F hr hlk hnm
  have hlw := (zlow_in x hx).2 hx0
  have loop : ∀ (n y : Nat), zlow x ≤ y → y ≤ x + 1 → x + 2 ≤ y + n → zW p l e (headSpec (zws yX2_findBest cX2_findBest 4 none) { frames := 2, cells := 0, slots := 0, locals := 51 }).room s m [.ref he, .int (nI x)].toArray below meth c 4 D zcl A 0 0 (MQ below (va_Qv (fun w2 => w2 = wT he e1 e2 e3 e4 e5 cA ob oc (zfnd ob oc x t)) (zEnd D zcl A) A) [.ref he, .int (nI x)].toArray s 0 0 A) (wT he e1 e2 e3 e4 e5 cA ob oc (zfr (zfbs ob oc x) t (zlow x) y)) [(0, .ref he), (1, .int (nI x)), (2, .int (nI (zlow x))), (3, .int (nI y))] 7 [] := by
    intro n
    induction n with
    | zero => intro y h1 h2 h3; omega
    | succ n ih =>
      intro y hy1 hy2 hy3
      refine z_iload_n F dX2_findBest_7 rfl ?_
      refine z_iload_n F dX2_findBest_8 rfl ?_
      refine z_icmp_gt (tgt := 48) F dX2_findBest_9 (by decide) (fun c9 => ?_) (fun c9 => ?_)
      · have ey : y = x + 1 := by rw [nI_ltI (by omega) (by omega)] at c9; omega
        exact z_vret F hr hlk dX2_findBest_48 (by rw [ey]; rfl) (Nat.le_of_ble_eq_true rfl) (Nat.le_of_ble_eq_true rfl)
      · have hyx : y ≤ x := by rw [nI_ltI (by omega) (by omega)] at c9; omega
        refine z_iload_n F dX2_findBest_12 rfl ?_
        refine z_iload_n F dX2_findBest_13 rfl ?_
        refine z_iconst (v := (-1)) F dX2_findBest_14 (by decide) ?_
        refine z_ixor F dX2_findBest_15 ?_
        refine z_iand F dX2_findBest_16 ?_
        refine z_topi (y := nI (zd y x)) (zb_nand _ _) ?_
        refine z_if_ne (tgt := 42) F dX2_findBest_17 (by decide) (fun c17 => ?_) (fun c17 => ?_)
        · have n17 : ¬ zd y x = 0 := fun q => c17 ((zb_eq0 (Nat.lt_of_le_of_lt (zd_le _ _) (by omega))).mpr q)
          refine z_iinc (v := nI (y + 1)) F dX2_findBest_42 rfl (nI_1 y) (by decide) ?_
          refine z_goto (tgt := 7) F dX2_findBest_45 (by decide) ?_
          have h9 := ih (y + 1) (by omega) (by omega) (by omega)
          rw [zfr_s hy1] at h9
          rw [show zfbs ob oc x y (zfr (zfbs ob oc x) t (zlow x) y) = zfr (zfbs ob oc x) t (zlow x) y from by unfold zfbs; rw [decide_eq_false n17]; rfl] at h9
          exact z_lv rfl h9
        · have n17 : zd y x = 0 := (zb_eq0 (Nat.lt_of_le_of_lt (zd_le _ _) (by omega))).mp c17
          refine z_iload_n F dX2_findBest_20 rfl ?_
          refine z_iload_n F dX2_findBest_21 rfl ?_
          refine z_iand F dX2_findBest_22 ?_
          refine z_topi (y := nI (y &&& zlow x)) (zb_and _ _) ?_
          refine z_if_eq (tgt := 42) F dX2_findBest_23 (by decide) (fun c23 => ?_) (fun c23 => ?_)
          · have n23 : y &&& zlow x = 0 := (zb_eq0 (Nat.lt_of_le_of_lt Nat.and_le_left (by omega))).mp c23
            refine z_iinc (v := nI (y + 1)) F dX2_findBest_42 rfl (nI_1 y) (by decide) ?_
            refine z_goto (tgt := 7) F dX2_findBest_45 (by decide) ?_
            have h9 := ih (y + 1) (by omega) (by omega) (by omega)
            rw [zfr_s hy1] at h9
            rw [show zfbs ob oc x y (zfr (zfbs ob oc x) t (zlow x) y) = zfr (zfbs ob oc x) t (zlow x) y from by unfold zfbs; rw [decide_eq_false (p := ¬ y &&& zlow x = 0) (fun q => q n23), Bool.false_and, Bool.and_false]; rfl] at h9
            exact z_lv rfl h9
          · have n23 : ¬ y &&& zlow x = 0 := fun q => c23 ((zb_eq0 (Nat.lt_of_le_of_lt Nat.and_le_left (by omega))).mpr q)
            refine z_aload_n F dX2_findBest_26 rfl ?_
            refine z_get (ci := 2) (C := RX2) (T := TX2) (N := 5) F 0 0 dX2_findBest_27 inX2 kfX2_9 rfl rfl rfl (by decide) rfl ?_
            refine z_iload_n F dX2_findBest_30 rfl ?_
            refine z_iald F 1 0 dX2_findBest_31 rfl rfl rfl (by omega) (by decide) ?_
            refine z_iconst (v := (-1)) F dX2_findBest_32 (by decide) ?_
            refine z_icmp_eq (tgt := 42) F dX2_findBest_33 (by decide) (fun c33 => ?_) (fun c33 => ?_)
            · have n33 : (ob y).isSome = false := zo_isn c33 (fun b hb => Nat.lt_trans (ok.2.1 _ _ hb) (by decide))
              refine z_iinc (v := nI (y + 1)) F dX2_findBest_42 rfl (nI_1 y) (by decide) ?_
              refine z_goto (tgt := 7) F dX2_findBest_45 (by decide) ?_
              have h9 := ih (y + 1) (by omega) (by omega) (by omega)
              rw [zfr_s hy1] at h9
              rw [show zfbs ob oc x y (zfr (zfbs ob oc x) t (zlow x) y) = zfr (zfbs ob oc x) t (zlow x) y from by unfold zfbs; rw [n33, Bool.and_false, Bool.and_false]; rfl] at h9
              exact z_lv rfl h9
            · have n33 : (ob y).isSome = true := zo_iss c33
              refine z_aload_n F dX2_findBest_36 rfl ?_
              refine z_iload_n F dX2_findBest_37 rfl ?_
              refine z_iload_n F dX2_findBest_38 rfl ?_
              refine z_callVv0 F (c_E_tryFirst (zfr_ok ok y (fun z b hz hb => zfbs_ok hb hx (by omega))) x y hx (by omega) (zd_lt (zlow_meet hx n23)) n33) 0 rfl rfl (zcwV F.2.2.2.2.1 kcX2_tryFirst kmX2_37 kiX2_tryFirst ksX2_tryFirst knX2 hdX2_tryFirst rfl rfl ⟨(Nat.le_of_ble_eq_true rfl), (Nat.le_of_ble_eq_true rfl)⟩) dX2_findBest_39 rfl rfl (Nat.le_of_ble_eq_true rfl) ⟨(Nat.le_of_ble_eq_true rfl), (Nat.le_of_ble_eq_true rfl)⟩ ?_
              rintro w2 rfl
              refine z_iinc (v := nI (y + 1)) F dX2_findBest_42 rfl (nI_1 y) (by decide) ?_
              refine z_goto (tgt := 7) F dX2_findBest_45 (by decide) ?_
              have h9 := ih (y + 1) (by omega) (by omega) (by omega)
              rw [zfr_s hy1] at h9
              rw [show zfbs ob oc x y (zfr (zfbs ob oc x) t (zlow x) y) = ztry ob oc x y (zfr (zfbs ob oc x) t (zlow x) y) from by unfold zfbs; rw [decide_eq_true n17, decide_eq_true n23, n33]; rfl] at h9
              exact z_lv rfl h9
  refine z_iload_n F dX2_findBest_0 rfl ?_
  refine z_iload_n F dX2_findBest_1 rfl ?_
  refine z_ineg F dX2_findBest_2 ?_
  refine z_iand F dX2_findBest_3 ?_
  refine z_topi (y := nI (zlow x)) (zb_low x (by omega)) ?_
  refine z_istore_n F dX2_findBest_4 (by decide) ?_
  refine z_iload_n F dX2_findBest_5 rfl ?_
  refine z_istore_n F dX2_findBest_6 (by decide) ?_
  have h9 := loop (x + 2) (zlow x) (Nat.le_refl _) (by omega) (by omega)
  rw [zfr_0 _ _ _ _ (Nat.le_refl _)] at h9
  exact z_lv rfl h9
end
section
/-- the choice and the search behind putBest -/
def zpb (ob : Nat → Option Nat) (oc : Nat → Nat) (t : zT) (y : Nat) (x : zX) : zX := bif (t.1 y).isSome then zexn ob oc t.2.2 x 6 else x
def wHx (hd d1 d2 : Nat) (cA : ClassId) (x : zX) (mk ex : Bool) : va_W := wH hd d1 d2 cA x.2.1 x.2.2.1 x.2.2.2.1 x.2.2.2.2 mk ex

set_option maxHeartbeats 4000000 in
set_option maxRecDepth 100000 in
/-- ExactSearch.putBest -/
theorem c_E_putBest {l : Launch} {D : va_G} {tys : List (ClassId × FieldType)} {he e1 e2 e3 e4 e5 hd d1 d2 : Nat} {cA : ClassId} {ob : Nat → Option Nat} {oc : Nat → Nat} {t : zT} {bn us : Nat → Nat} {nh ct : Nat} {mk ex : Bool} (ok : zEok ob oc t) (hn : nh + 6 ≤ 8) (y : Nat) (hy : y < 64) : zMi l yX2_putBest (zws yX2_putBest cX2_putBest 6 (some .boolean)) { frames := 3, cells := 0, slots := 0, locals := 74 } D zcl ((cA, .int) :: tys) zG [.ref he, .int (nI y), .ref hd] ((wH hd d1 d2 cA bn us nh ct mk ex) ++ (wT he e1 e2 e3 e4 e5 cA ob oc t)) (fun r w2 => r = zB ((zall ob oc y t).1 y).isSome ∧ w2 = wHx hd d1 d2 cA (zpb ob oc (zall ob oc y t) y ((y, bn, us, nh, ct) : zX)) mk ex ++ (wT he e1 e2 e3 e4 e5 cA ob oc (zall ob oc y t))) 0 0 := by
  refine z_ofi (cc := cX2_putBest) (maxL := 6) (ret := (some .boolean)) (by decide) rfl (Nat.le_of_ble_eq_true rfl) ?_
  intro p e s m below meth c A F hr hlk hnm
  have loop : ∀ (n x : Nat), 1 ≤ x → x ≤ y + 1 → y + 2 ≤ x + n → zW p l e (headSpec (zws yX2_putBest cX2_putBest 6 (some .boolean)) { frames := 3, cells := 0, slots := 0, locals := 74 }).room s m [.ref he, .int (nI y), .ref hd].toArray below meth c 6 D zcl A 0 0 (MQ below (va_Qi (fun r w2 => r = zB ((zall ob oc y t).1 y).isSome ∧ w2 = wHx hd d1 d2 cA (zpb ob oc (zall ob oc y t) y ((y, bn, us, nh, ct) : zX)) mk ex ++ (wT he e1 e2 e3 e4 e5 cA ob oc (zall ob oc y t))) (zEnd D zcl A) A) [.ref he, .int (nI y), .ref hd].toArray s 0 0 A) ((wH hd d1 d2 cA bn us nh ct mk ex) ++ (wT he e1 e2 e3 e4 e5 cA ob oc (zfr (zfnd ob oc) t 1 x))) [(0, .ref he), (1, .int (nI y)), (2, .ref hd), (3, .int (nI x))] 18 [] := by
    intro n
    induction n with
    | zero => intro x h1 h2 h3; omega
    | succ n ih =>
      intro x hx1 hx2 hx3
      refine z_iload_n F dX2_putBest_18 rfl ?_
      refine z_iload_n F dX2_putBest_19 rfl ?_
      refine z_icmp_gt (tgt := 34) F dX2_putBest_20 (by decide) (fun c20 => ?_) (fun c20 => ?_)
      · have e20 : x = y + 1 := by rw [nI_ltI (by omega) (by omega)] at c20; omega
        subst e20
        refine z_aload_n F dX2_putBest_34 rfl ?_
        refine z_get (ci := 2) (C := RX2) (T := TX2) (N := 5) F 3 2 dX2_putBest_35 inX2 kfX2_18 rfl rfl rfl (by decide) rfl ?_
        refine z_iload_n F dX2_putBest_38 rfl ?_
        refine z_iald F 6 0 dX2_putBest_39 rfl rfl rfl hy (by decide) ?_
        refine z_iconst (v := (-1)) F dX2_putBest_40 (by decide) ?_
        refine z_icmp_ne (tgt := 46) F dX2_putBest_41 (by decide) (fun c41 => ?_) (fun c41 => ?_)
        · refine z_iload_n F dX2_putBest_46 rfl ?_
          refine z_istore_n F dX2_putBest_47 (by decide) ?_
          refine z_iconst (v := 0) F dX2_putBest_48 (by decide) ?_
          refine z_istore F dX2_putBest_49 (by decide) ?_
          have hs : ((zall ob oc y t).1 y).isSome = true := zo_iss c41
          have oka : zEok ob oc (zall ob oc y t) := zall_ok ok (by omega)
          have loop2 : ∀ (n i : Nat), i ≤ 6 → 6 + 1 ≤ i + n → zW p l e (headSpec (zws yX2_putBest cX2_putBest 6 (some .boolean)) { frames := 3, cells := 0, slots := 0, locals := 74 }).room s m [.ref he, .int (nI y), .ref hd].toArray below meth c 6 D zcl A 0 0 (MQ below (va_Qi (fun r w2 => r = zB ((zall ob oc y t).1 y).isSome ∧ w2 = wHx hd d1 d2 cA (zpb ob oc (zall ob oc y t) y ((y, bn, us, nh, ct) : zX)) mk ex ++ (wT he e1 e2 e3 e4 e5 cA ob oc (zall ob oc y t))) (zEnd D zcl A) A) [.ref he, .int (nI y), .ref hd].toArray s 0 0 A) (wHx hd d1 d2 cA (zexn ob oc (zall ob oc y t).2.2 ((y, bn, us, nh, ct) : zX) i) mk ex ++ (wT he e1 e2 e3 e4 e5 cA ob oc (zall ob oc y t))) [(0, .ref he), (1, .int (nI y)), (2, .ref hd), (3, .int (nI (zexn ob oc (zall ob oc y t).2.2 ((y, bn, us, nh, ct) : zX) i).1)), (4, .int (nI i))] 51 [] := by
            intro n
            induction n with
            | zero => intro i h1 h2; omega
            | succ n ih =>
              intro i hi1 hi2
              obtain ⟨g1, g2, g3⟩ := zexn_ok (x := ((y, bn, us, nh, ct) : zX)) oka hy hs i
              have g3 : (zexn ob oc (zall ob oc y t).2.2 ((y, bn, us, nh, ct) : zX) i).2.2.2.1 ≤ nh + i := g3
              refine z_iload F dX2_putBest_51 rfl ?_
              refine z_bipush (v := 6) F dX2_putBest_53 (by decide) ?_
              refine z_icmp_ge (tgt := 103) F dX2_putBest_55 (by decide) (fun c55 => ?_) (fun c55 => ?_)
              · have ei : i = 6 := zge_end hi1 (by omega) c55
                refine z_iconst (v := 1) F dX2_putBest_103 (by decide) ?_
                exact z_iret F hr rfl hlk dX2_putBest_104 ⟨by rw [hs]; rfl, by unfold zpb; rw [hs, ← ei]; rfl⟩ (Nat.le_of_ble_eq_true rfl) (Nat.le_of_ble_eq_true rfl)
              · have hi6 : i < 6 := zge_on (by omega) hi1 c55
                refine z_iload_n F dX2_putBest_58 rfl ?_
                refine z_if_le (tgt := 103) F dX2_putBest_59 (by decide) (fun c59 => ?_) (fun c59 => ?_)
                · have n59 : ¬ 0 < (zexn ob oc (zall ob oc y t).2.2 ((y, bn, us, nh, ct) : zX) i).1 := fun q => nI_nle q (by omega) c59
                  refine z_iconst (v := 1) F dX2_putBest_103 (by decide) ?_
                  exact z_iret F hr rfl hlk dX2_putBest_104 ⟨by rw [hs]; rfl, by unfold zpb; rw [hs]; have e9 := zexn_up n59 (6 - i); rw [show i + (6 - i) = 6 by omega] at e9; rw [e9]; rfl⟩ (Nat.le_of_ble_eq_true rfl) (Nat.le_of_ble_eq_true rfl)
                · have n59 : 0 < (zexn ob oc (zall ob oc y t).2.2 ((y, bn, us, nh, ct) : zX) i).1 := by
                    rcases Nat.eq_zero_or_pos (zexn ob oc (zall ob oc y t).2.2 ((y, bn, us, nh, ct) : zX) i).1 with q | q
                    · exact absurd (by rw [q]; decide) c59
                    · exact q
                  obtain ⟨L, hL⟩ := Option.isSome_iff_exists.mp g2
                  obtain ⟨-, -, k3⟩ := oka.2.2 _ g1 L hL
                  obtain ⟨k4, k5, k6, k7⟩ := k3 n59
                  refine z_aload_n F dX2_putBest_62 rfl ?_
                  refine z_get (ci := 2) (C := RX2) (T := TX2) (N := 5) F 3 4 dX2_putBest_63 inX2 kfX2_24 rfl rfl rfl (by decide) rfl ?_
                  refine z_iload_n F dX2_putBest_66 rfl ?_
                  refine z_ialdN F 8 0 dX2_putBest_67 rfl rfl rfl g1 (by decide) ?_
                  refine z_istore F dX2_putBest_68 (by decide) ?_
                  refine z_aload_n F dX2_putBest_70 rfl ?_
                  refine z_aload_n F dX2_putBest_71 rfl ?_
                  refine z_get (ci := 2) (C := RX2) (T := TX2) (N := 5) F 3 0 dX2_putBest_72 inX2 kfX2_9 rfl rfl rfl (by decide) rfl ?_
                  refine z_iload F dX2_putBest_75 rfl ?_
                  refine z_iald F 4 0 dX2_putBest_77 rfl rfl rfl k4 (by decide) ?_
                  refine z_topi (y := nI ((ob ((zall ob oc y t).2.2 (zexn ob oc (zall ob oc y t).2.2 ((y, bn, us, nh, ct) : zX) i).1)).getD 0)) (zo_g k5) ?_
                  refine z_iload F dX2_putBest_78 rfl ?_
                  refine z_aload_n F dX2_putBest_80 rfl ?_
                  refine z_get (ci := 2) (C := RX2) (T := TX2) (N := 5) F 3 1 dX2_putBest_81 inX2 kfX2_15 rfl rfl rfl (by decide) rfl ?_
                  refine z_iload F dX2_putBest_84 rfl ?_
                  refine z_ialdN F 5 0 dX2_putBest_86 rfl rfl rfl k4 (by decide) ?_
                  refine z_callVv (w1 := []) (w3 := (wT he e1 e2 e3 e4 e5 cA ob oc (zall ob oc y t))) F (c_H_append (by omega) ((ob ((zall ob oc y t).2.2 (zexn ob oc (zall ob oc y t).2.2 ((y, bn, us, nh, ct) : zX) i).1)).getD 0) ((zall ob oc y t).2.2 (zexn ob oc (zall ob oc y t).2.2 ((y, bn, us, nh, ct) : zX) i).1) (oc ((zall ob oc y t).2.2 (zexn ob oc (zall ob oc y t).2.2 ((y, bn, us, nh, ct) : zX) i).1))) 0 rfl rfl (zcwV F.2.2.2.2.1 kcX1_append kmX2_31 kiX1_append ksX1_append knX1 hdX1_append rfl rfl ⟨(Nat.le_of_ble_eq_true rfl), (Nat.le_of_ble_eq_true rfl)⟩) dX2_putBest_87 rfl rfl rfl (Nat.le_of_ble_eq_true rfl) ⟨(Nat.le_of_ble_eq_true rfl), (Nat.le_of_ble_eq_true rfl)⟩ ?_
                  rintro w2 rfl
                  refine z_iload_n F dX2_putBest_90 rfl ?_
                  refine z_iload F dX2_putBest_91 rfl ?_
                  refine z_iconst (v := (-1)) F dX2_putBest_93 (by decide) ?_
                  refine z_ixor F dX2_putBest_94 ?_
                  refine z_iand F dX2_putBest_95 ?_
                  refine z_topi (y := nI (zd (zexn ob oc (zall ob oc y t).2.2 ((y, bn, us, nh, ct) : zX) i).1 ((zall ob oc y t).2.2 (zexn ob oc (zall ob oc y t).2.2 ((y, bn, us, nh, ct) : zX) i).1))) (zb_nand _ _) ?_
                  refine z_istore_n F dX2_putBest_96 (by decide) ?_
                  refine z_iinc (v := nI (i + 1)) F dX2_putBest_97 rfl (nI_1 i) (by decide) ?_
                  refine z_goto (tgt := 51) F dX2_putBest_100 (by decide) ?_
                  have h9 := ih (i + 1) (by omega) (by omega)
                  rw [zexn_t n59] at h9
                  exact z_lv rfl h9
          exact z_lv rfl (loop2 7 0 (by omega) (by omega))
        · have hn1 : ((zall ob oc y t).1 y).isSome = false := zo_isn c41 (fun b hb => by have := (zall_ok (y := y + 1) ok (by omega)).2.2 y hy b hb; omega)
          refine z_iconst (v := 0) F dX2_putBest_44 (by decide) ?_
          exact z_iret F hr rfl hlk dX2_putBest_45 ⟨by rw [show (((zall ob oc y t)).1 y).isSome = false from hn1]; rfl, by unfold zpb; rw [show (((zall ob oc y t)).1 y).isSome = false from hn1]; rfl⟩ (Nat.le_of_ble_eq_true rfl) (Nat.le_of_ble_eq_true rfl)
      · have h20 : x ≤ y := by rw [nI_ltI (by omega) (by omega)] at c20; omega
        refine z_aload_n F dX2_putBest_23 rfl ?_
        refine z_iload_n F dX2_putBest_24 rfl ?_
        refine z_callVv (w1 := (wH hd d1 d2 cA bn us nh ct mk ex)) (w3 := []) F (c_E_findBest (zall_ok ok (by omega)) x (by omega) (by omega)) 0 rfl rfl (zcwV F.2.2.2.2.1 kcX2_findBest kmX2_27 kiX2_findBest ksX2_findBest knX2 hdX2_findBest rfl rfl ⟨(Nat.le_of_ble_eq_true rfl), (Nat.le_of_ble_eq_true rfl)⟩) dX2_putBest_25 rfl rfl rfl (Nat.le_of_ble_eq_true rfl) ⟨(Nat.le_of_ble_eq_true rfl), (Nat.le_of_ble_eq_true rfl)⟩ ?_
        rintro w2 rfl
        refine z_iinc (v := nI (x + 1)) F dX2_putBest_28 rfl (nI_1 x) (by decide) ?_
        refine z_goto (tgt := 18) F dX2_putBest_31 (by decide) ?_
        have h9 := ih (x + 1) (by omega) (by omega) (by omega)
        rw [zfr_s (by omega)] at h9
        exact z_lv rfl h9
  refine z_iload_n F dX2_putBest_0 rfl ?_
  refine z_if_lt (tgt := 14) F dX2_putBest_1 (by decide) (fun c1 => ?_) (fun c1 => ?_)
  · exact absurd c1 (nI_pos (by omega))
  · refine z_iload_n F dX2_putBest_4 rfl ?_
    refine z_bipush (v := 64) F dX2_putBest_5 (by decide) ?_
    refine z_icmp_ge (tgt := 14) F dX2_putBest_7 (by decide) (fun c7 => ?_) (fun c7 => ?_)
    · exact absurd c7 (nI_ge hy (by decide))
    · refine z_aload_n F dX2_putBest_10 rfl ?_
      refine z_ifnonnull (tgt := 16) F dX2_putBest_11 (by decide) ?_
      refine z_iconst (v := 1) F dX2_putBest_16 (by decide) ?_
      refine z_istore_n F dX2_putBest_17 (by decide) ?_
      have h9 := loop (y + 2) 1 (by omega) (by omega) (by omega)
      rw [zfr_0 _ _ _ _ (Nat.le_refl _)] at h9
      exact z_lv rfl h9
end
section
set_option maxHeartbeats 4000000 in
set_option maxRecDepth 100000 in
/-- Catalogue() -/
theorem c_X0_init_new {l : Launch} {D : va_G} {tys : List (ClassId × FieldType)} {cA : ClassId} (q : Nat) : zMv l yX0_init (zws yX0_init cX0_init 1 none) { frames := 1, cells := 4, slots := 24, locals := 14 } D zcl ((cA, .int) :: tys) zG [.ref q] [(q, .inr (0, [.null, .null, .null, .null, .int 0, .int 0]))] (fun w2 => ∃ c1 c2 c3 c4 : Nat, w2 = wC q c1 c2 c3 c4 cA (fun _ => 0) (fun _ => 0) (fun _ => 0) (fun _ => 0) 0 0) 4 24 := by
  refine z_ofv (cc := cX0_init) (maxL := 1) (ret := none) (by decide) rfl (Nat.le_of_ble_eq_true rfl) ?_
  intro p e s m below meth c A F hr hlk hnm
  refine z_aload_n F dX0_init_0 rfl ?_
  refine z_objInit F dX0_init_1 kmX0_3 kiO kcO (Nat.le_of_ble_eq_true rfl) (Nat.le_of_ble_eq_true rfl) ?_
  refine z_aload_n F dX0_init_4 rfl ?_
  refine z_bipush (v := 6) F dX0_init_5 (by decide) ?_
  refine z_newi (N := 6) F 0 dX0_init_7 kr_int rfl rfl (by decide) (Nat.le_of_ble_eq_true rfl) (Nat.le_of_ble_eq_true rfl) (fun c1 => ?_)
  refine z_putF (ci := 0) (C := RX0) (T := TX0) (N := 6) (ty := (.array .int)) F 0 0 dX0_init_9 inX0 tyX0 tyX0_ok nmX0 kfX0_9 rfl rfl rfl (by decide) rfl hnm rfl (by decide +kernel) rfl rfl (Nat.le_of_ble_eq_true rfl) ?_
  refine z_aload_n F dX0_init_12 rfl ?_
  refine z_bipush (v := 6) F dX0_init_13 (by decide) ?_
  refine z_newi (N := 6) F 0 dX0_init_15 kr_int rfl rfl (by decide) (Nat.le_of_ble_eq_true rfl) (Nat.le_of_ble_eq_true rfl) (fun c2 => ?_)
  refine z_putF (ci := 0) (C := RX0) (T := TX0) (N := 6) (ty := (.array .int)) F 0 1 dX0_init_17 inX0 tyX0 tyX0_ok nmX0 kfX0_15 rfl rfl rfl (by decide) rfl hnm rfl (by decide +kernel) rfl rfl (Nat.le_of_ble_eq_true rfl) ?_
  refine z_aload_n F dX0_init_20 rfl ?_
  refine z_bipush (v := 6) F dX0_init_21 (by decide) ?_
  refine z_newi (N := 6) F 0 dX0_init_23 kr_int rfl rfl (by decide) (Nat.le_of_ble_eq_true rfl) (Nat.le_of_ble_eq_true rfl) (fun c3 => ?_)
  refine z_putF (ci := 0) (C := RX0) (T := TX0) (N := 6) (ty := (.array .int)) F 0 2 dX0_init_25 inX0 tyX0 tyX0_ok nmX0 kfX0_18 rfl rfl rfl (by decide) rfl hnm rfl (by decide +kernel) rfl rfl (Nat.le_of_ble_eq_true rfl) ?_
  refine z_aload_n F dX0_init_28 rfl ?_
  refine z_bipush (v := 6) F dX0_init_29 (by decide) ?_
  refine z_newi (N := 6) F 0 dX0_init_31 kr_int rfl rfl (by decide) (Nat.le_of_ble_eq_true rfl) (Nat.le_of_ble_eq_true rfl) (fun c4 => ?_)
  refine z_putF (ci := 0) (C := RX0) (T := TX0) (N := 6) (ty := (.array .int)) F 0 3 dX0_init_33 inX0 tyX0 tyX0_ok nmX0 kfX0_21 rfl rfl rfl (by decide) rfl hnm rfl (by decide +kernel) rfl rfl (Nat.le_of_ble_eq_true rfl) ?_
  exact z_vret F hr hlk dX0_init_36 ⟨c1, c2, c3, c4, rfl⟩ (Nat.le_of_ble_eq_true rfl) (Nat.le_of_ble_eq_true rfl)

set_option maxHeartbeats 4000000 in
set_option maxRecDepth 100000 in
/-- Units() -/
theorem c_X3_init_new {l : Launch} {D : va_G} {tys : List (ClassId × FieldType)} {cA : ClassId} (q : Nat) : zMv l yX3_init (zws yX3_init cX3_init 1 none) { frames := 1, cells := 5, slots := 40, locals := 14 } D zcl ((cA, .int) :: tys) zG [.ref q] [(q, .inr (3, [.null, .null, .null, .null, .null, .int 0]))] (fun w2 => ∃ u1 u2 u3 u4 u5 : Nat, w2 = wU q u1 u2 u3 u4 u5 cA (fun _ => 0) (fun _ => 0) (fun _ => 0) (fun _ => 0) (fun _ => 0) 0) 5 40 := by
  refine z_ofv (cc := cX3_init) (maxL := 1) (ret := none) (by decide) rfl (Nat.le_of_ble_eq_true rfl) ?_
  intro p e s m below meth c A F hr hlk hnm
  refine z_aload_n F dX3_init_0 rfl ?_
  refine z_objInit F dX3_init_1 kmX3_3 kiO kcO (Nat.le_of_ble_eq_true rfl) (Nat.le_of_ble_eq_true rfl) ?_
  refine z_aload_n F dX3_init_4 rfl ?_
  refine z_bipush (v := 8) F dX3_init_5 (by decide) ?_
  refine z_newi (N := 8) F 0 dX3_init_7 kr_int rfl rfl (by decide) (Nat.le_of_ble_eq_true rfl) (Nat.le_of_ble_eq_true rfl) (fun u1 => ?_)
  refine z_putF (ci := 3) (C := RX3) (T := TX3) (N := 6) (ty := (.array .int)) F 0 0 dX3_init_9 inX3 tyX3 tyX3_ok nmX3 kfX3_9 rfl rfl rfl (by decide) rfl hnm rfl (by decide +kernel) rfl rfl (Nat.le_of_ble_eq_true rfl) ?_
  refine z_aload_n F dX3_init_12 rfl ?_
  refine z_bipush (v := 8) F dX3_init_13 (by decide) ?_
  refine z_newi (N := 8) F 0 dX3_init_15 kr_int rfl rfl (by decide) (Nat.le_of_ble_eq_true rfl) (Nat.le_of_ble_eq_true rfl) (fun u2 => ?_)
  refine z_putF (ci := 3) (C := RX3) (T := TX3) (N := 6) (ty := (.array .int)) F 0 1 dX3_init_17 inX3 tyX3 tyX3_ok nmX3 kfX3_15 rfl rfl rfl (by decide) rfl hnm rfl (by decide +kernel) rfl rfl (Nat.le_of_ble_eq_true rfl) ?_
  refine z_aload_n F dX3_init_20 rfl ?_
  refine z_bipush (v := 8) F dX3_init_21 (by decide) ?_
  refine z_newi (N := 8) F 0 dX3_init_23 kr_int rfl rfl (by decide) (Nat.le_of_ble_eq_true rfl) (Nat.le_of_ble_eq_true rfl) (fun u3 => ?_)
  refine z_putF (ci := 3) (C := RX3) (T := TX3) (N := 6) (ty := (.array .int)) F 0 2 dX3_init_25 inX3 tyX3 tyX3_ok nmX3 kfX3_18 rfl rfl rfl (by decide) rfl hnm rfl (by decide +kernel) rfl rfl (Nat.le_of_ble_eq_true rfl) ?_
  refine z_aload_n F dX3_init_28 rfl ?_
  refine z_bipush (v := 8) F dX3_init_29 (by decide) ?_
  refine z_newi (N := 8) F 0 dX3_init_31 kr_int rfl rfl (by decide) (Nat.le_of_ble_eq_true rfl) (Nat.le_of_ble_eq_true rfl) (fun u4 => ?_)
  refine z_putF (ci := 3) (C := RX3) (T := TX3) (N := 6) (ty := (.array .int)) F 0 3 dX3_init_33 inX3 tyX3 tyX3_ok nmX3 kfX3_21 rfl rfl rfl (by decide) rfl hnm rfl (by decide +kernel) rfl rfl (Nat.le_of_ble_eq_true rfl) ?_
  refine z_aload_n F dX3_init_36 rfl ?_
  refine z_bipush (v := 8) F dX3_init_37 (by decide) ?_
  refine z_newi (N := 8) F 0 dX3_init_39 kr_int rfl rfl (by decide) (Nat.le_of_ble_eq_true rfl) (Nat.le_of_ble_eq_true rfl) (fun u5 => ?_)
  refine z_putF (ci := 3) (C := RX3) (T := TX3) (N := 6) (ty := (.array .int)) F 0 4 dX3_init_41 inX3 tyX3 tyX3_ok nmX3 kfX3_24 rfl rfl rfl (by decide) rfl hnm rfl (by decide +kernel) rfl rfl (Nat.le_of_ble_eq_true rfl) ?_
  exact z_vret F hr hlk dX3_init_44 ⟨u1, u2, u3, u4, u5, rfl⟩ (Nat.le_of_ble_eq_true rfl) (Nat.le_of_ble_eq_true rfl)

set_option maxHeartbeats 4000000 in
set_option maxRecDepth 100000 in
/-- Choice() -/
theorem c_X1_init_new {l : Launch} {D : va_G} {tys : List (ClassId × FieldType)} {cA : ClassId} (q : Nat) : zMv l yX1_init (zws yX1_init cX1_init 1 none) { frames := 1, cells := 2, slots := 16, locals := 14 } D zcl ((cA, .int) :: tys) zG [.ref q] [(q, .inr (1, [.null, .null, .int 0, .int 0, .int 0, .int 0]))] (fun w2 => ∃ d1 d2 : Nat, w2 = wH q d1 d2 cA (fun _ => 0) (fun _ => 0) 0 0 false false) 2 16 := by
  refine z_ofv (cc := cX1_init) (maxL := 1) (ret := none) (by decide) rfl (Nat.le_of_ble_eq_true rfl) ?_
  intro p e s m below meth c A F hr hlk hnm
  refine z_aload_n F dX1_init_0 rfl ?_
  refine z_objInit F dX1_init_1 kmX1_3 kiO kcO (Nat.le_of_ble_eq_true rfl) (Nat.le_of_ble_eq_true rfl) ?_
  refine z_aload_n F dX1_init_4 rfl ?_
  refine z_bipush (v := 8) F dX1_init_5 (by decide) ?_
  refine z_newi (N := 8) F 0 dX1_init_7 kr_int rfl rfl (by decide) (Nat.le_of_ble_eq_true rfl) (Nat.le_of_ble_eq_true rfl) (fun d1 => ?_)
  refine z_putF (ci := 1) (C := RX1) (T := TX1) (N := 6) (ty := (.array .int)) F 0 0 dX1_init_9 inX1 tyX1 tyX1_ok nmX1 kfX1_9 rfl rfl rfl (by decide) rfl hnm rfl (by decide +kernel) rfl rfl (Nat.le_of_ble_eq_true rfl) ?_
  refine z_aload_n F dX1_init_12 rfl ?_
  refine z_bipush (v := 8) F dX1_init_13 (by decide) ?_
  refine z_newi (N := 8) F 0 dX1_init_15 kr_int rfl rfl (by decide) (Nat.le_of_ble_eq_true rfl) (Nat.le_of_ble_eq_true rfl) (fun d2 => ?_)
  refine z_putF (ci := 1) (C := RX1) (T := TX1) (N := 6) (ty := (.array .int)) F 0 1 dX1_init_17 inX1 tyX1 tyX1_ok nmX1 kfX1_15 rfl rfl rfl (by decide) rfl hnm rfl (by decide +kernel) rfl rfl (Nat.le_of_ble_eq_true rfl) ?_
  exact z_vret F hr hlk dX1_init_20 ⟨d1, d2, rfl⟩ (Nat.le_of_ble_eq_true rfl) (Nat.le_of_ble_eq_true rfl)

set_option maxHeartbeats 4000000 in
set_option maxRecDepth 100000 in
/-- ExactSearch() -/
theorem c_X2_init_new {l : Launch} {D : va_G} {tys : List (ClassId × FieldType)} {cA : ClassId} (q : Nat) : zMv l yX2_init (zws yX2_init cX2_init 1 none) { frames := 1, cells := 5, slots := 320, locals := 14 } D zcl ((cA, .int) :: tys) zG [.ref q] [(q, .inr (2, [.null, .null, .null, .null, .null]))] (fun w2 => ∃ e1 e2 e3 e4 e5 : Nat, w2 = wE q e1 e2 e3 e4 e5 cA (fun _ => some 0) (fun _ => 0) (fun _ => some 0) (fun _ => 0) (fun _ => 0)) 5 320 := by
  refine z_ofv (cc := cX2_init) (maxL := 1) (ret := none) (by decide) rfl (Nat.le_of_ble_eq_true rfl) ?_
  intro p e s m below meth c A F hr hlk hnm
  refine z_aload_n F dX2_init_0 rfl ?_
  refine z_objInit F dX2_init_1 kmX2_3 kiO kcO (Nat.le_of_ble_eq_true rfl) (Nat.le_of_ble_eq_true rfl) ?_
  refine z_aload_n F dX2_init_4 rfl ?_
  refine z_bipush (v := 64) F dX2_init_5 (by decide) ?_
  refine z_newi (N := 64) F 0 dX2_init_7 kr_int rfl rfl (by decide) (Nat.le_of_ble_eq_true rfl) (Nat.le_of_ble_eq_true rfl) (fun e1 => ?_)
  refine z_putF (ci := 2) (C := RX2) (T := TX2) (N := 5) (ty := (.array .int)) F 0 0 dX2_init_9 inX2 tyX2 tyX2_ok nmX2 kfX2_9 rfl rfl rfl (by decide) rfl hnm rfl (by decide +kernel) rfl rfl (Nat.le_of_ble_eq_true rfl) ?_
  refine z_aload_n F dX2_init_12 rfl ?_
  refine z_bipush (v := 64) F dX2_init_13 (by decide) ?_
  refine z_newi (N := 64) F 0 dX2_init_15 kr_int rfl rfl (by decide) (Nat.le_of_ble_eq_true rfl) (Nat.le_of_ble_eq_true rfl) (fun e2 => ?_)
  refine z_putF (ci := 2) (C := RX2) (T := TX2) (N := 5) (ty := (.array .int)) F 0 1 dX2_init_17 inX2 tyX2 tyX2_ok nmX2 kfX2_15 rfl rfl rfl (by decide) rfl hnm rfl (by decide +kernel) rfl rfl (Nat.le_of_ble_eq_true rfl) ?_
  refine z_aload_n F dX2_init_20 rfl ?_
  refine z_bipush (v := 64) F dX2_init_21 (by decide) ?_
  refine z_newi (N := 64) F 0 dX2_init_23 kr_int rfl rfl (by decide) (Nat.le_of_ble_eq_true rfl) (Nat.le_of_ble_eq_true rfl) (fun e3 => ?_)
  refine z_putF (ci := 2) (C := RX2) (T := TX2) (N := 5) (ty := (.array .int)) F 0 2 dX2_init_25 inX2 tyX2 tyX2_ok nmX2 kfX2_18 rfl rfl rfl (by decide) rfl hnm rfl (by decide +kernel) rfl rfl (Nat.le_of_ble_eq_true rfl) ?_
  refine z_aload_n F dX2_init_28 rfl ?_
  refine z_bipush (v := 64) F dX2_init_29 (by decide) ?_
  refine z_newi (N := 64) F 0 dX2_init_31 kr_int rfl rfl (by decide) (Nat.le_of_ble_eq_true rfl) (Nat.le_of_ble_eq_true rfl) (fun e4 => ?_)
  refine z_putF (ci := 2) (C := RX2) (T := TX2) (N := 5) (ty := (.array .int)) F 0 3 dX2_init_33 inX2 tyX2 tyX2_ok nmX2 kfX2_21 rfl rfl rfl (by decide) rfl hnm rfl (by decide +kernel) rfl rfl (Nat.le_of_ble_eq_true rfl) ?_
  refine z_aload_n F dX2_init_36 rfl ?_
  refine z_bipush (v := 64) F dX2_init_37 (by decide) ?_
  refine z_newi (N := 64) F 0 dX2_init_39 kr_int rfl rfl (by decide) (Nat.le_of_ble_eq_true rfl) (Nat.le_of_ble_eq_true rfl) (fun e5 => ?_)
  refine z_putF (ci := 2) (C := RX2) (T := TX2) (N := 5) (ty := (.array .int)) F 0 4 dX2_init_41 inX2 tyX2 tyX2_ok nmX2 kfX2_24 rfl rfl rfl (by decide) rfl hnm rfl (by decide +kernel) rfl rfl (Nat.le_of_ble_eq_true rfl) ?_
  exact z_vret F hr hlk dX2_init_44 ⟨e1, e2, e3, e4, e5, rfl⟩ (Nat.le_of_ble_eq_true rfl) (Nat.le_of_ble_eq_true rfl)

/-- the whole object: its cells by their addresses ad 0, ad 1 .. -/
def wX (ad : Nat → Nat) (cA : ClassId) (ro lo co ks : Nat → Nat) (nb sl : Nat) (si we ki ap tg : Nat → Nat) (nu : Nat) (bn us : Nat → Nat) (nh ct : Nat) (mk ex : Bool) (ob : Nat → Option Nat) (oc : Nat → Nat) (lc : Nat → Option Nat) (fb fs : Nat → Nat) : va_W :=
  (ad 0, .inr (4, [.ref (ad 1), .ref (ad 6), .ref (ad 12), .ref (ad 15)])) :: (wC (ad 1) (ad 2) (ad 3) (ad 4) (ad 5) cA ro lo co ks nb sl ++ (wU (ad 6) (ad 7) (ad 8) (ad 9) (ad 10) (ad 11) cA si we ki ap tg nu ++ (wH (ad 12) (ad 13) (ad 14) cA bn us nh ct mk ex ++ wE (ad 15) (ad 16) (ad 17) (ad 18) (ad 19) (ad 20) cA ob oc lc fb fs)))

set_option maxHeartbeats 4000000 in
set_option maxRecDepth 100000 in
/-- BoxChoice() -/
theorem c_X4_init_new {l : Launch} {D : va_G} {tys : List (ClassId × FieldType)} {cA : ClassId} (q : Nat) : zMv l yX4_init (zws yX4_init cX4_init 1 none) { frames := 2, cells := 20, slots := 423, locals := 34 } D zcl ((cA, .int) :: tys) zG [.ref q] [(q, .inr (4, [.null, .null, .null, .null]))] (fun w2 => ∃ ad : Nat → Nat, ad 0 = q ∧ w2 = wX ad cA (fun _ => 0) (fun _ => 0) (fun _ => 0) (fun _ => 0) 0 0 (fun _ => 0) (fun _ => 0) (fun _ => 0) (fun _ => 0) (fun _ => 0) 0 (fun _ => 0) (fun _ => 0) 0 0 false false (fun _ => some 0) (fun _ => 0) (fun _ => some 0) (fun _ => 0) (fun _ => 0)) 20 423 := by
  refine z_ofv (cc := cX4_init) (maxL := 1) (ret := none) (by decide) rfl (Nat.le_of_ble_eq_true rfl) ?_
  intro p e s m below meth c A F hr hlk hnm
  refine z_aload_n F dX4_init_0 rfl ?_
  refine z_objInit F dX4_init_1 kmX4_3 kiO kcO (Nat.le_of_ble_eq_true rfl) (Nat.le_of_ble_eq_true rfl) ?_
  refine z_aload_n F dX4_init_4 rfl ?_
  refine z_new (ci := 0) (C := RX0) (T := TX0) (N := 6) (fs := [.null, .null, .null, .null, .int 0, .int 0]) F tyX0 dX4_init_5 inX0 tyX0_ok klX4_9 kaX0 knX0 rfl (fun j hj => by rcases (show j = 0 ∨ j = 1 ∨ j = 2 ∨ j = 3 ∨ j = 4 ∨ j = 5 by omega) with rfl | rfl | rfl | rfl | rfl | rfl <;> rfl) (Nat.le_of_ble_eq_true rfl) (Nat.le_of_ble_eq_true rfl) (fun hc => ?_)
  refine z_dup F dX4_init_8 rfl ?_
  refine z_callINv (ret := none) (w1 := [(q, .inr (4, [.null, .null, .null, .null]))]) (w3 := []) F (c_X0_init_new hc) (zcnI F.2.2.2.2.1 kcX0_init (nlX4_11 F.2.2.2.2.2.2.2.1) kiX0_init knX0 rfl hdX0_init rfl rfl ⟨(Nat.le_of_ble_eq_true rfl), (Nat.le_of_ble_eq_true rfl)⟩) dX4_init_9 rfl rfl rfl (Nat.le_of_ble_eq_true rfl) ⟨(Nat.le_of_ble_eq_true rfl), (Nat.le_of_ble_eq_true rfl)⟩ ?_
  rintro w2 ⟨c1, c2, c3, c4, rfl⟩
  refine z_putF (ci := 4) (C := RX4) (T := TX4) (N := 4) (ty := (.object "BoxChoice$Catalogue")) F 0 0 dX4_init_12 inX4 tyX4 tyX4_ok nmX4 kfX4_12 rfl rfl rfl (by decide) rfl hnm rfl (by decide +kernel) rfl rfl (Nat.le_of_ble_eq_true rfl) ?_
  refine z_aload_n F dX4_init_15 rfl ?_
  refine z_new (ci := 3) (C := RX3) (T := TX3) (N := 6) (fs := [.null, .null, .null, .null, .null, .int 0]) F tyX3 dX4_init_16 inX3 tyX3_ok klX4_16 kaX3 knX3 rfl (fun j hj => by rcases (show j = 0 ∨ j = 1 ∨ j = 2 ∨ j = 3 ∨ j = 4 ∨ j = 5 by omega) with rfl | rfl | rfl | rfl | rfl | rfl <;> rfl) (Nat.le_of_ble_eq_true rfl) (Nat.le_of_ble_eq_true rfl) (fun hu => ?_)
  refine z_dup F dX4_init_19 rfl ?_
  refine z_callINv (ret := none) (w1 := ((q, .inr (4, [.ref hc, .null, .null, .null])) :: wC hc c1 c2 c3 c4 cA (fun _ => 0) (fun _ => 0) (fun _ => 0) (fun _ => 0) 0 0)) (w3 := []) F (c_X3_init_new hu) (zcnI F.2.2.2.2.1 kcX3_init (nlX4_18 F.2.2.2.2.2.2.2.1) kiX3_init knX3 rfl hdX3_init rfl rfl ⟨(Nat.le_of_ble_eq_true rfl), (Nat.le_of_ble_eq_true rfl)⟩) dX4_init_20 rfl rfl rfl (Nat.le_of_ble_eq_true rfl) ⟨(Nat.le_of_ble_eq_true rfl), (Nat.le_of_ble_eq_true rfl)⟩ ?_
  rintro w2 ⟨u1, u2, u3, u4, u5, rfl⟩
  refine z_putF (ci := 4) (C := RX4) (T := TX4) (N := 4) (ty := (.object "BoxChoice$Units")) F 0 1 dX4_init_23 inX4 tyX4 tyX4_ok nmX4 kfX4_19 rfl rfl rfl (by decide) rfl hnm rfl (by decide +kernel) rfl rfl (Nat.le_of_ble_eq_true rfl) ?_
  refine z_aload_n F dX4_init_26 rfl ?_
  refine z_new (ci := 1) (C := RX1) (T := TX1) (N := 6) (fs := [.null, .null, .int 0, .int 0, .int 0, .int 0]) F tyX1 dX4_init_27 inX1 tyX1_ok klX4_23 kaX1 knX1 rfl (fun j hj => by rcases (show j = 0 ∨ j = 1 ∨ j = 2 ∨ j = 3 ∨ j = 4 ∨ j = 5 by omega) with rfl | rfl | rfl | rfl | rfl | rfl <;> rfl) (Nat.le_of_ble_eq_true rfl) (Nat.le_of_ble_eq_true rfl) (fun hd => ?_)
  refine z_dup F dX4_init_30 rfl ?_
  refine z_callINv (ret := none) (w1 := ((q, .inr (4, [.ref hc, .ref hu, .null, .null])) :: (wC hc c1 c2 c3 c4 cA (fun _ => 0) (fun _ => 0) (fun _ => 0) (fun _ => 0) 0 0 ++ wU hu u1 u2 u3 u4 u5 cA (fun _ => 0) (fun _ => 0) (fun _ => 0) (fun _ => 0) (fun _ => 0) 0))) (w3 := []) F (c_X1_init_new hd) (zcnI F.2.2.2.2.1 kcX1_init (nlX4_25 F.2.2.2.2.2.2.2.1) kiX1_init knX1 rfl hdX1_init rfl rfl ⟨(Nat.le_of_ble_eq_true rfl), (Nat.le_of_ble_eq_true rfl)⟩) dX4_init_31 rfl rfl rfl (Nat.le_of_ble_eq_true rfl) ⟨(Nat.le_of_ble_eq_true rfl), (Nat.le_of_ble_eq_true rfl)⟩ ?_
  rintro w2 ⟨d1, d2, rfl⟩
  refine z_putF (ci := 4) (C := RX4) (T := TX4) (N := 4) (ty := (.object "BoxChoice$Choice")) F 0 2 dX4_init_34 inX4 tyX4 tyX4_ok nmX4 kfX4_26 rfl rfl rfl (by decide) rfl hnm rfl (by decide +kernel) rfl rfl (Nat.le_of_ble_eq_true rfl) ?_
  refine z_aload_n F dX4_init_37 rfl ?_
  refine z_new (ci := 2) (C := RX2) (T := TX2) (N := 5) (fs := [.null, .null, .null, .null, .null]) F tyX2 dX4_init_38 inX2 tyX2_ok klX4_30 kaX2 knX2 rfl (fun j hj => by rcases (show j = 0 ∨ j = 1 ∨ j = 2 ∨ j = 3 ∨ j = 4 by omega) with rfl | rfl | rfl | rfl | rfl <;> rfl) (Nat.le_of_ble_eq_true rfl) (Nat.le_of_ble_eq_true rfl) (fun he => ?_)
  refine z_dup F dX4_init_41 rfl ?_
  refine z_callINv (ret := none) (w1 := ((q, .inr (4, [.ref hc, .ref hu, .ref hd, .null])) :: (wC hc c1 c2 c3 c4 cA (fun _ => 0) (fun _ => 0) (fun _ => 0) (fun _ => 0) 0 0 ++ (wU hu u1 u2 u3 u4 u5 cA (fun _ => 0) (fun _ => 0) (fun _ => 0) (fun _ => 0) (fun _ => 0) 0 ++ wH hd d1 d2 cA (fun _ => 0) (fun _ => 0) 0 0 false false)))) (w3 := []) F (c_X2_init_new he) (zcnI F.2.2.2.2.1 kcX2_init (nlX4_32 F.2.2.2.2.2.2.2.1) kiX2_init knX2 rfl hdX2_init rfl rfl ⟨(Nat.le_of_ble_eq_true rfl), (Nat.le_of_ble_eq_true rfl)⟩) dX4_init_42 rfl rfl rfl (Nat.le_of_ble_eq_true rfl) ⟨(Nat.le_of_ble_eq_true rfl), (Nat.le_of_ble_eq_true rfl)⟩ ?_
  rintro w2 ⟨e1, e2, e3, e4, e5, rfl⟩
  refine z_putF (ci := 4) (C := RX4) (T := TX4) (N := 4) (ty := (.object "BoxChoice$ExactSearch")) F 0 3 dX4_init_45 inX4 tyX4 tyX4_ok nmX4 kfX4_33 rfl rfl rfl (by decide) rfl hnm rfl (by decide +kernel) rfl rfl (Nat.le_of_ble_eq_true rfl) ?_
  exact z_vret F hr hlk dX4_init_48 ⟨fun k => [q, hc, c1, c2, c3, c4, hu, u1, u2, u3, u4, u5, hd, d1, d2, he, e1, e2, e3, e4, e5].getD k 0, rfl, rfl⟩ (Nat.le_of_ble_eq_true rfl) (Nat.le_of_ble_eq_true rfl)
end
section
/-! ===== the class on numbers ===== -/
theorem zset_and (P Q : Nat → Bool) (n : Nat) : zset P n &&& zset Q n = zset (fun x => P x && Q x) n := by
  apply Nat.eq_of_testBit_eq
  intro i
  rw [Nat.testBit_and, zset_bit, zset_bit, zset_bit]
  cases decide (i < n) <;> simp
theorem zset_no {P : Nat → Bool} {n : Nat} (h : ∀ j, P j = false) : zset P n = 0 := by
  apply Nat.eq_of_testBit_eq
  intro i
  rw [zset_bit, h i, Bool.and_false, Nat.zero_testBit]
theorem zche_cg {P Q : Nat → Bool} {co : Nat → Nat} : ∀ n, (∀ j, j < n → P j = Q j) → zche P co n = zche Q co n
  | 0, _ => rfl
  | n + 1, h => by
    show (bif P n then _ else _) = (bif Q n then _ else _)
    rw [h n (by omega), zche_cg n (fun j hj => h j (by omega))]
/-- whether a set suits box x by kinds, sizes, weights -/
def zfc (ro lo ks : Nat → Nat) (sl : Nat) (si we ki : Nat → Nat) (nu a x : Nat) : Bool := decide (zd (zuni (fun y => 2 ^ ki y) a nu) (ks x) = 0) && decide (zsum si a nu + sl ≤ ro x) && decide (zsum we a nu ≤ lo x)
def zapt (ap : Nat → Nat) (nu a : Nat) : Bool := zany (fun x => a.testBit x && decide (¬ ap x &&& a = 0)) nu
def zwhl (tg : Nat → Nat) (nu a : Nat) : Bool := !zany (fun x => a.testBit x && decide (¬ zd (tg x) a = 0)) nu
/-- whether a set fits box x -/
def zff (ro lo ks : Nat → Nat) (sl : Nat) (si we ki ap tg : Nat → Nat) (nu a x : Nat) : Bool := !zapt ap nu a && (zwhl tg nu a && zfc ro lo ks sl si we ki nu a x)
/-- the bounds of the state -/
def zok (ro lo co ks : Nat → Nat) (nb sl : Nat) (si we ki ap tg : Nat → Nat) (nu : Nat) : Prop :=
  nb ≤ 6 ∧ sl ≤ 1000 ∧ nu ≤ 8 ∧ (∀ x, ro x ≤ 1000) ∧ (∀ x, lo x ≤ 1000) ∧ (∀ x, co x ≤ 1000) ∧ (∀ x, ks x < 256) ∧ (∀ x, si x ≤ 1000) ∧ (∀ x, we x ≤ 1000) ∧ (∀ x, ki x < 8) ∧ (∀ x, ap x < 256) ∧ ∀ x, tg x < 256
abbrev zCh : Type := (Nat → Nat) × (Nat → Nat) × Nat × Nat
/-- a company comes into the first box that it fits, else into a new one -/
def zputc (FF : Nat → Nat → Bool) (co : Nat → Nat) (nb k : Nat) (h : zCh) : Bool × zCh := match zfst (fun i => decide (h.1 i < nb) && FF (h.2.1 i ||| k) (h.1 i)) h.2.2.1 with
  | some i => (true, (h.1, zu h.2.1 i (h.2.1 i ||| k), h.2.2.1, h.2.2.2))
  | none => match zche (FF k) co nb with
    | none => (false, h)
    | some b => (true, (zu h.1 h.2.2.1 b, zu h.2.1 h.2.2.1 k, h.2.2.1 + 1, h.2.2.2 + co b))
def zokH (h : zCh) : Prop := h.2.2.1 ≤ 8 ∧ (∀ i, h.1 i < 6) ∧ ∀ i, h.2.1 i < 256
theorem zputc_s {FF : Nat → Nat → Bool} {co : Nat → Nat} {nb k i : Nat} {h : zCh} (hf : zfst (fun i => decide (h.1 i < nb) && FF (h.2.1 i ||| k) (h.1 i)) h.2.2.1 = some i) : zputc FF co nb k h = (true, (h.1, zu h.2.1 i (h.2.1 i ||| k), h.2.2.1, h.2.2.2)) := by
  unfold zputc
  rw [hf]
theorem zputc_n {FF : Nat → Nat → Bool} {co : Nat → Nat} {nb k : Nat} {h : zCh} (hf : zfst (fun i => decide (h.1 i < nb) && FF (h.2.1 i ||| k) (h.1 i)) h.2.2.1 = none) (hc : zche (FF k) co nb = none) : zputc FF co nb k h = (false, h) := by
  unfold zputc
  rw [hf]
  show (match zche (FF k) co nb with | none => _ | some b => _) = _
  rw [hc]
theorem zputc_b {FF : Nat → Nat → Bool} {co : Nat → Nat} {nb k b : Nat} {h : zCh} (hf : zfst (fun i => decide (h.1 i < nb) && FF (h.2.1 i ||| k) (h.1 i)) h.2.2.1 = none) (hc : zche (FF k) co nb = some b) : zputc FF co nb k h = (true, (zu h.1 h.2.2.1 b, zu h.2.1 h.2.2.1 k, h.2.2.1 + 1, h.2.2.2 + co b)) := by
  unfold zputc
  rw [hf]
  show (match zche (FF k) co nb with | none => _ | some b => _) = _
  rw [hc]
/-- a store keeps a bound -/
theorem zu_b {f : Nat → Nat} {k v M : Nat} (h : ∀ i, f i < M) (hv : v < M) : ∀ i, zu f k v i < M := by
  intro i
  unfold zu
  by_cases q : i = k
  · rw [if_pos q]; exact hv
  · rw [if_neg q]; exact h i
theorem zu_le {f : Nat → Nat} {k v M : Nat} (h : ∀ i, f i ≤ M) (hv : v ≤ M) : ∀ i, zu f k v i ≤ M := by
  intro i
  unfold zu
  by_cases q : i = k
  · rw [if_pos q]; exact hv
  · rw [if_neg q]; exact h i
theorem zputc_ok {FF : Nat → Nat → Bool} {co : Nat → Nat} {nb k : Nat} {h : zCh} (ok : zokH h) (hb : nb ≤ 6) (hk : k < 256) (hn : h.2.2.1 < 8) : zokH (zputc FF co nb k h).2 ∧ (zputc FF co nb k h).2.2.2.1 ≤ h.2.2.1 + 1 := by
  obtain ⟨h1, h2, h3⟩ := ok
  cases hf : zfst (fun i => decide (h.1 i < nb) && FF (h.2.1 i ||| k) (h.1 i)) h.2.2.1 with
  | some i =>
    rw [zputc_s hf]
    exact ⟨⟨h1, h2, zu_b h3 (Nat.or_lt_two_pow (n := 8) (h3 i) hk)⟩, Nat.le_succ _⟩
  | none =>
    cases hc : zche (FF k) co nb with
    | none => rw [zputc_n hf hc]; exact ⟨⟨h1, h2, h3⟩, Nat.le_succ _⟩
    | some b =>
      rw [zputc_b hf hc]
      have := (zche_lt hc).1
      exact ⟨⟨hn, zu_b h2 (by omega), zu_b h3 hk⟩, Nat.le_refl _⟩
/-- the rule: unit after unit; whether it goes on, who is placed, the choice -/
abbrev zR : Type := Bool × Nat × zCh
def zrs (FF : Nat → Nat → Bool) (co : Nat → Nat) (nb : Nat) (cm : Nat → Nat) (u : Nat) (t : zR) : zR :=
  bif t.1 then (bif t.2.1.testBit u then t else ((zputc FF co nb (cm u) t.2.2).1, t.2.1 ||| cm u, (zputc FF co nb (cm u) t.2.2).2)) else t
def zbr (FF : Nat → Nat → Bool) (co : Nat → Nat) (nb : Nat) (cm : Nat → Nat) (h : zCh) : Nat → zR
  | 0 => (true, 0, h)
  | u + 1 => zrs FF co nb cm u (zbr FF co nb cm h u)
theorem zbr_up {FF : Nat → Nat → Bool} {co : Nat → Nat} {nb : Nat} {cm : Nat → Nat} {h : zCh} {u : Nat} (hf : (zbr FF co nb cm h u).1 = false) : ∀ d, zbr FF co nb cm h (u + d) = zbr FF co nb cm h u
  | 0 => rfl
  | d + 1 => by
    have e := zbr_up hf d
    show zrs FF co nb cm (u + d) (zbr FF co nb cm h (u + d)) = _
    rw [e]
    unfold zrs
    rw [hf]; rfl
theorem zrs_k {FF : Nat → Nat → Bool} {co : Nat → Nat} {nb : Nat} {cm : Nat → Nat} {u : Nat} {t : zR} (h1 : t.1 = true) (h2 : t.2.1.testBit u = true) : zrs FF co nb cm u t = t := by
  unfold zrs
  rw [h1, h2]; rfl
theorem zrs_p {FF : Nat → Nat → Bool} {co : Nat → Nat} {nb : Nat} {cm : Nat → Nat} {u : Nat} {t : zR} (h1 : t.1 = true) (h2 : t.2.1.testBit u = false) : zrs FF co nb cm u t = ((zputc FF co nb (cm u) t.2.2).1, t.2.1 ||| cm u, (zputc FF co nb (cm u) t.2.2).2) := by
  unfold zrs
  rw [h1, h2]; rfl
theorem zbr_ok {FF : Nat → Nat → Bool} {co : Nat → Nat} {nb : Nat} {cm : Nat → Nat} {h : zCh} (ok : zokH h) (h0 : h.2.2.1 = 0) (hb : nb ≤ 6) (hc : ∀ u, u < 8 → cm u < 256) : ∀ u, u ≤ 8 → zokH (zbr FF co nb cm h u).2.2 ∧ (zbr FF co nb cm h u).2.2.2.2.1 ≤ u ∧ (zbr FF co nb cm h u).2.1 < 256
  | 0, _ => ⟨ok, by show h.2.2.1 ≤ 0; omega, by show 0 < 256; decide⟩
  | u + 1, hu => by
    obtain ⟨g1, g2, g3⟩ := zbr_ok (FF := FF) (co := co) ok h0 hb hc u (by omega)
    show zokH (zrs FF co nb cm u (zbr FF co nb cm h u)).2.2 ∧ (zrs FF co nb cm u (zbr FF co nb cm h u)).2.2.2.2.1 ≤ u + 1 ∧ (zrs FF co nb cm u (zbr FF co nb cm h u)).2.1 < 256
    cases e1 : (zbr FF co nb cm h u).1 with
    | false =>
      unfold zrs
      rw [e1]
      exact ⟨g1, by show (zbr FF co nb cm h u).2.2.2.2.1 ≤ u + 1; omega, g3⟩
    | true =>
      cases e2 : (zbr FF co nb cm h u).2.1.testBit u with
      | true => rw [zrs_k e1 e2]; exact ⟨g1, by omega, g3⟩
      | false =>
        rw [zrs_p e1 e2]
        obtain ⟨k1, k2⟩ := zputc_ok (FF := FF) (co := co) g1 hb (hc u (by omega)) (by omega)
        exact ⟨k1, by show (zputc FF co nb (cm u) (zbr FF co nb cm h u).2.2).2.2.2.1 ≤ u + 1; omega, Nat.or_lt_two_pow (n := 8) g3 (hc u (by omega))⟩
/-- the boxes offered for the sets below x -/
abbrev zO : Type := (Nat → Option Nat) × (Nat → Nat)
def zos (FF : Nat → Nat → Bool) (co : Nat → Nat) (nb : Nat) (x : Nat) (t : zO) : zO := match zche (FF x) co nb with
  | none => t
  | some b => (zuo t.1 x (some b), zu t.2 x (co b))
theorem zos_n {FF : Nat → Nat → Bool} {co : Nat → Nat} {nb x : Nat} {t : zO} (h : zche (FF x) co nb = none) : zos FF co nb x t = t := by unfold zos; rw [h]
theorem zos_s {FF : Nat → Nat → Bool} {co : Nat → Nat} {nb x b : Nat} {t : zO} (h : zche (FF x) co nb = some b) : zos FF co nb x t = (zuo t.1 x (some b), zu t.2 x (co b)) := by unfold zos; rw [h]
def zokO (t : zO) : Prop := (∀ x, t.2 x ≤ 1000) ∧ ∀ x b, t.1 x = some b → b < 6
theorem zos_ok {FF : Nat → Nat → Bool} {co : Nat → Nat} {nb x : Nat} {t : zO} (hb : nb ≤ 6) (hc : ∀ x, co x ≤ 1000) (h : zokO t) : zokO (zos FF co nb x t) := by
  cases hz : zche (FF x) co nb with
  | none => rw [zos_n hz]; exact h
  | some b =>
    rw [zos_s hz]
    refine ⟨zu_le h.1 (hc b), fun y d hy => ?_⟩
    have hy : zuo t.1 x (some b) y = some d := hy
    by_cases q : y = x
    · subst q
      rw [zuo_s] at hy
      cases hy
      have := (zche_lt hz).1
      omega
    · rw [zuo_n q] at hy
      exact h.2 y d hy
/-- the search's tables as putBest begins -/
def zt0 (lc : Nat → Option Nat) (fb fs : Nat → Nat) : zT := (zuo (zclr lc 64) 0 (some 0), zu fb 0 0, fs)
theorem zt0_ok {ob : Nat → Option Nat} {oc : Nat → Nat} (lc : Nat → Option Nat) (fb fs : Nat → Nat) (h : zokO (ob, oc)) : zEok ob oc (zt0 lc fb fs) := by
  refine ⟨h.1, h.2, fun x hx L hL => ?_⟩
  have hL : zuo (zclr lc 64) 0 (some 0) x = some L := hL
  by_cases q : x = 0
  · subst q
    rw [zuo_s] at hL
    cases hL
    exact ⟨Nat.zero_le _, by show zu fb 0 0 0 ≤ 0; rw [zu_s]; exact Nat.le_refl _, fun h => absurd h (by decide)⟩
  · rw [zuo_n q] at hL
    unfold zclr at hL
    rw [if_pos hx] at hL
    cases hL
end
section
theorem zk8 {f : Nat → Nat} {n : Nat} (h : ∀ x, f x < n) (hn : n < 2 ^ 31) : ∀ x, f x < 2 ^ 31 := fun x => Nat.lt_trans (h x) hn
theorem zk9 {f : Nat → Nat} {n : Nat} (h : ∀ x, f x ≤ n) (hn : n < 2 ^ 31) : ∀ x, f x < 2 ^ 31 := fun x => Nat.lt_of_le_of_lt (h x) hn
theorem zsum_b {f : Nat → Nat} {a n : Nat} (h : ∀ x, f x ≤ 1000) (hn : n ≤ 8) : zsum f a n ≤ 8000 := Nat.le_trans (zsum_le a n (fun j _ => h j)) (Nat.mul_le_mul hn (Nat.le_refl 1000))
theorem zuni_b {ki : Nat → Nat} {a n : Nat} (h : ∀ x, ki x < 8) : zuni (fun y => 2 ^ ki y) a n < 2 ^ 8 := zuni_lt a n (fun j _ => Nat.pow_lt_pow_right (by decide) (h j))

set_option maxHeartbeats 4000000 in
set_option maxRecDepth 100000 in
/-- the boxes that carry a set -/
theorem c_X_carry {l : Launch} {D : va_G} {tys : List (ClassId × FieldType)} {ad : Nat → Nat} {cA : ClassId} {ro lo co ks : Nat → Nat} {nb sl : Nat} {si we ki ap tg : Nat → Nat} {nu : Nat} {bn us : Nat → Nat} {nh ct : Nat} {mk ex : Bool} {ob : Nat → Option Nat} {oc : Nat → Nat} {lc : Nat → Option Nat} {fb fs : Nat → Nat} (ok : zok ro lo co ks nb sl si we ki ap tg nu) (a : Nat) (ha : a < 2 ^ 31) : zMi l yX4_boxesThatCarry (zws yX4_boxesThatCarry cX4_boxesThatCarry 2 (some .int)) { frames := 3, cells := 0, slots := 0, locals := 66 } D zcl ((cA, .int) :: tys) zG [.ref (ad 0), .int (nI a)] (wX ad cA ro lo co ks nb sl si we ki ap tg nu bn us nh ct mk ex ob oc lc fb fs) (fun r w2 => r = nI (zset (zfc ro lo ks sl si we ki nu a) nb) ∧ w2 = (wX ad cA ro lo co ks nb sl si we ki ap tg nu bn us nh ct mk ex ob oc lc fb fs)) 0 0 := by
  refine z_ofi (cc := cX4_boxesThatCarry) (maxL := 2) (ret := (some .int)) (by decide) rfl (Nat.le_of_ble_eq_true rfl) ?_
  intro p e s m below meth c A F hr hlk hnm
  obtain ⟨o1, o2, o3, o4, o5, o6, o7, o8, o9, o10, o11, o12⟩ := id ok
  refine z_aload_n F dX4_boxesThatCarry_0 rfl ?_
  refine z_get (ci := 4) (C := RX4) (T := TX4) (N := 4) F 0 0 dX4_boxesThatCarry_1 inX4 kfX4_12 rfl rfl rfl (by decide) rfl ?_
  refine z_aload_n F dX4_boxesThatCarry_4 rfl ?_
  refine z_get (ci := 4) (C := RX4) (T := TX4) (N := 4) F 0 1 dX4_boxesThatCarry_5 inX4 kfX4_19 rfl rfl rfl (by decide) rfl ?_
  refine z_iload_n F dX4_boxesThatCarry_8 rfl ?_
  refine z_callVi (w1 := ((ad 0, .inr (4, [.ref (ad 1), .ref (ad 6), .ref (ad 12), .ref (ad 15)])) :: wC (ad 1) (ad 2) (ad 3) (ad 4) (ad 5) cA ro lo co ks nb sl)) (w3 := (wH (ad 12) (ad 13) (ad 14) cA bn us nh ct mk ex ++ wE (ad 15) (ad 16) (ad 17) (ad 18) (ad 19) (ad 20) cA ob oc lc fb fs)) F (c_U_kindsOf o3 (fun x => Nat.lt_trans (o10 x) (by decide)) a ha) 0 rfl rfl (zcwV F.2.2.2.2.1 kcX3_kindsOf kmX4_142 kiX3_kindsOf ksX3_kindsOf knX3 hdX3_kindsOf rfl rfl ⟨(Nat.le_of_ble_eq_true rfl), (Nat.le_of_ble_eq_true rfl)⟩) dX4_boxesThatCarry_9 rfl rfl rfl (Nat.le_of_ble_eq_true rfl) ⟨(Nat.le_of_ble_eq_true rfl), (Nat.le_of_ble_eq_true rfl)⟩ ?_
  rintro r w2 ⟨rfl, rfl⟩
  refine z_eq (ws2 := (wX ad cA ro lo co ks nb sl si we ki ap tg nu bn us nh ct mk ex ob oc lc fb fs)) rfl rfl rfl rfl ?_
  refine z_callVi (w1 := [(ad 0, .inr (4, [.ref (ad 1), .ref (ad 6), .ref (ad 12), .ref (ad 15)]))]) (w3 := (wU (ad 6) (ad 7) (ad 8) (ad 9) (ad 10) (ad 11) cA si we ki ap tg nu ++ (wH (ad 12) (ad 13) (ad 14) cA bn us nh ct mk ex ++ wE (ad 15) (ad 16) (ad 17) (ad 18) (ad 19) (ad 20) cA ob oc lc fb fs))) F (c_C_thatTake o1 (zuni (fun y => 2 ^ ki y) a nu) (Nat.lt_trans (zuni_b o10) (by decide))) 0 rfl rfl (zcwV F.2.2.2.2.1 kcX0_thatTake kmX4_145 kiX0_thatTake ksX0_thatTake knX0 hdX0_thatTake rfl rfl ⟨(Nat.le_of_ble_eq_true rfl), (Nat.le_of_ble_eq_true rfl)⟩) dX4_boxesThatCarry_12 rfl rfl rfl (Nat.le_of_ble_eq_true rfl) ⟨(Nat.le_of_ble_eq_true rfl), (Nat.le_of_ble_eq_true rfl)⟩ ?_
  rintro r w2 ⟨rfl, rfl⟩
  refine z_eq (ws2 := (wX ad cA ro lo co ks nb sl si we ki ap tg nu bn us nh ct mk ex ob oc lc fb fs)) rfl rfl rfl rfl ?_
  refine z_aload_n F dX4_boxesThatCarry_15 rfl ?_
  refine z_get (ci := 4) (C := RX4) (T := TX4) (N := 4) F 0 0 dX4_boxesThatCarry_16 inX4 kfX4_12 rfl rfl rfl (by decide) rfl ?_
  refine z_aload_n F dX4_boxesThatCarry_19 rfl ?_
  refine z_get (ci := 4) (C := RX4) (T := TX4) (N := 4) F 0 1 dX4_boxesThatCarry_20 inX4 kfX4_19 rfl rfl rfl (by decide) rfl ?_
  refine z_iload_n F dX4_boxesThatCarry_23 rfl ?_
  refine z_callVi (w1 := ((ad 0, .inr (4, [.ref (ad 1), .ref (ad 6), .ref (ad 12), .ref (ad 15)])) :: wC (ad 1) (ad 2) (ad 3) (ad 4) (ad 5) cA ro lo co ks nb sl)) (w3 := (wH (ad 12) (ad 13) (ad 14) cA bn us nh ct mk ex ++ wE (ad 15) (ad 16) (ad 17) (ad 18) (ad 19) (ad 20) cA ob oc lc fb fs)) F (c_U_sizeOf o3 a ha) 0 rfl rfl (zcwV F.2.2.2.2.1 kcX3_sizeOf kmX4_128 kiX3_sizeOf ksX3_sizeOf knX3 hdX3_sizeOf rfl rfl ⟨(Nat.le_of_ble_eq_true rfl), (Nat.le_of_ble_eq_true rfl)⟩) dX4_boxesThatCarry_24 rfl rfl rfl (Nat.le_of_ble_eq_true rfl) ⟨(Nat.le_of_ble_eq_true rfl), (Nat.le_of_ble_eq_true rfl)⟩ ?_
  rintro r w2 ⟨rfl, rfl⟩
  refine z_eq (ws2 := (wX ad cA ro lo co ks nb sl si we ki ap tg nu bn us nh ct mk ex ob oc lc fb fs)) rfl rfl rfl rfl ?_
  refine z_callVi (w1 := [(ad 0, .inr (4, [.ref (ad 1), .ref (ad 6), .ref (ad 12), .ref (ad 15)]))]) (w3 := (wU (ad 6) (ad 7) (ad 8) (ad 9) (ad 10) (ad 11) cA si we ki ap tg nu ++ (wH (ad 12) (ad 13) (ad 14) cA bn us nh ct mk ex ++ wE (ad 15) (ad 16) (ad 17) (ad 18) (ad 19) (ad 20) cA ob oc lc fb fs))) F (c_C_withRoomFor o1 (zk9 o4 (by decide)) (zsum si a nu) (by have := zsum_b (a := a) o8 o3; omega)) 0 rfl rfl (zcwV F.2.2.2.2.1 kcX0_withRoomFor kmX4_148 kiX0_withRoomFor ksX0_withRoomFor knX0 hdX0_withRoomFor rfl rfl ⟨(Nat.le_of_ble_eq_true rfl), (Nat.le_of_ble_eq_true rfl)⟩) dX4_boxesThatCarry_27 rfl rfl rfl (Nat.le_of_ble_eq_true rfl) ⟨(Nat.le_of_ble_eq_true rfl), (Nat.le_of_ble_eq_true rfl)⟩ ?_
  rintro r w2 ⟨rfl, rfl⟩
  refine z_eq (ws2 := (wX ad cA ro lo co ks nb sl si we ki ap tg nu bn us nh ct mk ex ob oc lc fb fs)) rfl rfl rfl rfl ?_
  refine z_iand F dX4_boxesThatCarry_30 ?_
  refine z_topi (y := nI (zset (fun x => decide (zd (zuni (fun y => 2 ^ ki y) a nu) (ks x) = 0)) nb &&& zset (fun x => decide (zsum si a nu + sl ≤ ro x)) nb)) (zb_and _ _) ?_
  refine z_aload_n F dX4_boxesThatCarry_31 rfl ?_
  refine z_get (ci := 4) (C := RX4) (T := TX4) (N := 4) F 0 0 dX4_boxesThatCarry_32 inX4 kfX4_12 rfl rfl rfl (by decide) rfl ?_
  refine z_aload_n F dX4_boxesThatCarry_35 rfl ?_
  refine z_get (ci := 4) (C := RX4) (T := TX4) (N := 4) F 0 1 dX4_boxesThatCarry_36 inX4 kfX4_19 rfl rfl rfl (by decide) rfl ?_
  refine z_iload_n F dX4_boxesThatCarry_39 rfl ?_
  refine z_callVi (w1 := ((ad 0, .inr (4, [.ref (ad 1), .ref (ad 6), .ref (ad 12), .ref (ad 15)])) :: wC (ad 1) (ad 2) (ad 3) (ad 4) (ad 5) cA ro lo co ks nb sl)) (w3 := (wH (ad 12) (ad 13) (ad 14) cA bn us nh ct mk ex ++ wE (ad 15) (ad 16) (ad 17) (ad 18) (ad 19) (ad 20) cA ob oc lc fb fs)) F (c_U_weightOf o3 a ha) 0 rfl rfl (zcwV F.2.2.2.2.1 kcX3_weightOf kmX4_131 kiX3_weightOf ksX3_weightOf knX3 hdX3_weightOf rfl rfl ⟨(Nat.le_of_ble_eq_true rfl), (Nat.le_of_ble_eq_true rfl)⟩) dX4_boxesThatCarry_40 rfl rfl rfl (Nat.le_of_ble_eq_true rfl) ⟨(Nat.le_of_ble_eq_true rfl), (Nat.le_of_ble_eq_true rfl)⟩ ?_
  rintro r w2 ⟨rfl, rfl⟩
  refine z_eq (ws2 := (wX ad cA ro lo co ks nb sl si we ki ap tg nu bn us nh ct mk ex ob oc lc fb fs)) rfl rfl rfl rfl ?_
  refine z_callVi (w1 := [(ad 0, .inr (4, [.ref (ad 1), .ref (ad 6), .ref (ad 12), .ref (ad 15)]))]) (w3 := (wU (ad 6) (ad 7) (ad 8) (ad 9) (ad 10) (ad 11) cA si we ki ap tg nu ++ (wH (ad 12) (ad 13) (ad 14) cA bn us nh ct mk ex ++ wE (ad 15) (ad 16) (ad 17) (ad 18) (ad 19) (ad 20) cA ob oc lc fb fs))) F (c_C_thatBear o1 (zk9 o5 (by decide)) (zsum we a nu) (by have := zsum_b (a := a) o9 o3; omega)) 0 rfl rfl (zcwV F.2.2.2.2.1 kcX0_thatBear kmX4_151 kiX0_thatBear ksX0_thatBear knX0 hdX0_thatBear rfl rfl ⟨(Nat.le_of_ble_eq_true rfl), (Nat.le_of_ble_eq_true rfl)⟩) dX4_boxesThatCarry_43 rfl rfl rfl (Nat.le_of_ble_eq_true rfl) ⟨(Nat.le_of_ble_eq_true rfl), (Nat.le_of_ble_eq_true rfl)⟩ ?_
  rintro r w2 ⟨rfl, rfl⟩
  refine z_eq (ws2 := (wX ad cA ro lo co ks nb sl si we ki ap tg nu bn us nh ct mk ex ob oc lc fb fs)) rfl rfl rfl rfl ?_
  refine z_iand F dX4_boxesThatCarry_46 ?_
  refine z_topi (y := nI ((zset (fun x => decide (zd (zuni (fun y => 2 ^ ki y) a nu) (ks x) = 0)) nb &&& zset (fun x => decide (zsum si a nu + sl ≤ ro x)) nb) &&& zset (fun x => decide (zsum we a nu ≤ lo x)) nb)) (zb_and _ _) ?_
  exact z_iret F hr rfl hlk dX4_boxesThatCarry_47 ⟨by rw [zset_and, zset_and]; rfl, rfl⟩ (Nat.le_of_ble_eq_true rfl) (Nat.le_of_ble_eq_true rfl)

section ZFF
variable {ro lo ks : Nat → Nat} {sl : Nat} {si we ki ap tg : Nat → Nat} {nu a x : Nat}
theorem zff_a (h : zapt ap nu a = true) : zff ro lo ks sl si we ki ap tg nu a x = false := by unfold zff; rw [h]; rfl
theorem zff_w (h : zwhl tg nu a = false) : zff ro lo ks sl si we ki ap tg nu a x = false := by unfold zff; rw [h, Bool.false_and, Bool.and_false]
theorem zff_c (h : zapt ap nu a = false) (h2 : zwhl tg nu a = true) : zfc ro lo ks sl si we ki nu a x = zff ro lo ks sl si we ki ap tg nu a x := by unfold zff; rw [h, h2]; rfl
end ZFF

set_option maxHeartbeats 4000000 in
set_option maxRecDepth 100000 in
/-- the boxes that a set fits -/
theorem c_X_for {l : Launch} {D : va_G} {tys : List (ClassId × FieldType)} {ad : Nat → Nat} {cA : ClassId} {ro lo co ks : Nat → Nat} {nb sl : Nat} {si we ki ap tg : Nat → Nat} {nu : Nat} {bn us : Nat → Nat} {nh ct : Nat} {mk ex : Bool} {ob : Nat → Option Nat} {oc : Nat → Nat} {lc : Nat → Option Nat} {fb fs : Nat → Nat} (ok : zok ro lo co ks nb sl si we ki ap tg nu) (a : Nat) (ha : a < 2 ^ 31) : zMi l yX4_boxesFor (zws yX4_boxesFor cX4_boxesFor 2 (some .int)) { frames := 4, cells := 0, slots := 0, locals := 87 } D zcl ((cA, .int) :: tys) zG [.ref (ad 0), .int (nI a)] (wX ad cA ro lo co ks nb sl si we ki ap tg nu bn us nh ct mk ex ob oc lc fb fs) (fun r w2 => r = nI (zset (zff ro lo ks sl si we ki ap tg nu a) nb) ∧ w2 = (wX ad cA ro lo co ks nb sl si we ki ap tg nu bn us nh ct mk ex ob oc lc fb fs)) 0 0 := by
  refine z_ofi (cc := cX4_boxesFor) (maxL := 2) (ret := (some .int)) (by decide) rfl (Nat.le_of_ble_eq_true rfl) ?_
  intro p e s m below meth c A F hr hlk hnm
  obtain ⟨o1, o2, o3, o4, o5, o6, o7, o8, o9, o10, o11, o12⟩ := id ok
  refine z_aload_n F dX4_boxesFor_0 rfl ?_
  refine z_get (ci := 4) (C := RX4) (T := TX4) (N := 4) F 0 1 dX4_boxesFor_1 inX4 kfX4_19 rfl rfl rfl (by decide) rfl ?_
  refine z_iload_n F dX4_boxesFor_4 rfl ?_
  refine z_callVi (w1 := ((ad 0, .inr (4, [.ref (ad 1), .ref (ad 6), .ref (ad 12), .ref (ad 15)])) :: wC (ad 1) (ad 2) (ad 3) (ad 4) (ad 5) cA ro lo co ks nb sl)) (w3 := (wH (ad 12) (ad 13) (ad 14) cA bn us nh ct mk ex ++ wE (ad 15) (ad 16) (ad 17) (ad 18) (ad 19) (ad 20) cA ob oc lc fb fs)) F (c_U_anyApart o3 (zk8 o11 (by decide)) a ha) 0 rfl rfl (zcwV F.2.2.2.2.1 kcX3_anyApart kmX4_154 kiX3_anyApart ksX3_anyApart knX3 hdX3_anyApart rfl rfl ⟨(Nat.le_of_ble_eq_true rfl), (Nat.le_of_ble_eq_true rfl)⟩) dX4_boxesFor_5 rfl rfl rfl (Nat.le_of_ble_eq_true rfl) ⟨(Nat.le_of_ble_eq_true rfl), (Nat.le_of_ble_eq_true rfl)⟩ ?_
  rintro r w2 ⟨rfl, rfl⟩
  refine z_eq (ws2 := (wX ad cA ro lo co ks nb sl si we ki ap tg nu bn us nh ct mk ex ob oc lc fb fs)) rfl rfl rfl rfl ?_
  refine z_if_ne (tgt := 22) F dX4_boxesFor_8 (by decide) (fun c8 => ?_) (fun c8 => ?_)
  · refine z_iconst (v := 0) F dX4_boxesFor_22 (by decide) ?_
    exact z_iret F hr rfl hlk dX4_boxesFor_23 ⟨by rw [zset_no (fun j => zff_a (zB_1.mp c8))]; rfl, rfl⟩ (Nat.le_of_ble_eq_true rfl) (Nat.le_of_ble_eq_true rfl)
  · refine z_aload_n F dX4_boxesFor_11 rfl ?_
    refine z_get (ci := 4) (C := RX4) (T := TX4) (N := 4) F 0 1 dX4_boxesFor_12 inX4 kfX4_19 rfl rfl rfl (by decide) rfl ?_
    refine z_iload_n F dX4_boxesFor_15 rfl ?_
    refine z_callVi (w1 := ((ad 0, .inr (4, [.ref (ad 1), .ref (ad 6), .ref (ad 12), .ref (ad 15)])) :: wC (ad 1) (ad 2) (ad 3) (ad 4) (ad 5) cA ro lo co ks nb sl)) (w3 := (wH (ad 12) (ad 13) (ad 14) cA bn us nh ct mk ex ++ wE (ad 15) (ad 16) (ad 17) (ad 18) (ad 19) (ad 20) cA ob oc lc fb fs)) F (c_U_isWhole o3 (zk8 o12 (by decide)) a ha) 0 rfl rfl (zcwV F.2.2.2.2.1 kcX3_isWhole kmX4_197 kiX3_isWhole ksX3_isWhole knX3 hdX3_isWhole rfl rfl ⟨(Nat.le_of_ble_eq_true rfl), (Nat.le_of_ble_eq_true rfl)⟩) dX4_boxesFor_16 rfl rfl rfl (Nat.le_of_ble_eq_true rfl) ⟨(Nat.le_of_ble_eq_true rfl), (Nat.le_of_ble_eq_true rfl)⟩ ?_
    rintro r w2 ⟨rfl, rfl⟩
    refine z_eq (ws2 := (wX ad cA ro lo co ks nb sl si we ki ap tg nu bn us nh ct mk ex ob oc lc fb fs)) rfl rfl rfl rfl ?_
    refine z_if_ne (tgt := 24) F dX4_boxesFor_19 (by decide) (fun c19 => ?_) (fun c19 => ?_)
    · refine z_aload_n F dX4_boxesFor_24 rfl ?_
      refine z_iload_n F dX4_boxesFor_25 rfl ?_
      refine z_callVi0 F (c_X_carry ok a ha) 0 rfl rfl (zcwV F.2.2.2.2.1 kcX4_boxesThatCarry kmX4_160 kiX4_boxesThatCarry ksX4_boxesThatCarry knX4 hdX4_boxesThatCarry rfl rfl ⟨(Nat.le_of_ble_eq_true rfl), (Nat.le_of_ble_eq_true rfl)⟩) dX4_boxesFor_26 rfl rfl (Nat.le_of_ble_eq_true rfl) ⟨(Nat.le_of_ble_eq_true rfl), (Nat.le_of_ble_eq_true rfl)⟩ ?_
      rintro r w2 ⟨rfl, rfl⟩
      exact z_iret F hr rfl hlk dX4_boxesFor_29 ⟨by rw [zset_cg _ (fun j _ => zff_c (zB_0.mp c8) (zB_1.mp c19))], rfl⟩ (Nat.le_of_ble_eq_true rfl) (Nat.le_of_ble_eq_true rfl)
    · refine z_iconst (v := 0) F dX4_boxesFor_22 (by decide) ?_
      exact z_iret F hr rfl hlk dX4_boxesFor_23 ⟨by rw [zset_no (fun j => zff_w (zB_0.mp c19))]; rfl, rfl⟩ (Nat.le_of_ble_eq_true rfl) (Nat.le_of_ble_eq_true rfl)

theorem zset_che {P : Nat → Bool} {co : Nat → Nat} {n : Nat} : zche (fun x => (zset P n).testBit x) co n = zche P co n := zche_cg n (fun j hj => by rw [zset_bit, decide_eq_true hj]; rfl)
theorem zset31 {P : Nat → Bool} {n : Nat} (h : n ≤ 6) : zset P n < 2 ^ 31 := Nat.lt_of_lt_of_le (zset_lt P n) (Nat.pow_le_pow_right (by decide) (by omega))

set_option maxHeartbeats 4000000 in
set_option maxRecDepth 100000 in
/-- putCompany -/
theorem c_X_putCompany {l : Launch} {D : va_G} {tys : List (ClassId × FieldType)} {ad : Nat → Nat} {cA : ClassId} {ro lo co ks : Nat → Nat} {nb sl : Nat} {si we ki ap tg : Nat → Nat} {nu : Nat} {bn us : Nat → Nat} {nh ct : Nat} {mk ex : Bool} {ob : Nat → Option Nat} {oc : Nat → Nat} {lc : Nat → Option Nat} {fb fs : Nat → Nat} (ok : zok ro lo co ks nb sl si we ki ap tg nu) (okh : zokH ((bn, us, nh, ct) : zCh)) (hn : nh < 8) (k : Nat) (hk : k < 256) : zMi l yX4_putCompany (zws yX4_putCompany cX4_putCompany 4 (some .boolean)) { frames := 5, cells := 0, slots := 0, locals := 108 } D zcl ((cA, .int) :: tys) zG [.ref (ad 0), .int (nI k)] (wX ad cA ro lo co ks nb sl si we ki ap tg nu bn us nh ct mk ex ob oc lc fb fs) (fun r w2 => r = zB (zputc (zff ro lo ks sl si we ki ap tg nu) co nb k ((bn, us, nh, ct) : zCh)).1 ∧ w2 = (wX ad cA ro lo co ks nb sl si we ki ap tg nu (zputc (zff ro lo ks sl si we ki ap tg nu) co nb k ((bn, us, nh, ct) : zCh)).2.1 (zputc (zff ro lo ks sl si we ki ap tg nu) co nb k ((bn, us, nh, ct) : zCh)).2.2.1 (zputc (zff ro lo ks sl si we ki ap tg nu) co nb k ((bn, us, nh, ct) : zCh)).2.2.2.1 (zputc (zff ro lo ks sl si we ki ap tg nu) co nb k ((bn, us, nh, ct) : zCh)).2.2.2.2 mk ex ob oc lc fb fs)) 0 0 := by
  refine z_ofi (cc := cX4_putCompany) (maxL := 4) (ret := (some .boolean)) (by decide) rfl (Nat.le_of_ble_eq_true rfl) ?_
  intro p e s m below meth c A F hr hlk hnm
  obtain ⟨o1, o2, o3, o4, o5, o6, o7, o8, o9, o10, o11, o12⟩ := id ok
  obtain ⟨h1, h2, h3⟩ := okh
  have h2 : ∀ i, bn i < 6 := h2
  have h3 : ∀ i, us i < 256 := h3
  have loop : ∀ (n j : Nat), j ≤ nh → nh + 1 ≤ j + n → zfst (fun i => decide (bn i < nb) && zff ro lo ks sl si we ki ap tg nu (us i ||| k) (bn i)) j = none → zW p l e (headSpec (zws yX4_putCompany cX4_putCompany 4 (some .boolean)) { frames := 5, cells := 0, slots := 0, locals := 108 }).room s m [.ref (ad 0), .int (nI k)].toArray below meth c 4 D zcl A 0 0 (MQ below (va_Qi (fun r w2 => r = zB (zputc (zff ro lo ks sl si we ki ap tg nu) co nb k ((bn, us, nh, ct) : zCh)).1 ∧ w2 = (wX ad cA ro lo co ks nb sl si we ki ap tg nu (zputc (zff ro lo ks sl si we ki ap tg nu) co nb k ((bn, us, nh, ct) : zCh)).2.1 (zputc (zff ro lo ks sl si we ki ap tg nu) co nb k ((bn, us, nh, ct) : zCh)).2.2.1 (zputc (zff ro lo ks sl si we ki ap tg nu) co nb k ((bn, us, nh, ct) : zCh)).2.2.2.1 (zputc (zff ro lo ks sl si we ki ap tg nu) co nb k ((bn, us, nh, ct) : zCh)).2.2.2.2 mk ex ob oc lc fb fs)) (zEnd D zcl A) A) [.ref (ad 0), .int (nI k)].toArray s 0 0 A) (wX ad cA ro lo co ks nb sl si we ki ap tg nu bn us nh ct mk ex ob oc lc fb fs) [(0, .ref (ad 0)), (1, .int (nI k)), (2, .int (nI j))] 2 [] := by
    intro n
    induction n with
    | zero => intro j h1 h2; omega
    | succ n ih =>
      intro j hj1 hj2 hz
      refine z_iload_n F dX4_putCompany_2 rfl ?_
      refine z_aload_n F dX4_putCompany_3 rfl ?_
      refine z_get (ci := 4) (C := RX4) (T := TX4) (N := 4) F 0 2 dX4_putCompany_4 inX4 kfX4_26 rfl rfl rfl (by decide) rfl ?_
      refine z_getN (ci := 1) (C := RX1) (T := TX1) (N := 6) F 12 2 dX4_putCompany_7 inX1 (nfX4_111 F.2.2.2.2.2.2.2.1) rfl rfl rfl (by decide) rfl ?_
      refine z_icmp_ge (tgt := 60) F dX4_putCompany_10 (by decide) (fun c10 => ?_) (fun c10 => ?_)
      · have ej := zge_end hj1 (by omega) c10
        rw [ej] at hz
        refine z_aload_n F dX4_putCompany_60 rfl ?_
        refine z_get (ci := 4) (C := RX4) (T := TX4) (N := 4) F 0 0 dX4_putCompany_61 inX4 kfX4_12 rfl rfl rfl (by decide) rfl ?_
        refine z_aload_n F dX4_putCompany_64 rfl ?_
        refine z_iload_n F dX4_putCompany_65 rfl ?_
        refine z_callVi0 F (c_X_for ok k (Nat.lt_trans hk (by decide))) 0 rfl rfl (zcwV F.2.2.2.2.1 kcX4_boxesFor kmX4_205 kiX4_boxesFor ksX4_boxesFor knX4 hdX4_boxesFor rfl rfl ⟨(Nat.le_of_ble_eq_true rfl), (Nat.le_of_ble_eq_true rfl)⟩) dX4_putCompany_66 rfl rfl (Nat.le_of_ble_eq_true rfl) ⟨(Nat.le_of_ble_eq_true rfl), (Nat.le_of_ble_eq_true rfl)⟩ ?_
        rintro r w2 ⟨rfl, rfl⟩
        refine z_callVi (w1 := [(ad 0, .inr (4, [.ref (ad 1), .ref (ad 6), .ref (ad 12), .ref (ad 15)]))]) (w3 := (wU (ad 6) (ad 7) (ad 8) (ad 9) (ad 10) (ad 11) cA si we ki ap tg nu ++ (wH (ad 12) (ad 13) (ad 14) cA bn us nh ct mk ex ++ wE (ad 15) (ad 16) (ad 17) (ad 18) (ad 19) (ad 20) cA ob oc lc fb fs))) F (c_C_cheapestOf o1 (zk9 o6 (by decide)) (zset (zff ro lo ks sl si we ki ap tg nu k) nb) (zset31 o1)) 0 rfl rfl (zcwV F.2.2.2.2.1 kcX0_cheapestOf kmX4_208 kiX0_cheapestOf ksX0_cheapestOf knX0 hdX0_cheapestOf rfl rfl ⟨(Nat.le_of_ble_eq_true rfl), (Nat.le_of_ble_eq_true rfl)⟩) dX4_putCompany_69 rfl rfl rfl (Nat.le_of_ble_eq_true rfl) ⟨(Nat.le_of_ble_eq_true rfl), (Nat.le_of_ble_eq_true rfl)⟩ ?_
        rintro r w2 ⟨rfl, rfl⟩
        refine z_eq (ws2 := (wX ad cA ro lo co ks nb sl si we ki ap tg nu bn us nh ct mk ex ob oc lc fb fs)) rfl rfl rfl rfl ?_
        rw [zset_che]
        rcases hz2 : zche (zff ro lo ks sl si we ki ap tg nu k) co nb with _ | b
        · refine z_istore_n F dX4_putCompany_72 (by decide) ?_
          refine z_iload_n F dX4_putCompany_73 rfl ?_
          refine z_iconst (v := (-1)) F dX4_putCompany_74 (by decide) ?_
          refine z_icmp_ne (tgt := 80) F dX4_putCompany_75 (by decide) (fun c75 => ?_) (fun c75 => ?_)
          · exact absurd rfl c75
          · refine z_iconst (v := 0) F dX4_putCompany_78 (by decide) ?_
            exact z_iret F hr rfl hlk dX4_putCompany_79 ⟨by rw [zputc_n (h := ((bn, us, nh, ct) : zCh)) hz hz2]; rfl, by rw [zputc_n (h := ((bn, us, nh, ct) : zCh)) hz hz2]⟩ (Nat.le_of_ble_eq_true rfl) (Nat.le_of_ble_eq_true rfl)
        · refine z_istore_n F dX4_putCompany_72 (by decide) ?_
          refine z_iload_n F dX4_putCompany_73 rfl ?_
          refine z_iconst (v := (-1)) F dX4_putCompany_74 (by decide) ?_
          refine z_icmp_ne (tgt := 80) F dX4_putCompany_75 (by decide) (fun c75 => ?_) (fun c75 => ?_)
          · refine z_aload_n F dX4_putCompany_80 rfl ?_
            refine z_get (ci := 4) (C := RX4) (T := TX4) (N := 4) F 0 2 dX4_putCompany_81 inX4 kfX4_26 rfl rfl rfl (by decide) rfl ?_
            refine z_iload_n F dX4_putCompany_84 rfl ?_
            refine z_iload_n F dX4_putCompany_85 rfl ?_
            refine z_aload_n F dX4_putCompany_86 rfl ?_
            refine z_get (ci := 4) (C := RX4) (T := TX4) (N := 4) F 0 0 dX4_putCompany_87 inX4 kfX4_12 rfl rfl rfl (by decide) rfl ?_
            refine z_iload_n F dX4_putCompany_90 rfl ?_
            refine z_callVi (w1 := [(ad 0, .inr (4, [.ref (ad 1), .ref (ad 6), .ref (ad 12), .ref (ad 15)]))]) (w3 := (wU (ad 6) (ad 7) (ad 8) (ad 9) (ad 10) (ad 11) cA si we ki ap tg nu ++ (wH (ad 12) (ad 13) (ad 14) cA bn us nh ct mk ex ++ wE (ad 15) (ad 16) (ad 17) (ad 18) (ad 19) (ad 20) cA ob oc lc fb fs))) F (c_C_costOf o1 b (zche_lt hz2).1) 0 rfl rfl (zcwV F.2.2.2.2.1 kcX0_costOf kmX4_211 kiX0_costOf ksX0_costOf knX0 hdX0_costOf rfl rfl ⟨(Nat.le_of_ble_eq_true rfl), (Nat.le_of_ble_eq_true rfl)⟩) dX4_putCompany_91 rfl rfl rfl (Nat.le_of_ble_eq_true rfl) ⟨(Nat.le_of_ble_eq_true rfl), (Nat.le_of_ble_eq_true rfl)⟩ ?_
            rintro r w2 ⟨rfl, rfl⟩
            refine z_eq (ws2 := (wX ad cA ro lo co ks nb sl si we ki ap tg nu bn us nh ct mk ex ob oc lc fb fs)) rfl rfl rfl rfl ?_
            refine z_callVv (w1 := ((ad 0, .inr (4, [.ref (ad 1), .ref (ad 6), .ref (ad 12), .ref (ad 15)])) :: (wC (ad 1) (ad 2) (ad 3) (ad 4) (ad 5) cA ro lo co ks nb sl ++ wU (ad 6) (ad 7) (ad 8) (ad 9) (ad 10) (ad 11) cA si we ki ap tg nu))) (w3 := (wE (ad 15) (ad 16) (ad 17) (ad 18) (ad 19) (ad 20) cA ob oc lc fb fs)) F (c_H_append hn b k (co b)) 0 rfl rfl (zcwV F.2.2.2.2.1 kcX1_append kmX4_228 kiX1_append ksX1_append knX1 hdX1_append rfl rfl ⟨(Nat.le_of_ble_eq_true rfl), (Nat.le_of_ble_eq_true rfl)⟩) dX4_putCompany_94 rfl rfl rfl (Nat.le_of_ble_eq_true rfl) ⟨(Nat.le_of_ble_eq_true rfl), (Nat.le_of_ble_eq_true rfl)⟩ ?_
            rintro w2 rfl
            refine z_eq (ws2 := (wX ad cA ro lo co ks nb sl si we ki ap tg nu (zu bn nh b) (zu us nh k) (nh + 1) (ct + co b) mk ex ob oc lc fb fs)) rfl rfl rfl rfl ?_
            refine z_iconst (v := 1) F dX4_putCompany_97 (by decide) ?_
            exact z_iret F hr rfl hlk dX4_putCompany_98 ⟨by rw [zputc_b (h := ((bn, us, nh, ct) : zCh)) hz hz2]; rfl, by rw [zputc_b (h := ((bn, us, nh, ct) : zCh)) hz hz2]⟩ (Nat.le_of_ble_eq_true rfl) (Nat.le_of_ble_eq_true rfl)
          · exact absurd c75 (zo_ne (by have := (zche_lt hz2).1; omega))
      · have hlt := zge_on (by omega) hj1 c10
        refine z_aload_n F dX4_putCompany_13 rfl ?_
        refine z_get (ci := 4) (C := RX4) (T := TX4) (N := 4) F 0 2 dX4_putCompany_14 inX4 kfX4_26 rfl rfl rfl (by decide) rfl ?_
        refine z_iload_n F dX4_putCompany_17 rfl ?_
        refine z_callVi (w1 := ((ad 0, .inr (4, [.ref (ad 1), .ref (ad 6), .ref (ad 12), .ref (ad 15)])) :: (wC (ad 1) (ad 2) (ad 3) (ad 4) (ad 5) cA ro lo co ks nb sl ++ wU (ad 6) (ad 7) (ad 8) (ad 9) (ad 10) (ad 11) cA si we ki ap tg nu))) (w3 := (wE (ad 15) (ad 16) (ad 17) (ad 18) (ad 19) (ad 20) cA ob oc lc fb fs)) F (c_H_setAt (by omega) j hlt) 0 rfl rfl (zcwV F.2.2.2.2.1 kcX1_setAt kmX4_125 kiX1_setAt ksX1_setAt knX1 hdX1_setAt rfl rfl ⟨(Nat.le_of_ble_eq_true rfl), (Nat.le_of_ble_eq_true rfl)⟩) dX4_putCompany_18 rfl rfl rfl (Nat.le_of_ble_eq_true rfl) ⟨(Nat.le_of_ble_eq_true rfl), (Nat.le_of_ble_eq_true rfl)⟩ ?_
        rintro r w2 ⟨rfl, rfl⟩
        refine z_eq (ws2 := (wX ad cA ro lo co ks nb sl si we ki ap tg nu bn us nh ct mk ex ob oc lc fb fs)) rfl rfl rfl rfl ?_
        refine z_iload_n F dX4_putCompany_21 rfl ?_
        refine z_ior F dX4_putCompany_22 ?_
        refine z_topi (y := nI (us j ||| k)) (zb_or _ _) ?_
        refine z_istore_n F dX4_putCompany_23 (by decide) ?_
        refine z_aload_n F dX4_putCompany_24 rfl ?_
        refine z_iload_n F dX4_putCompany_25 rfl ?_
        refine z_callVi0 F (c_X_for ok (us j ||| k) (Nat.lt_trans (Nat.or_lt_two_pow (n := 8) (h3 j) hk) (by decide))) 0 rfl rfl (zcwV F.2.2.2.2.1 kcX4_boxesFor kmX4_205 kiX4_boxesFor ksX4_boxesFor knX4 hdX4_boxesFor rfl rfl ⟨(Nat.le_of_ble_eq_true rfl), (Nat.le_of_ble_eq_true rfl)⟩) dX4_putCompany_26 rfl rfl (Nat.le_of_ble_eq_true rfl) ⟨(Nat.le_of_ble_eq_true rfl), (Nat.le_of_ble_eq_true rfl)⟩ ?_
        rintro r w2 ⟨rfl, rfl⟩
        refine z_aload_n F dX4_putCompany_29 rfl ?_
        refine z_get (ci := 4) (C := RX4) (T := TX4) (N := 4) F 0 2 dX4_putCompany_30 inX4 kfX4_26 rfl rfl rfl (by decide) rfl ?_
        refine z_iload_n F dX4_putCompany_33 rfl ?_
        refine z_callVi (w1 := ((ad 0, .inr (4, [.ref (ad 1), .ref (ad 6), .ref (ad 12), .ref (ad 15)])) :: (wC (ad 1) (ad 2) (ad 3) (ad 4) (ad 5) cA ro lo co ks nb sl ++ wU (ad 6) (ad 7) (ad 8) (ad 9) (ad 10) (ad 11) cA si we ki ap tg nu))) (w3 := (wE (ad 15) (ad 16) (ad 17) (ad 18) (ad 19) (ad 20) cA ob oc lc fb fs)) F (c_H_boxAt (by omega) j hlt) 0 rfl rfl (zcwV F.2.2.2.2.1 kcX1_boxAt kmX4_121 kiX1_boxAt ksX1_boxAt knX1 hdX1_boxAt rfl rfl ⟨(Nat.le_of_ble_eq_true rfl), (Nat.le_of_ble_eq_true rfl)⟩) dX4_putCompany_34 rfl rfl rfl (Nat.le_of_ble_eq_true rfl) ⟨(Nat.le_of_ble_eq_true rfl), (Nat.le_of_ble_eq_true rfl)⟩ ?_
        rintro r w2 ⟨rfl, rfl⟩
        refine z_eq (ws2 := (wX ad cA ro lo co ks nb sl si we ki ap tg nu bn us nh ct mk ex ob oc lc fb fs)) rfl rfl rfl rfl ?_
        refine z_callSi0 F (c_holds (zset (zff ro lo ks sl si we ki ap tg nu (us j ||| k)) nb) (bn j) (zset31 o1) (Nat.lt_trans (h2 j) (by decide))) (zcwS F.2.2.2.2.1 kcX4_holds kmX4_163 ktX4_holds knX4 hdX4_holds rfl rfl ⟨(Nat.le_of_ble_eq_true rfl), (Nat.le_of_ble_eq_true rfl)⟩) dX4_putCompany_37 rfl rfl (Nat.le_of_ble_eq_true rfl) ⟨(Nat.le_of_ble_eq_true rfl), (Nat.le_of_ble_eq_true rfl)⟩ ?_
        rintro r w2 ⟨rfl, rfl⟩
        refine z_if_eq (tgt := 54) F dX4_putCompany_40 (by decide) (fun c40 => ?_) (fun c40 => ?_)
        · refine z_iinc (v := nI (j + 1)) F dX4_putCompany_54 rfl (nI_1 j) (by decide) ?_
          refine z_goto (tgt := 2) F dX4_putCompany_57 (by decide) ?_
          exact z_lv rfl (ih (j + 1) (by omega) (by omega) (zfst_n hz (by rw [← zset_bit]; exact zB_0.mp c40)))
        · refine z_aload_n F dX4_putCompany_43 rfl ?_
          refine z_get (ci := 4) (C := RX4) (T := TX4) (N := 4) F 0 2 dX4_putCompany_44 inX4 kfX4_26 rfl rfl rfl (by decide) rfl ?_
          refine z_iload_n F dX4_putCompany_47 rfl ?_
          refine z_iload_n F dX4_putCompany_48 rfl ?_
          refine z_callVv (w1 := ((ad 0, .inr (4, [.ref (ad 1), .ref (ad 6), .ref (ad 12), .ref (ad 15)])) :: (wC (ad 1) (ad 2) (ad 3) (ad 4) (ad 5) cA ro lo co ks nb sl ++ wU (ad 6) (ad 7) (ad 8) (ad 9) (ad 10) (ad 11) cA si we ki ap tg nu))) (w3 := (wE (ad 15) (ad 16) (ad 17) (ad 18) (ad 19) (ad 20) cA ob oc lc fb fs)) F (c_H_replaceSet (by omega) j (us j ||| k) hlt) 0 rfl rfl (zcwV F.2.2.2.2.1 kcX1_replaceSet kmX4_224 kiX1_replaceSet ksX1_replaceSet knX1 hdX1_replaceSet rfl rfl ⟨(Nat.le_of_ble_eq_true rfl), (Nat.le_of_ble_eq_true rfl)⟩) dX4_putCompany_49 rfl rfl rfl (Nat.le_of_ble_eq_true rfl) ⟨(Nat.le_of_ble_eq_true rfl), (Nat.le_of_ble_eq_true rfl)⟩ ?_
          rintro w2 rfl
          refine z_eq (ws2 := (wX ad cA ro lo co ks nb sl si we ki ap tg nu bn (zu us j (us j ||| k)) nh ct mk ex ob oc lc fb fs)) rfl rfl rfl rfl ?_
          refine z_iconst (v := 1) F dX4_putCompany_52 (by decide) ?_
          exact z_iret F hr rfl hlk dX4_putCompany_53 ⟨by rw [zputc_s (h := ((bn, us, nh, ct) : zCh)) (zfst_at hz (by rw [← zset_bit]; exact zB_1.mp c40) hlt)]; rfl, by rw [zputc_s (h := ((bn, us, nh, ct) : zCh)) (zfst_at hz (by rw [← zset_bit]; exact zB_1.mp c40) hlt)]⟩ (Nat.le_of_ble_eq_true rfl) (Nat.le_of_ble_eq_true rfl)
  refine z_iconst (v := 0) F dX4_putCompany_0 (by decide) ?_
  refine z_istore_n F dX4_putCompany_1 (by decide) ?_
  exact z_lv rfl (loop (nh + 1) 0 (by omega) (by omega) rfl)
end
section
set_option maxHeartbeats 4000000 in
set_option maxRecDepth 100000 in
/-- putByRule -/
theorem c_X_putByRule {l : Launch} {D : va_G} {tys : List (ClassId × FieldType)} {ad : Nat → Nat} {cA : ClassId} {ro lo co ks : Nat → Nat} {nb sl : Nat} {si we ki ap tg : Nat → Nat} {nu : Nat} {bn us : Nat → Nat} {nh ct : Nat} {mk ex : Bool} {ob : Nat → Option Nat} {oc : Nat → Nat} {lc : Nat → Option Nat} {fb fs : Nat → Nat} (ok : zok ro lo co ks nb sl si we ki ap tg nu) (okh : zokH ((bn, us, nh, ct) : zCh)) (h0 : nh = 0) : zMi l yX4_putByRule (zws yX4_putByRule cX4_putByRule 4 (some .boolean)) { frames := 6, cells := 0, slots := 0, locals := 131 } D zcl ((cA, .int) :: tys) zG [.ref (ad 0)] (wX ad cA ro lo co ks nb sl si we ki ap tg nu bn us nh ct mk ex ob oc lc fb fs) (fun r w2 => r = zB (zbr (zff ro lo ks sl si we ki ap tg nu) co nb (fun u => zco tg nu u nu) ((bn, us, nh, ct) : zCh) nu).1 ∧ w2 = (wX ad cA ro lo co ks nb sl si we ki ap tg nu (zbr (zff ro lo ks sl si we ki ap tg nu) co nb (fun u => zco tg nu u nu) ((bn, us, nh, ct) : zCh) nu).2.2.1 (zbr (zff ro lo ks sl si we ki ap tg nu) co nb (fun u => zco tg nu u nu) ((bn, us, nh, ct) : zCh) nu).2.2.2.1 (zbr (zff ro lo ks sl si we ki ap tg nu) co nb (fun u => zco tg nu u nu) ((bn, us, nh, ct) : zCh) nu).2.2.2.2.1 (zbr (zff ro lo ks sl si we ki ap tg nu) co nb (fun u => zco tg nu u nu) ((bn, us, nh, ct) : zCh) nu).2.2.2.2.2 mk ex ob oc lc fb fs)) 0 0 := by
  refine z_ofi (cc := cX4_putByRule) (maxL := 4) (ret := (some .boolean)) (by decide) rfl (Nat.le_of_ble_eq_true rfl) ?_
  intro p e s m below meth c A F hr hlk hnm
  obtain ⟨o1, o2, o3, o4, o5, o6, o7, o8, o9, o10, o11, o12⟩ := id ok
  have loop : ∀ (n u : Nat), u ≤ nu → nu + 1 ≤ u + n → (zbr (zff ro lo ks sl si we ki ap tg nu) co nb (fun u => zco tg nu u nu) ((bn, us, nh, ct) : zCh) u).1 = true → zW p l e (headSpec (zws yX4_putByRule cX4_putByRule 4 (some .boolean)) { frames := 6, cells := 0, slots := 0, locals := 131 }).room s m [.ref (ad 0)].toArray below meth c 4 D zcl A 0 0 (MQ below (va_Qi (fun r w2 => r = zB (zbr (zff ro lo ks sl si we ki ap tg nu) co nb (fun u => zco tg nu u nu) ((bn, us, nh, ct) : zCh) nu).1 ∧ w2 = (wX ad cA ro lo co ks nb sl si we ki ap tg nu (zbr (zff ro lo ks sl si we ki ap tg nu) co nb (fun u => zco tg nu u nu) ((bn, us, nh, ct) : zCh) nu).2.2.1 (zbr (zff ro lo ks sl si we ki ap tg nu) co nb (fun u => zco tg nu u nu) ((bn, us, nh, ct) : zCh) nu).2.2.2.1 (zbr (zff ro lo ks sl si we ki ap tg nu) co nb (fun u => zco tg nu u nu) ((bn, us, nh, ct) : zCh) nu).2.2.2.2.1 (zbr (zff ro lo ks sl si we ki ap tg nu) co nb (fun u => zco tg nu u nu) ((bn, us, nh, ct) : zCh) nu).2.2.2.2.2 mk ex ob oc lc fb fs)) (zEnd D zcl A) A) [.ref (ad 0)].toArray s 0 0 A) (wX ad cA ro lo co ks nb sl si we ki ap tg nu (zbr (zff ro lo ks sl si we ki ap tg nu) co nb (fun u => zco tg nu u nu) ((bn, us, nh, ct) : zCh) u).2.2.1 (zbr (zff ro lo ks sl si we ki ap tg nu) co nb (fun u => zco tg nu u nu) ((bn, us, nh, ct) : zCh) u).2.2.2.1 (zbr (zff ro lo ks sl si we ki ap tg nu) co nb (fun u => zco tg nu u nu) ((bn, us, nh, ct) : zCh) u).2.2.2.2.1 (zbr (zff ro lo ks sl si we ki ap tg nu) co nb (fun u => zco tg nu u nu) ((bn, us, nh, ct) : zCh) u).2.2.2.2.2 mk ex ob oc lc fb fs) [(0, .ref (ad 0)), (1, .int (nI (zbr (zff ro lo ks sl si we ki ap tg nu) co nb (fun u => zco tg nu u nu) ((bn, us, nh, ct) : zCh) u).2.1)), (2, .int (nI u))] 4 [] := by
    intro n
    induction n with
    | zero => intro u h1 h2; omega
    | succ n ih =>
      intro u hu1 hu2 hg
      obtain ⟨q1, q2, q3⟩ := zbr_ok (FF := zff ro lo ks sl si we ki ap tg nu) (co := co) (cm := (fun u => zco tg nu u nu)) okh h0 o1 (fun v hv => zco_lt (k := 8) o12 hv nu) u (by omega)
      refine z_iload_n F dX4_putByRule_4 rfl ?_
      refine z_aload_n F dX4_putByRule_5 rfl ?_
      refine z_get (ci := 4) (C := RX4) (T := TX4) (N := 4) F 0 1 dX4_putByRule_6 inX4 kfX4_19 rfl rfl rfl (by decide) rfl ?_
      refine z_getN (ci := 3) (C := RX3) (T := TX3) (N := 6) F 6 5 dX4_putByRule_9 inX3 (nfX4_84 F.2.2.2.2.2.2.2.1) rfl rfl rfl (by decide) rfl ?_
      refine z_icmp_ge (tgt := 52) F dX4_putByRule_12 (by decide) (fun c12 => ?_) (fun c12 => ?_)
      · have eu := zge_end hu1 (by omega) c12
        refine z_iconst (v := 1) F dX4_putByRule_52 (by decide) ?_
        exact z_iret F hr rfl hlk dX4_putByRule_53 ⟨by have e := hg; rw [eu] at e; rw [e]; rfl, by rw [eu]⟩ (Nat.le_of_ble_eq_true rfl) (Nat.le_of_ble_eq_true rfl)
      · have hlt := zge_on (by omega) hu1 c12
        refine z_iload_n F dX4_putByRule_15 rfl ?_
        refine z_iload_n F dX4_putByRule_16 rfl ?_
        refine z_callSi0 F (c_holds (zbr (zff ro lo ks sl si we ki ap tg nu) co nb (fun u => zco tg nu u nu) ((bn, us, nh, ct) : zCh) u).2.1 u (Nat.lt_trans q3 (by decide)) (by omega)) (zcwS F.2.2.2.2.1 kcX4_holds kmX4_163 ktX4_holds knX4 hdX4_holds rfl rfl ⟨(Nat.le_of_ble_eq_true rfl), (Nat.le_of_ble_eq_true rfl)⟩) dX4_putByRule_17 rfl rfl (Nat.le_of_ble_eq_true rfl) ⟨(Nat.le_of_ble_eq_true rfl), (Nat.le_of_ble_eq_true rfl)⟩ ?_
        rintro r w2 ⟨rfl, rfl⟩
        refine z_if_ne (tgt := 46) F dX4_putByRule_20 (by decide) (fun c20 => ?_) (fun c20 => ?_)
        · refine z_iinc (v := nI (u + 1)) F dX4_putByRule_46 rfl (nI_1 u) (by decide) ?_
          refine z_goto (tgt := 4) F dX4_putByRule_49 (by decide) ?_
          have e9 : (zbr (zff ro lo ks sl si we ki ap tg nu) co nb (fun u => zco tg nu u nu) ((bn, us, nh, ct) : zCh) (u + 1)) = _ := zrs_k hg (zB_1.mp c20)
          have h9 := ih (u + 1) (by omega) (by omega) (by rw [e9]; exact hg)
          rw [e9] at h9
          exact z_lv rfl h9
        · refine z_aload_n F dX4_putByRule_23 rfl ?_
          refine z_get (ci := 4) (C := RX4) (T := TX4) (N := 4) F 0 1 dX4_putByRule_24 inX4 kfX4_19 rfl rfl rfl (by decide) rfl ?_
          refine z_iload_n F dX4_putByRule_27 rfl ?_
          refine z_callVi (w1 := ((ad 0, .inr (4, [.ref (ad 1), .ref (ad 6), .ref (ad 12), .ref (ad 15)])) :: wC (ad 1) (ad 2) (ad 3) (ad 4) (ad 5) cA ro lo co ks nb sl)) (w3 := (wH (ad 12) (ad 13) (ad 14) cA (zbr (zff ro lo ks sl si we ki ap tg nu) co nb (fun u => zco tg nu u nu) ((bn, us, nh, ct) : zCh) u).2.2.1 (zbr (zff ro lo ks sl si we ki ap tg nu) co nb (fun u => zco tg nu u nu) ((bn, us, nh, ct) : zCh) u).2.2.2.1 (zbr (zff ro lo ks sl si we ki ap tg nu) co nb (fun u => zco tg nu u nu) ((bn, us, nh, ct) : zCh) u).2.2.2.2.1 (zbr (zff ro lo ks sl si we ki ap tg nu) co nb (fun u => zco tg nu u nu) ((bn, us, nh, ct) : zCh) u).2.2.2.2.2 mk ex ++ wE (ad 15) (ad 16) (ad 17) (ad 18) (ad 19) (ad 20) cA ob oc lc fb fs)) F (c_U_companyOf o3 o12 u hlt) 0 rfl rfl (zcwV F.2.2.2.2.1 kcX3_companyOf kmX4_139 kiX3_companyOf ksX3_companyOf knX3 hdX3_companyOf rfl rfl ⟨(Nat.le_of_ble_eq_true rfl), (Nat.le_of_ble_eq_true rfl)⟩) dX4_putByRule_28 rfl rfl rfl (Nat.le_of_ble_eq_true rfl) ⟨(Nat.le_of_ble_eq_true rfl), (Nat.le_of_ble_eq_true rfl)⟩ ?_
          rintro r w2 ⟨rfl, rfl⟩
          refine z_eq (ws2 := (wX ad cA ro lo co ks nb sl si we ki ap tg nu (zbr (zff ro lo ks sl si we ki ap tg nu) co nb (fun u => zco tg nu u nu) ((bn, us, nh, ct) : zCh) u).2.2.1 (zbr (zff ro lo ks sl si we ki ap tg nu) co nb (fun u => zco tg nu u nu) ((bn, us, nh, ct) : zCh) u).2.2.2.1 (zbr (zff ro lo ks sl si we ki ap tg nu) co nb (fun u => zco tg nu u nu) ((bn, us, nh, ct) : zCh) u).2.2.2.2.1 (zbr (zff ro lo ks sl si we ki ap tg nu) co nb (fun u => zco tg nu u nu) ((bn, us, nh, ct) : zCh) u).2.2.2.2.2 mk ex ob oc lc fb fs)) rfl rfl rfl rfl ?_
          refine z_istore_n F dX4_putByRule_31 (by decide) ?_
          refine z_aload_n F dX4_putByRule_32 rfl ?_
          refine z_iload_n F dX4_putByRule_33 rfl ?_
          refine z_callVi0 F (c_X_putCompany (bn := (zbr (zff ro lo ks sl si we ki ap tg nu) co nb (fun u => zco tg nu u nu) ((bn, us, nh, ct) : zCh) u).2.2.1) (us := (zbr (zff ro lo ks sl si we ki ap tg nu) co nb (fun u => zco tg nu u nu) ((bn, us, nh, ct) : zCh) u).2.2.2.1) (nh := (zbr (zff ro lo ks sl si we ki ap tg nu) co nb (fun u => zco tg nu u nu) ((bn, us, nh, ct) : zCh) u).2.2.2.2.1) (ct := (zbr (zff ro lo ks sl si we ki ap tg nu) co nb (fun u => zco tg nu u nu) ((bn, us, nh, ct) : zCh) u).2.2.2.2.2) ok q1 (by omega) (zco tg nu u nu) (zco_lt (k := 8) o12 (by omega) nu)) 0 rfl rfl (zcwV F.2.2.2.2.1 kcX4_putCompany kmX4_221 kiX4_putCompany ksX4_putCompany knX4 hdX4_putCompany rfl rfl ⟨(Nat.le_of_ble_eq_true rfl), (Nat.le_of_ble_eq_true rfl)⟩) dX4_putByRule_34 rfl rfl (Nat.le_of_ble_eq_true rfl) ⟨(Nat.le_of_ble_eq_true rfl), (Nat.le_of_ble_eq_true rfl)⟩ ?_
          rintro r w2 ⟨rfl, rfl⟩
          refine z_if_ne (tgt := 42) F dX4_putByRule_37 (by decide) (fun c37 => ?_) (fun c37 => ?_)
          · refine z_iload_n F dX4_putByRule_42 rfl ?_
            refine z_iload_n F dX4_putByRule_43 rfl ?_
            refine z_ior F dX4_putByRule_44 ?_
            refine z_topi (y := nI ((zbr (zff ro lo ks sl si we ki ap tg nu) co nb (fun u => zco tg nu u nu) ((bn, us, nh, ct) : zCh) u).2.1 ||| zco tg nu u nu)) (zb_or _ _) ?_
            refine z_istore_n F dX4_putByRule_45 (by decide) ?_
            refine z_iinc (v := nI (u + 1)) F dX4_putByRule_46 rfl (nI_1 u) (by decide) ?_
            refine z_goto (tgt := 4) F dX4_putByRule_49 (by decide) ?_
            have e9 : (zbr (zff ro lo ks sl si we ki ap tg nu) co nb (fun u => zco tg nu u nu) ((bn, us, nh, ct) : zCh) (u + 1)) = _ := zrs_p hg (zB_0.mp c20)
            have h9 := ih (u + 1) (by omega) (by omega) (by rw [e9]; exact zB_1.mp c37)
            rw [e9] at h9
            exact z_lv rfl h9
          · have e9 : (zbr (zff ro lo ks sl si we ki ap tg nu) co nb (fun u => zco tg nu u nu) ((bn, us, nh, ct) : zCh) (u + 1)) = _ := zrs_p hg (zB_0.mp c20)
            have f9 : (zbr (zff ro lo ks sl si we ki ap tg nu) co nb (fun u => zco tg nu u nu) ((bn, us, nh, ct) : zCh) (u + 1)).1 = false := by rw [e9]; exact zB_0.mp c37
            have g9 := zbr_up f9 (nu - (u + 1))
            rw [show u + 1 + (nu - (u + 1)) = nu by omega, e9] at g9
            refine z_iconst (v := 0) F dX4_putByRule_40 (by decide) ?_
            exact z_iret F hr rfl hlk dX4_putByRule_41 ⟨by rw [g9, zB_0.mp c37]; rfl, by rw [g9]⟩ (Nat.le_of_ble_eq_true rfl) (Nat.le_of_ble_eq_true rfl)
  refine z_iconst (v := 0) F dX4_putByRule_0 (by decide) ?_
  refine z_istore_n F dX4_putByRule_1 (by decide) ?_
  refine z_iconst (v := 0) F dX4_putByRule_2 (by decide) ?_
  refine z_istore_n F dX4_putByRule_3 (by decide) ?_
  exact z_lv rfl (loop (nu + 1) 0 (by omega) (by omega) rfl)

set_option maxHeartbeats 4000000 in
set_option maxRecDepth 100000 in
/-- putExactly -/
theorem c_X_putExactly {l : Launch} {D : va_G} {tys : List (ClassId × FieldType)} {ad : Nat → Nat} {cA : ClassId} {ro lo co ks : Nat → Nat} {nb sl : Nat} {si we ki ap tg : Nat → Nat} {nu : Nat} {bn us : Nat → Nat} {nh ct : Nat} {mk ex : Bool} {ob : Nat → Option Nat} {oc : Nat → Nat} {lc : Nat → Option Nat} {fb fs : Nat → Nat} (ok : zok ro lo co ks nb sl si we ki ap tg nu) (hu6 : nu ≤ 6) (hn : nh + 6 ≤ 8) (oo1 : ∀ x, oc x ≤ 1000) (oo2 : ∀ x b, ob x = some b → b < 6) : zMi l yX4_putExactly (zws yX4_putExactly cX4_putExactly 4 (some .boolean)) { frames := 5, cells := 0, slots := 0, locals := 108 } D zcl ((cA, .int) :: tys) zG [.ref (ad 0)] (wX ad cA ro lo co ks nb sl si we ki ap tg nu bn us nh ct mk ex ob oc lc fb fs) (fun r w2 => r = zB ((zall (zfr (zos (zff ro lo ks sl si we ki ap tg nu) co nb) ((zclr ob 64, oc) : zO) 1 ((2 ^ nu - 1) + 1)).1 (zfr (zos (zff ro lo ks sl si we ki ap tg nu) co nb) ((zclr ob 64, oc) : zO) 1 ((2 ^ nu - 1) + 1)).2 (2 ^ nu - 1) (zt0 lc fb fs)).1 (2 ^ nu - 1)).isSome ∧ w2 = (wX ad cA ro lo co ks nb sl si we ki ap tg nu (zpb (zfr (zos (zff ro lo ks sl si we ki ap tg nu) co nb) ((zclr ob 64, oc) : zO) 1 ((2 ^ nu - 1) + 1)).1 (zfr (zos (zff ro lo ks sl si we ki ap tg nu) co nb) ((zclr ob 64, oc) : zO) 1 ((2 ^ nu - 1) + 1)).2 (zall (zfr (zos (zff ro lo ks sl si we ki ap tg nu) co nb) ((zclr ob 64, oc) : zO) 1 ((2 ^ nu - 1) + 1)).1 (zfr (zos (zff ro lo ks sl si we ki ap tg nu) co nb) ((zclr ob 64, oc) : zO) 1 ((2 ^ nu - 1) + 1)).2 (2 ^ nu - 1) (zt0 lc fb fs)) (2 ^ nu - 1) (((2 ^ nu - 1), bn, us, nh, ct) : zX)).2.1 (zpb (zfr (zos (zff ro lo ks sl si we ki ap tg nu) co nb) ((zclr ob 64, oc) : zO) 1 ((2 ^ nu - 1) + 1)).1 (zfr (zos (zff ro lo ks sl si we ki ap tg nu) co nb) ((zclr ob 64, oc) : zO) 1 ((2 ^ nu - 1) + 1)).2 (zall (zfr (zos (zff ro lo ks sl si we ki ap tg nu) co nb) ((zclr ob 64, oc) : zO) 1 ((2 ^ nu - 1) + 1)).1 (zfr (zos (zff ro lo ks sl si we ki ap tg nu) co nb) ((zclr ob 64, oc) : zO) 1 ((2 ^ nu - 1) + 1)).2 (2 ^ nu - 1) (zt0 lc fb fs)) (2 ^ nu - 1) (((2 ^ nu - 1), bn, us, nh, ct) : zX)).2.2.1 (zpb (zfr (zos (zff ro lo ks sl si we ki ap tg nu) co nb) ((zclr ob 64, oc) : zO) 1 ((2 ^ nu - 1) + 1)).1 (zfr (zos (zff ro lo ks sl si we ki ap tg nu) co nb) ((zclr ob 64, oc) : zO) 1 ((2 ^ nu - 1) + 1)).2 (zall (zfr (zos (zff ro lo ks sl si we ki ap tg nu) co nb) ((zclr ob 64, oc) : zO) 1 ((2 ^ nu - 1) + 1)).1 (zfr (zos (zff ro lo ks sl si we ki ap tg nu) co nb) ((zclr ob 64, oc) : zO) 1 ((2 ^ nu - 1) + 1)).2 (2 ^ nu - 1) (zt0 lc fb fs)) (2 ^ nu - 1) (((2 ^ nu - 1), bn, us, nh, ct) : zX)).2.2.2.1 (zpb (zfr (zos (zff ro lo ks sl si we ki ap tg nu) co nb) ((zclr ob 64, oc) : zO) 1 ((2 ^ nu - 1) + 1)).1 (zfr (zos (zff ro lo ks sl si we ki ap tg nu) co nb) ((zclr ob 64, oc) : zO) 1 ((2 ^ nu - 1) + 1)).2 (zall (zfr (zos (zff ro lo ks sl si we ki ap tg nu) co nb) ((zclr ob 64, oc) : zO) 1 ((2 ^ nu - 1) + 1)).1 (zfr (zos (zff ro lo ks sl si we ki ap tg nu) co nb) ((zclr ob 64, oc) : zO) 1 ((2 ^ nu - 1) + 1)).2 (2 ^ nu - 1) (zt0 lc fb fs)) (2 ^ nu - 1) (((2 ^ nu - 1), bn, us, nh, ct) : zX)).2.2.2.2 mk ex (zfr (zos (zff ro lo ks sl si we ki ap tg nu) co nb) ((zclr ob 64, oc) : zO) 1 ((2 ^ nu - 1) + 1)).1 (zfr (zos (zff ro lo ks sl si we ki ap tg nu) co nb) ((zclr ob 64, oc) : zO) 1 ((2 ^ nu - 1) + 1)).2 (zall (zfr (zos (zff ro lo ks sl si we ki ap tg nu) co nb) ((zclr ob 64, oc) : zO) 1 ((2 ^ nu - 1) + 1)).1 (zfr (zos (zff ro lo ks sl si we ki ap tg nu) co nb) ((zclr ob 64, oc) : zO) 1 ((2 ^ nu - 1) + 1)).2 (2 ^ nu - 1) (zt0 lc fb fs)).1 (zall (zfr (zos (zff ro lo ks sl si we ki ap tg nu) co nb) ((zclr ob 64, oc) : zO) 1 ((2 ^ nu - 1) + 1)).1 (zfr (zos (zff ro lo ks sl si we ki ap tg nu) co nb) ((zclr ob 64, oc) : zO) 1 ((2 ^ nu - 1) + 1)).2 (2 ^ nu - 1) (zt0 lc fb fs)).2.1 (zall (zfr (zos (zff ro lo ks sl si we ki ap tg nu) co nb) ((zclr ob 64, oc) : zO) 1 ((2 ^ nu - 1) + 1)).1 (zfr (zos (zff ro lo ks sl si we ki ap tg nu) co nb) ((zclr ob 64, oc) : zO) 1 ((2 ^ nu - 1) + 1)).2 (2 ^ nu - 1) (zt0 lc fb fs)).2.2)) 0 0 := by
  refine z_ofi (cc := cX4_putExactly) (maxL := 4) (ret := (some .boolean)) (by decide) rfl (Nat.le_of_ble_eq_true rfl) ?_
  intro p e s m below meth c A F hr hlk hnm
  obtain ⟨o1, o2, o3, o4, o5, o6, o7, o8, o9, o10, o11, o12⟩ := id ok
  have hp : 0 < 2 ^ nu := Nat.two_pow_pos nu
  have hp2 : 2 ^ nu ≤ 2 ^ 6 := Nat.pow_le_pow_right (by decide) hu6
  have hy : (2 ^ nu - 1) < 64 := by omega
  have oko : zokO (zfr (zos (zff ro lo ks sl si we ki ap tg nu) co nb) ((zclr ob 64, oc) : zO) 1 ((2 ^ nu - 1) + 1)) := zfr_ok (I := zokO) ⟨oo1, fun x b hb => by
      have hb : zclr ob 64 x = some b := hb
      unfold zclr at hb
      by_cases q : x < 64
      · rw [if_pos q] at hb; cases hb
      · rw [if_neg q] at hb; exact oo2 x b hb⟩ _ (fun x b _ hb => zos_ok o1 o6 hb)
  have loop : ∀ (n x : Nat), 1 ≤ x → x ≤ (2 ^ nu - 1) + 1 → (2 ^ nu - 1) + 2 ≤ x + n → zW p l e (headSpec (zws yX4_putExactly cX4_putExactly 4 (some .boolean)) { frames := 5, cells := 0, slots := 0, locals := 108 }).room s m [.ref (ad 0)].toArray below meth c 4 D zcl A 0 0 (MQ below (va_Qi (fun r w2 => r = zB ((zall (zfr (zos (zff ro lo ks sl si we ki ap tg nu) co nb) ((zclr ob 64, oc) : zO) 1 ((2 ^ nu - 1) + 1)).1 (zfr (zos (zff ro lo ks sl si we ki ap tg nu) co nb) ((zclr ob 64, oc) : zO) 1 ((2 ^ nu - 1) + 1)).2 (2 ^ nu - 1) (zt0 lc fb fs)).1 (2 ^ nu - 1)).isSome ∧ w2 = (wX ad cA ro lo co ks nb sl si we ki ap tg nu (zpb (zfr (zos (zff ro lo ks sl si we ki ap tg nu) co nb) ((zclr ob 64, oc) : zO) 1 ((2 ^ nu - 1) + 1)).1 (zfr (zos (zff ro lo ks sl si we ki ap tg nu) co nb) ((zclr ob 64, oc) : zO) 1 ((2 ^ nu - 1) + 1)).2 (zall (zfr (zos (zff ro lo ks sl si we ki ap tg nu) co nb) ((zclr ob 64, oc) : zO) 1 ((2 ^ nu - 1) + 1)).1 (zfr (zos (zff ro lo ks sl si we ki ap tg nu) co nb) ((zclr ob 64, oc) : zO) 1 ((2 ^ nu - 1) + 1)).2 (2 ^ nu - 1) (zt0 lc fb fs)) (2 ^ nu - 1) (((2 ^ nu - 1), bn, us, nh, ct) : zX)).2.1 (zpb (zfr (zos (zff ro lo ks sl si we ki ap tg nu) co nb) ((zclr ob 64, oc) : zO) 1 ((2 ^ nu - 1) + 1)).1 (zfr (zos (zff ro lo ks sl si we ki ap tg nu) co nb) ((zclr ob 64, oc) : zO) 1 ((2 ^ nu - 1) + 1)).2 (zall (zfr (zos (zff ro lo ks sl si we ki ap tg nu) co nb) ((zclr ob 64, oc) : zO) 1 ((2 ^ nu - 1) + 1)).1 (zfr (zos (zff ro lo ks sl si we ki ap tg nu) co nb) ((zclr ob 64, oc) : zO) 1 ((2 ^ nu - 1) + 1)).2 (2 ^ nu - 1) (zt0 lc fb fs)) (2 ^ nu - 1) (((2 ^ nu - 1), bn, us, nh, ct) : zX)).2.2.1 (zpb (zfr (zos (zff ro lo ks sl si we ki ap tg nu) co nb) ((zclr ob 64, oc) : zO) 1 ((2 ^ nu - 1) + 1)).1 (zfr (zos (zff ro lo ks sl si we ki ap tg nu) co nb) ((zclr ob 64, oc) : zO) 1 ((2 ^ nu - 1) + 1)).2 (zall (zfr (zos (zff ro lo ks sl si we ki ap tg nu) co nb) ((zclr ob 64, oc) : zO) 1 ((2 ^ nu - 1) + 1)).1 (zfr (zos (zff ro lo ks sl si we ki ap tg nu) co nb) ((zclr ob 64, oc) : zO) 1 ((2 ^ nu - 1) + 1)).2 (2 ^ nu - 1) (zt0 lc fb fs)) (2 ^ nu - 1) (((2 ^ nu - 1), bn, us, nh, ct) : zX)).2.2.2.1 (zpb (zfr (zos (zff ro lo ks sl si we ki ap tg nu) co nb) ((zclr ob 64, oc) : zO) 1 ((2 ^ nu - 1) + 1)).1 (zfr (zos (zff ro lo ks sl si we ki ap tg nu) co nb) ((zclr ob 64, oc) : zO) 1 ((2 ^ nu - 1) + 1)).2 (zall (zfr (zos (zff ro lo ks sl si we ki ap tg nu) co nb) ((zclr ob 64, oc) : zO) 1 ((2 ^ nu - 1) + 1)).1 (zfr (zos (zff ro lo ks sl si we ki ap tg nu) co nb) ((zclr ob 64, oc) : zO) 1 ((2 ^ nu - 1) + 1)).2 (2 ^ nu - 1) (zt0 lc fb fs)) (2 ^ nu - 1) (((2 ^ nu - 1), bn, us, nh, ct) : zX)).2.2.2.2 mk ex (zfr (zos (zff ro lo ks sl si we ki ap tg nu) co nb) ((zclr ob 64, oc) : zO) 1 ((2 ^ nu - 1) + 1)).1 (zfr (zos (zff ro lo ks sl si we ki ap tg nu) co nb) ((zclr ob 64, oc) : zO) 1 ((2 ^ nu - 1) + 1)).2 (zall (zfr (zos (zff ro lo ks sl si we ki ap tg nu) co nb) ((zclr ob 64, oc) : zO) 1 ((2 ^ nu - 1) + 1)).1 (zfr (zos (zff ro lo ks sl si we ki ap tg nu) co nb) ((zclr ob 64, oc) : zO) 1 ((2 ^ nu - 1) + 1)).2 (2 ^ nu - 1) (zt0 lc fb fs)).1 (zall (zfr (zos (zff ro lo ks sl si we ki ap tg nu) co nb) ((zclr ob 64, oc) : zO) 1 ((2 ^ nu - 1) + 1)).1 (zfr (zos (zff ro lo ks sl si we ki ap tg nu) co nb) ((zclr ob 64, oc) : zO) 1 ((2 ^ nu - 1) + 1)).2 (2 ^ nu - 1) (zt0 lc fb fs)).2.1 (zall (zfr (zos (zff ro lo ks sl si we ki ap tg nu) co nb) ((zclr ob 64, oc) : zO) 1 ((2 ^ nu - 1) + 1)).1 (zfr (zos (zff ro lo ks sl si we ki ap tg nu) co nb) ((zclr ob 64, oc) : zO) 1 ((2 ^ nu - 1) + 1)).2 (2 ^ nu - 1) (zt0 lc fb fs)).2.2)) (zEnd D zcl A) A) [.ref (ad 0)].toArray s 0 0 A) (wX ad cA ro lo co ks nb sl si we ki ap tg nu bn us nh ct mk ex (zfr (zos (zff ro lo ks sl si we ki ap tg nu) co nb) ((zclr ob 64, oc) : zO) 1 x).1 (zfr (zos (zff ro lo ks sl si we ki ap tg nu) co nb) ((zclr ob 64, oc) : zO) 1 x).2 (zuo (zclr lc 64) 0 (some 0)) (zu fb 0 0) fs) [(0, .ref (ad 0)), (1, .int (nI (2 ^ nu - 1))), (2, .int (nI x))] 17 [] := by
    intro n
    induction n with
    | zero => intro x h1 h2 h3; omega
    | succ n ih =>
      intro x hx1 hx2 hx3
      refine z_iload_n F dX4_putExactly_17 rfl ?_
      refine z_iload_n F dX4_putExactly_18 rfl ?_
      refine z_icmp_gt (tgt := 63) F dX4_putExactly_19 (by decide) (fun c19 => ?_) (fun c19 => ?_)
      · have ex1 : x = (2 ^ nu - 1) + 1 := by rw [nI_ltI (by omega) (by omega)] at c19; omega
        subst ex1
        refine z_aload_n F dX4_putExactly_63 rfl ?_
        refine z_get (ci := 4) (C := RX4) (T := TX4) (N := 4) F 0 3 dX4_putExactly_64 inX4 kfX4_33 rfl rfl rfl (by decide) rfl ?_
        refine z_iload_n F dX4_putExactly_67 rfl ?_
        refine z_aload_n F dX4_putExactly_68 rfl ?_
        refine z_get (ci := 4) (C := RX4) (T := TX4) (N := 4) F 0 2 dX4_putExactly_69 inX4 kfX4_26 rfl rfl rfl (by decide) rfl ?_
        refine z_callVi (w1 := ((ad 0, .inr (4, [.ref (ad 1), .ref (ad 6), .ref (ad 12), .ref (ad 15)])) :: (wC (ad 1) (ad 2) (ad 3) (ad 4) (ad 5) cA ro lo co ks nb sl ++ wU (ad 6) (ad 7) (ad 8) (ad 9) (ad 10) (ad 11) cA si we ki ap tg nu))) (w3 := []) F (c_E_putBest (ob := (zfr (zos (zff ro lo ks sl si we ki ap tg nu) co nb) ((zclr ob 64, oc) : zO) 1 ((2 ^ nu - 1) + 1)).1) (oc := (zfr (zos (zff ro lo ks sl si we ki ap tg nu) co nb) ((zclr ob 64, oc) : zO) 1 ((2 ^ nu - 1) + 1)).2) (t := zt0 lc fb fs) (zt0_ok lc fb fs oko) hn (2 ^ nu - 1) hy) 3 rfl rfl (zcwV F.2.2.2.2.1 kcX2_putBest kmX4_217 kiX2_putBest ksX2_putBest knX2 hdX2_putBest rfl rfl ⟨(Nat.le_of_ble_eq_true rfl), (Nat.le_of_ble_eq_true rfl)⟩) dX4_putExactly_72 rfl rfl rfl (Nat.le_of_ble_eq_true rfl) ⟨(Nat.le_of_ble_eq_true rfl), (Nat.le_of_ble_eq_true rfl)⟩ ?_
        rintro r w2 ⟨rfl, rfl⟩
        exact z_iret F hr (zB_nar _) hlk dX4_putExactly_75 ⟨rfl, rfl⟩ (Nat.le_of_ble_eq_true rfl) (Nat.le_of_ble_eq_true rfl)
      · have hxy : x ≤ (2 ^ nu - 1) := by rw [nI_ltI (by omega) (by omega)] at c19; omega
        refine z_aload_n F dX4_putExactly_22 rfl ?_
        refine z_get (ci := 4) (C := RX4) (T := TX4) (N := 4) F 0 0 dX4_putExactly_23 inX4 kfX4_12 rfl rfl rfl (by decide) rfl ?_
        refine z_aload_n F dX4_putExactly_26 rfl ?_
        refine z_iload_n F dX4_putExactly_27 rfl ?_
        refine z_callVi0 F (c_X_for ok x (by omega)) 0 rfl rfl (zcwV F.2.2.2.2.1 kcX4_boxesFor kmX4_205 kiX4_boxesFor ksX4_boxesFor knX4 hdX4_boxesFor rfl rfl ⟨(Nat.le_of_ble_eq_true rfl), (Nat.le_of_ble_eq_true rfl)⟩) dX4_putExactly_28 rfl rfl (Nat.le_of_ble_eq_true rfl) ⟨(Nat.le_of_ble_eq_true rfl), (Nat.le_of_ble_eq_true rfl)⟩ ?_
        rintro r w2 ⟨rfl, rfl⟩
        refine z_callVi (w1 := [(ad 0, .inr (4, [.ref (ad 1), .ref (ad 6), .ref (ad 12), .ref (ad 15)]))]) (w3 := (wU (ad 6) (ad 7) (ad 8) (ad 9) (ad 10) (ad 11) cA si we ki ap tg nu ++ (wH (ad 12) (ad 13) (ad 14) cA bn us nh ct mk ex ++ wE (ad 15) (ad 16) (ad 17) (ad 18) (ad 19) (ad 20) cA (zfr (zos (zff ro lo ks sl si we ki ap tg nu) co nb) ((zclr ob 64, oc) : zO) 1 x).1 (zfr (zos (zff ro lo ks sl si we ki ap tg nu) co nb) ((zclr ob 64, oc) : zO) 1 x).2 (zuo (zclr lc 64) 0 (some 0)) (zu fb 0 0) fs))) F (c_C_cheapestOf o1 (zk9 o6 (by decide)) (zset (zff ro lo ks sl si we ki ap tg nu x) nb) (zset31 o1)) 0 rfl rfl (zcwV F.2.2.2.2.1 kcX0_cheapestOf kmX4_208 kiX0_cheapestOf ksX0_cheapestOf knX0 hdX0_cheapestOf rfl rfl ⟨(Nat.le_of_ble_eq_true rfl), (Nat.le_of_ble_eq_true rfl)⟩) dX4_putExactly_31 rfl rfl rfl (Nat.le_of_ble_eq_true rfl) ⟨(Nat.le_of_ble_eq_true rfl), (Nat.le_of_ble_eq_true rfl)⟩ ?_
        rintro r w2 ⟨rfl, rfl⟩
        refine z_eq (ws2 := (wX ad cA ro lo co ks nb sl si we ki ap tg nu bn us nh ct mk ex (zfr (zos (zff ro lo ks sl si we ki ap tg nu) co nb) ((zclr ob 64, oc) : zO) 1 x).1 (zfr (zos (zff ro lo ks sl si we ki ap tg nu) co nb) ((zclr ob 64, oc) : zO) 1 x).2 (zuo (zclr lc 64) 0 (some 0)) (zu fb 0 0) fs)) rfl rfl rfl rfl ?_
        rw [zset_che]
        rcases hz2 : zche (zff ro lo ks sl si we ki ap tg nu x) co nb with _ | b
        · refine z_istore_n F dX4_putExactly_34 (by decide) ?_
          refine z_iload_n F dX4_putExactly_35 rfl ?_
          refine z_iconst (v := (-1)) F dX4_putExactly_36 (by decide) ?_
          refine z_icmp_eq (tgt := 57) F dX4_putExactly_37 (by decide) (fun c37 => ?_) (fun c37 => ?_)
          · refine z_iinc (v := nI (x + 1)) F dX4_putExactly_57 rfl (nI_1 x) (by decide) ?_
            refine z_goto (tgt := 17) F dX4_putExactly_60 (by decide) ?_
            have h9 := ih (x + 1) (by omega) (by omega) (by omega)
            rw [zfr_s hx1, zos_n hz2] at h9
            exact z_lv rfl h9
          · exact absurd rfl c37
        · refine z_istore_n F dX4_putExactly_34 (by decide) ?_
          refine z_iload_n F dX4_putExactly_35 rfl ?_
          refine z_iconst (v := (-1)) F dX4_putExactly_36 (by decide) ?_
          refine z_icmp_eq (tgt := 57) F dX4_putExactly_37 (by decide) (fun c37 => ?_) (fun c37 => ?_)
          · exact absurd c37 (zo_ne (by have := (zche_lt hz2).1; omega))
          · refine z_aload_n F dX4_putExactly_40 rfl ?_
            refine z_get (ci := 4) (C := RX4) (T := TX4) (N := 4) F 0 3 dX4_putExactly_41 inX4 kfX4_33 rfl rfl rfl (by decide) rfl ?_
            refine z_iload_n F dX4_putExactly_44 rfl ?_
            refine z_iload_n F dX4_putExactly_45 rfl ?_
            refine z_aload_n F dX4_putExactly_46 rfl ?_
            refine z_get (ci := 4) (C := RX4) (T := TX4) (N := 4) F 0 0 dX4_putExactly_47 inX4 kfX4_12 rfl rfl rfl (by decide) rfl ?_
            refine z_iload_n F dX4_putExactly_50 rfl ?_
            refine z_callVi (w1 := [(ad 0, .inr (4, [.ref (ad 1), .ref (ad 6), .ref (ad 12), .ref (ad 15)]))]) (w3 := (wU (ad 6) (ad 7) (ad 8) (ad 9) (ad 10) (ad 11) cA si we ki ap tg nu ++ (wH (ad 12) (ad 13) (ad 14) cA bn us nh ct mk ex ++ wE (ad 15) (ad 16) (ad 17) (ad 18) (ad 19) (ad 20) cA (zfr (zos (zff ro lo ks sl si we ki ap tg nu) co nb) ((zclr ob 64, oc) : zO) 1 x).1 (zfr (zos (zff ro lo ks sl si we ki ap tg nu) co nb) ((zclr ob 64, oc) : zO) 1 x).2 (zuo (zclr lc 64) 0 (some 0)) (zu fb 0 0) fs))) F (c_C_costOf o1 b (zche_lt hz2).1) 0 rfl rfl (zcwV F.2.2.2.2.1 kcX0_costOf kmX4_211 kiX0_costOf ksX0_costOf knX0 hdX0_costOf rfl rfl ⟨(Nat.le_of_ble_eq_true rfl), (Nat.le_of_ble_eq_true rfl)⟩) dX4_putExactly_51 rfl rfl rfl (Nat.le_of_ble_eq_true rfl) ⟨(Nat.le_of_ble_eq_true rfl), (Nat.le_of_ble_eq_true rfl)⟩ ?_
            rintro r w2 ⟨rfl, rfl⟩
            refine z_eq (ws2 := (wX ad cA ro lo co ks nb sl si we ki ap tg nu bn us nh ct mk ex (zfr (zos (zff ro lo ks sl si we ki ap tg nu) co nb) ((zclr ob 64, oc) : zO) 1 x).1 (zfr (zos (zff ro lo ks sl si we ki ap tg nu) co nb) ((zclr ob 64, oc) : zO) 1 x).2 (zuo (zclr lc 64) 0 (some 0)) (zu fb 0 0) fs)) rfl rfl rfl rfl ?_
            refine z_callVv (w1 := ((ad 0, .inr (4, [.ref (ad 1), .ref (ad 6), .ref (ad 12), .ref (ad 15)])) :: (wC (ad 1) (ad 2) (ad 3) (ad 4) (ad 5) cA ro lo co ks nb sl ++ (wU (ad 6) (ad 7) (ad 8) (ad 9) (ad 10) (ad 11) cA si we ki ap tg nu ++ wH (ad 12) (ad 13) (ad 14) cA bn us nh ct mk ex)))) (w3 := []) F (c_E_offer x b (co b) (by omega) (by omega)) 0 rfl rfl (zcwV F.2.2.2.2.1 kcX2_offer kmX4_214 kiX2_offer ksX2_offer knX2 hdX2_offer rfl rfl ⟨(Nat.le_of_ble_eq_true rfl), (Nat.le_of_ble_eq_true rfl)⟩) dX4_putExactly_54 rfl rfl rfl (Nat.le_of_ble_eq_true rfl) ⟨(Nat.le_of_ble_eq_true rfl), (Nat.le_of_ble_eq_true rfl)⟩ ?_
            rintro w2 rfl
            refine z_iinc (v := nI (x + 1)) F dX4_putExactly_57 rfl (nI_1 x) (by decide) ?_
            refine z_goto (tgt := 17) F dX4_putExactly_60 (by decide) ?_
            have h9 := ih (x + 1) (by omega) (by omega) (by omega)
            rw [zfr_s hx1, zos_s hz2] at h9
            exact z_lv rfl h9
  refine z_aload_n F dX4_putExactly_0 rfl ?_
  refine z_get (ci := 4) (C := RX4) (T := TX4) (N := 4) F 0 1 dX4_putExactly_1 inX4 kfX4_19 rfl rfl rfl (by decide) rfl ?_
  refine z_callVi (w1 := ((ad 0, .inr (4, [.ref (ad 1), .ref (ad 6), .ref (ad 12), .ref (ad 15)])) :: wC (ad 1) (ad 2) (ad 3) (ad 4) (ad 5) cA ro lo co ks nb sl)) (w3 := (wH (ad 12) (ad 13) (ad 14) cA bn us nh ct mk ex ++ wE (ad 15) (ad 16) (ad 17) (ad 18) (ad 19) (ad 20) cA ob oc lc fb fs)) F (c_U_all o3) 0 rfl rfl (zcwV F.2.2.2.2.1 kcX3_all kmX4_200 kiX3_all ksX3_all knX3 hdX3_all rfl rfl ⟨(Nat.le_of_ble_eq_true rfl), (Nat.le_of_ble_eq_true rfl)⟩) dX4_putExactly_4 rfl rfl rfl (Nat.le_of_ble_eq_true rfl) ⟨(Nat.le_of_ble_eq_true rfl), (Nat.le_of_ble_eq_true rfl)⟩ ?_
  rintro r w2 ⟨rfl, rfl⟩
  refine z_eq (ws2 := (wX ad cA ro lo co ks nb sl si we ki ap tg nu bn us nh ct mk ex ob oc lc fb fs)) rfl rfl rfl rfl ?_
  refine z_istore_n F dX4_putExactly_7 (by decide) ?_
  refine z_aload_n F dX4_putExactly_8 rfl ?_
  refine z_get (ci := 4) (C := RX4) (T := TX4) (N := 4) F 0 3 dX4_putExactly_9 inX4 kfX4_33 rfl rfl rfl (by decide) rfl ?_
  refine z_callVv (w1 := ((ad 0, .inr (4, [.ref (ad 1), .ref (ad 6), .ref (ad 12), .ref (ad 15)])) :: (wC (ad 1) (ad 2) (ad 3) (ad 4) (ad 5) cA ro lo co ks nb sl ++ (wU (ad 6) (ad 7) (ad 8) (ad 9) (ad 10) (ad 11) cA si we ki ap tg nu ++ wH (ad 12) (ad 13) (ad 14) cA bn us nh ct mk ex)))) (w3 := []) F (c_E_clear) 0 rfl rfl (zcwV F.2.2.2.2.1 kcX2_clear kmX4_204 kiX2_clear ksX2_clear knX2 hdX2_clear rfl rfl ⟨(Nat.le_of_ble_eq_true rfl), (Nat.le_of_ble_eq_true rfl)⟩) dX4_putExactly_12 rfl rfl rfl (Nat.le_of_ble_eq_true rfl) ⟨(Nat.le_of_ble_eq_true rfl), (Nat.le_of_ble_eq_true rfl)⟩ ?_
  rintro w2 rfl
  refine z_eq (ws2 := (wX ad cA ro lo co ks nb sl si we ki ap tg nu bn us nh ct mk ex (zclr ob 64) oc (zuo (zclr lc 64) 0 (some 0)) (zu fb 0 0) fs)) rfl rfl rfl rfl ?_
  refine z_iconst (v := 1) F dX4_putExactly_15 (by decide) ?_
  refine z_istore_n F dX4_putExactly_16 (by decide) ?_
  have h9 := loop ((2 ^ nu - 1) + 2) 1 (by omega) (by omega) (by omega)
  rw [zfr_0 _ _ _ _ (Nat.le_refl _)] at h9
  exact z_lv rfl h9
end
section
theorem zdecl {x : MethodName} {args : Array Value} {s : State} {bytes : ByteArray} {n : Nat} {r : Option FieldType} (h : (Cond.instanceMethod x).before args s = true) (hc : (Cond.code x bytes n r).before args s = true) : (Cond.declares x).before args s = true := by
  obtain ⟨m, meth, h1, h2, h3, h4⟩ := Cond.instanceMethod_spec h
  obtain ⟨meth2, c2, g1, -, -, -, -, -, -, hsig⟩ := Cond.code_spec h1 hc
  cases Option.some.inj (h2.symm.trans g1)
  simp [Cond.before, Cond.holds, Cond.value, h1, h2, h3, hsig]
theorem kiJ_1 : Cond.instanceMethod (Bundle.initS "java/lang/RuntimeException") ∈ gtbl := by decide +kernel
theorem kiJ_2 : Cond.instanceMethod (Bundle.initS "java/lang/Exception") ∈ gtbl := by decide +kernel
theorem kcJ_1 : Cond.code (Bundle.initS "java/lang/RuntimeException") Bundle.six 2 none ∈ gtbl := by decide +kernel
theorem kcJ_2 : Cond.code (Bundle.initS "java/lang/Exception") Bundle.six 2 none ∈ gtbl := by decide +kernel
theorem kcJ_3 : Cond.code (Bundle.initS Bundle.tN) LibCode.Throwable.InitS.code 2 none ∈ gtbl := by decide +kernel
theorem kiJ_3 : Cond.instanceMethod (Bundle.initS Bundle.tN) ∈ gtbl := by decide +kernel
theorem xat_IllegalArgumentException_g : ∀ w ∈ (vx_atS RX4 70 "java/lang/IllegalArgumentException" ["java/lang/RuntimeException", "java/lang/Exception"]).filter goodWord, w ∈ lw_tbl := by decide +kernel
theorem xat_IllegalArgumentException_b : ∀ w ∈ (vx_atS RX4 70 "java/lang/IllegalArgumentException" ["java/lang/RuntimeException", "java/lang/Exception"]).filter (fun w => !goodWord w), w ∈ [Cond.castable "java/lang/IllegalArgumentException" "java/lang/IllegalArgumentException", Cond.declares (Bundle.initS "java/lang/RuntimeException"), Cond.declares (Bundle.initS "java/lang/Exception"), Cond.declares (Bundle.initS Bundle.tN)] := by decide +kernel
theorem xat_IllegalArgumentException {args : Array Value} {s : State} {A : Nat → Prop} (ht : ∀ w ∈ gtbl, w.before args s = true) (g : zG s A) : ∀ w ∈ vx_atS RX4 70 "java/lang/IllegalArgumentException" ["java/lang/RuntimeException", "java/lang/Exception"], w.before args s = true :=
  vx_hat (fun w h => ht w (List.mem_filter.mpr ⟨xat_IllegalArgumentException_g w h, (List.mem_filter.mp h).2⟩)) xat_IllegalArgumentException_b (vx_c (va_Nw.use rfl (g.2.2.1 "java/lang/IllegalArgumentException" (List.mem_of_getElem? (i := 0) rfl))) (vx_c (zdecl (ht _ kiJ_1) (ht _ kcJ_1)) (vx_c (zdecl (ht _ kiJ_2) (ht _ kcJ_2)) (vx_c (zdecl (ht _ kiJ_3) (ht _ kcJ_3)) vx_n))))
theorem xgd_IllegalArgumentException_66 : ∀ w ∈ Cond.classLink RX4 66 "java/lang/IllegalArgumentException" :: Cond.initialized "java/lang/IllegalArgumentException" :: vx_atS RX4 70 "java/lang/IllegalArgumentException" ["java/lang/RuntimeException", "java/lang/Exception"], vx_ot w = true := by decide +kernel
theorem xat_UnsupportedOperationException_g : ∀ w ∈ (vx_atS RX4 49 "java/lang/UnsupportedOperationException" ["java/lang/RuntimeException", "java/lang/Exception"]).filter goodWord, w ∈ lw_tbl := by decide +kernel
theorem xat_UnsupportedOperationException_b : ∀ w ∈ (vx_atS RX4 49 "java/lang/UnsupportedOperationException" ["java/lang/RuntimeException", "java/lang/Exception"]).filter (fun w => !goodWord w), w ∈ [Cond.castable "java/lang/UnsupportedOperationException" "java/lang/UnsupportedOperationException", Cond.declares (Bundle.initS "java/lang/RuntimeException"), Cond.declares (Bundle.initS "java/lang/Exception"), Cond.declares (Bundle.initS Bundle.tN)] := by decide +kernel
theorem xat_UnsupportedOperationException {args : Array Value} {s : State} {A : Nat → Prop} (ht : ∀ w ∈ gtbl, w.before args s = true) (g : zG s A) : ∀ w ∈ vx_atS RX4 49 "java/lang/UnsupportedOperationException" ["java/lang/RuntimeException", "java/lang/Exception"], w.before args s = true :=
  vx_hat (fun w h => ht w (List.mem_filter.mpr ⟨xat_UnsupportedOperationException_g w h, (List.mem_filter.mp h).2⟩)) xat_UnsupportedOperationException_b (vx_c (va_Nw.use rfl (g.2.2.1 "java/lang/UnsupportedOperationException" (List.mem_of_getElem? (i := 1) rfl))) (vx_c (zdecl (ht _ kiJ_1) (ht _ kcJ_1)) (vx_c (zdecl (ht _ kiJ_2) (ht _ kcJ_2)) (vx_c (zdecl (ht _ kiJ_3) (ht _ kcJ_3)) vx_n))))
theorem xgd_UnsupportedOperationException_45 : ∀ w ∈ Cond.classLink RX4 45 "java/lang/UnsupportedOperationException" :: Cond.initialized "java/lang/UnsupportedOperationException" :: vx_atS RX4 49 "java/lang/UnsupportedOperationException" ["java/lang/RuntimeException", "java/lang/Exception"], vx_ot w = true := by decide +kernel
theorem xat_IllegalStateException_g : ∀ w ∈ (vx_atS RX4 171 "java/lang/IllegalStateException" ["java/lang/RuntimeException", "java/lang/Exception"]).filter goodWord, w ∈ lw_tbl := by decide +kernel
theorem xat_IllegalStateException_b : ∀ w ∈ (vx_atS RX4 171 "java/lang/IllegalStateException" ["java/lang/RuntimeException", "java/lang/Exception"]).filter (fun w => !goodWord w), w ∈ [Cond.castable "java/lang/IllegalStateException" "java/lang/IllegalStateException", Cond.declares (Bundle.initS "java/lang/RuntimeException"), Cond.declares (Bundle.initS "java/lang/Exception"), Cond.declares (Bundle.initS Bundle.tN)] := by decide +kernel
theorem xat_IllegalStateException {args : Array Value} {s : State} {A : Nat → Prop} (ht : ∀ w ∈ gtbl, w.before args s = true) (g : zG s A) : ∀ w ∈ vx_atS RX4 171 "java/lang/IllegalStateException" ["java/lang/RuntimeException", "java/lang/Exception"], w.before args s = true :=
  vx_hat (fun w h => ht w (List.mem_filter.mpr ⟨xat_IllegalStateException_g w h, (List.mem_filter.mp h).2⟩)) xat_IllegalStateException_b (vx_c (va_Nw.use rfl (g.2.2.1 "java/lang/IllegalStateException" (List.mem_of_getElem? (i := 3) rfl))) (vx_c (zdecl (ht _ kiJ_1) (ht _ kcJ_1)) (vx_c (zdecl (ht _ kiJ_2) (ht _ kcJ_2)) (vx_c (zdecl (ht _ kiJ_3) (ht _ kcJ_3)) vx_n))))
theorem xgd_IllegalStateException_167 : ∀ w ∈ Cond.classLink RX4 167 "java/lang/IllegalStateException" :: Cond.initialized "java/lang/IllegalStateException" :: vx_atS RX4 171 "java/lang/IllegalStateException" ["java/lang/RuntimeException", "java/lang/Exception"], vx_ot w = true := by decide +kernel
theorem xat_ArithmeticException_g : ∀ w ∈ (vx_atS RX4 182 "java/lang/ArithmeticException" ["java/lang/RuntimeException", "java/lang/Exception"]).filter goodWord, w ∈ lw_tbl := by decide +kernel
theorem xat_ArithmeticException_b : ∀ w ∈ (vx_atS RX4 182 "java/lang/ArithmeticException" ["java/lang/RuntimeException", "java/lang/Exception"]).filter (fun w => !goodWord w), w ∈ [Cond.castable "java/lang/ArithmeticException" "java/lang/ArithmeticException", Cond.declares (Bundle.initS "java/lang/RuntimeException"), Cond.declares (Bundle.initS "java/lang/Exception"), Cond.declares (Bundle.initS Bundle.tN)] := by decide +kernel
theorem xat_ArithmeticException {args : Array Value} {s : State} {A : Nat → Prop} (ht : ∀ w ∈ gtbl, w.before args s = true) (g : zG s A) : ∀ w ∈ vx_atS RX4 182 "java/lang/ArithmeticException" ["java/lang/RuntimeException", "java/lang/Exception"], w.before args s = true :=
  vx_hat (fun w h => ht w (List.mem_filter.mpr ⟨xat_ArithmeticException_g w h, (List.mem_filter.mp h).2⟩)) xat_ArithmeticException_b (vx_c (va_Nw.use rfl (g.2.2.1 "java/lang/ArithmeticException" (List.mem_of_getElem? (i := 4) rfl))) (vx_c (zdecl (ht _ kiJ_1) (ht _ kcJ_1)) (vx_c (zdecl (ht _ kiJ_2) (ht _ kcJ_2)) (vx_c (zdecl (ht _ kiJ_3) (ht _ kcJ_3)) vx_n))))
theorem xgd_ArithmeticException_178 : ∀ w ∈ Cond.classLink RX4 178 "java/lang/ArithmeticException" :: Cond.initialized "java/lang/ArithmeticException" :: vx_atS RX4 182 "java/lang/ArithmeticException" ["java/lang/RuntimeException", "java/lang/Exception"], vx_ot w = true := by decide +kernel
set_option maxHeartbeats 4000000 in
set_option maxRecDepth 100000 in
/-- needRange, in its range -/
theorem c_X_range {l : Launch} {D : va_G} {tys : List (ClassId × FieldType)} {cA : ClassId} (v a b : Int32) (h : a ≤ v ∧ v ≤ b) : zMv l yX4_needRange (zws yX4_needRange cX4_needRange 3 none) { frames := 6, cells := 0, slots := 0, locals := 84 } D zcl ((cA, .int) :: tys) zG [.int v, .int a, .int b] [] (fun w2 => w2 = []) 0 0 := by
  refine z_ofv (cc := cX4_needRange) (maxL := 3) (ret := none) (by decide) rfl (Nat.le_of_ble_eq_true rfl) ?_
  intro p e s m below meth c A F hr hlk hnm
  refine z_iload_n F dX4_needRange_0 rfl ?_
  refine z_iload_n F dX4_needRange_1 rfl ?_
  refine z_icmp_lt (tgt := 10) F dX4_needRange_2 (by decide) (fun c2 => ?_) (fun c2 => ?_)
  · exact absurd h.1 (fun q => zlt_nge c2 q)
  · refine z_iload_n F dX4_needRange_5 rfl ?_
    refine z_iload_n F dX4_needRange_6 rfl ?_
    refine z_icmp_le (tgt := 20) F dX4_needRange_7 (by decide) (fun c7 => ?_) (fun c7 => ?_)
    · exact z_vret F hr hlk dX4_needRange_20 rfl (Nat.le_of_ble_eq_true rfl) (Nat.le_of_ble_eq_true rfl)
    · exact absurd h.2 c7

set_option maxHeartbeats 4000000 in
set_option maxRecDepth 100000 in
/-- needRange, outside it -/
theorem c_X_range_x {l : Launch} {D : va_G} {tys : List (ClassId × FieldType)} {cA : ClassId} (hl : l.stackTraces = false) (v a b : Int32) (h : ¬ (a ≤ v ∧ v ≤ b)) : zXv l yX4_needRange (zws yX4_needRange cX4_needRange 3 none) { frames := 6, cells := 1, slots := 6, locals := 84 } D zcl ((cA, .int) :: tys) zG [.int v, .int a, .int b] [] (fun _ => False) (fun E w2 => E = "java/lang/IllegalArgumentException" ∧ w2 = []) 1 6 := by
  refine zx_ofv (cc := cX4_needRange) (maxL := 3) (ret := none) (by decide) rfl (Nat.le_of_ble_eq_true rfl) ?_
  intro p e s m below meth c A F hr hlk hnm hex
  refine z_iload_n F dX4_needRange_0 rfl ?_
  refine z_iload_n F dX4_needRange_1 rfl ?_
  refine z_icmp_lt (tgt := 10) F dX4_needRange_2 (by decide) (fun c2 => ?_) (fun c2 => ?_)
  · exact zx_throwv F hl (cls := "java/lang/IllegalArgumentException") (text := "a number is outside its range") (names := ["java/lang/RuntimeException", "java/lang/Exception"]) (ik := 66) (is := 195) (ic := 70) (by decide) (by decide) (F.2.2.2.2.1 _ klX4_66) (F.2.2.2.2.1 _ knJ_IllegalArgumentException) (F.2.2.2.2.2.2.2.1.2.2.2.1 (195, "a number is outside its range") (List.mem_of_getElem? (i := 0) rfl)) (xat_IllegalArgumentException F.2.2.2.2.1 F.2.2.2.2.2.2.2.1) xgd_IllegalArgumentException_66 F.2.2.2.2.2.2.2.1.2.2.2.2.1 F.2.2.2.2.2.2.2.1.2.2.2.2.2 hex dX4_needRange_10 dX4_needRange_13 dX4_needRange_14 dX4_needRange_16 dX4_needRange_19 (Nat.le_of_ble_eq_true rfl) (Nat.le_of_ble_eq_true rfl) (Nat.le_of_ble_eq_true rfl) (Nat.le_of_ble_eq_true rfl) hlk ⟨rfl, rfl⟩ (Nat.le_of_ble_eq_true rfl) (Nat.le_of_ble_eq_true rfl)
  · refine z_iload_n F dX4_needRange_5 rfl ?_
    refine z_iload_n F dX4_needRange_6 rfl ?_
    refine z_icmp_le (tgt := 20) F dX4_needRange_7 (by decide) (fun c7 => ?_) (fun c7 => ?_)
    · exact absurd ⟨znlt_ge c2, c7⟩ h
    · exact zx_throwv F hl (cls := "java/lang/IllegalArgumentException") (text := "a number is outside its range") (names := ["java/lang/RuntimeException", "java/lang/Exception"]) (ik := 66) (is := 195) (ic := 70) (by decide) (by decide) (F.2.2.2.2.1 _ klX4_66) (F.2.2.2.2.1 _ knJ_IllegalArgumentException) (F.2.2.2.2.2.2.2.1.2.2.2.1 (195, "a number is outside its range") (List.mem_of_getElem? (i := 0) rfl)) (xat_IllegalArgumentException F.2.2.2.2.1 F.2.2.2.2.2.2.2.1) xgd_IllegalArgumentException_66 F.2.2.2.2.2.2.2.1.2.2.2.2.1 F.2.2.2.2.2.2.2.1.2.2.2.2.2 hex dX4_needRange_10 dX4_needRange_13 dX4_needRange_14 dX4_needRange_16 dX4_needRange_19 (Nat.le_of_ble_eq_true rfl) (Nat.le_of_ble_eq_true rfl) (Nat.le_of_ble_eq_true rfl) (Nat.le_of_ble_eq_true rfl) hlk ⟨rfl, rfl⟩ (Nat.le_of_ble_eq_true rfl) (Nat.le_of_ble_eq_true rfl)
end
section
/-! ===== 'throw new E("text")' where E's own constructor has another pool number (java.util.NoSuchElementException of this JDK): the library's law ctorThrowS and the kit's vx_throwS have the number 7 alone; these two follow them with any number ===== -/
/-- the words: E hands its text on to Y by its own bytes, Y and those above by the usual ones -/
def zownA (own : String) (ic : Nat) (X Y : String) (i : Nat) (bytes : ByteArray) (names : List String) : List Cond :=
  Bundle.throwableAtoms ++ Bundle.throwableSAtoms ++ (Bundle.passSAtoms X Y i bytes ++ Bundle.chainSAtoms Y names) ++
  [.methodLink own ic (Bundle.initS X), .instantiable X 6, .castable X X, .selects X Bundle.tFill0 Bundle.tFill0, .selects X Bundle.tFill Bundle.tFill,
   .lays X Bundle.tN "cause" "Ljava/lang/Throwable;", .lays X Bundle.tN "stackTrace" Bundle.steD, .lays X Bundle.tN "suppressedExceptions" Bundle.listD, .lays X Bundle.tN "detailMessage" "Ljava/lang/String;",
   .isRef (.static Bundle.tN "UNASSIGNED_STACK" Bundle.steD), .isRef (.static Bundle.tN "SUPPRESSED_SENTINEL" Bundle.listD),
   .fieldLink Bundle.tN 198 Bundle.tN "backtrace" "Ljava/lang/Object;", .lays Bundle.tN Bundle.tN "backtrace" "Ljava/lang/Object;", .lays X Bundle.tN "backtrace" "Ljava/lang/Object;"]
section ZN
variable {p : Program} {l : Launch} {e : Env} {R : Room} {s : State} {m : MethodId} {args : Array Value} {below : List Frame} {meth : Method} {c : Code} {W : State} {locs : List Loc} {cells slots : Nat}
set_option maxHeartbeats 4000000 in
theorem zt_ctor (X : Stand p l e R s m args below meth c W locs cells slots) (hexec : p.tables.exec = Jvm.exec) (htr : e.platform.stackTraces = false) {own cls Yn : String} {names : List String} {ic ix : Nat} {bytes : ByteArray}
    (b0 : decode bytes 0 = .ok (.aload_n 0, 1)) (b1 : decode bytes 1 = .ok (.aload_n 1, 1)) (b2 : decode bytes 2 = .ok (.invokespecial ix, 3)) (b5 : decode bytes 5 = .ok (.return_, 1))
    (hown : s.vm.findClass own = some m.cls) (hcls : Bundle.fit cls = true) (hYn : Bundle.fit Yn = true) (hnames : ∀ n ∈ names, Bundle.fit n = true)
    (h : ∀ a ∈ zownA own ic cls Yn ix bytes names, a.before args s = true)
    (hlocs : ∀ x ∈ locs, ∀ cell, s.heap[x.base]? = some cell → cell.vm.isStatics = false)
    {a : Addr} {cX : ClassId} {kX : Class} (hfoundX : s.vm.findClass cls = some cX) (hkX : s.vm.classes[cX]? = some kX) (hcell : W.heap[a]? = some (freshCell cX kX)) (hnew : s.heap.size ≤ a)
    {msg : Value} (hmsg : msg.isRef = true)
    {g : JFrame} (hg : g.method = m) (hsize : g.locals.size = c.maxLocals) (hlocked : g.locked = none) (hentered : g.entered = []) {rest : List Value} (hstack : g.stack = msg :: .ref a :: .ref a :: rest)
    (hd6 : decode c.code g.pc = .ok (.invokespecial ic, 3)) (hd9 : decode c.code (g.pc + 3) = .ok (.athrow, 1)) (hout : ∀ x ∈ c.exceptionTable.toList, covers x (g.pc + 3) = false)
    (hRframes : names.length + 4 < R.frames) (hRlocals : 2 * g.monitorRoom + ((Value.ref a :: rest).map fun v => v.category).sum + (13 * (names.length + 2) + 42) ≤ R.locals) (hlocks : meth.locks = false) :
    ∃ U : State, Steps p.tables e below (W.setTop g) U ∧ U.status = .running ∧ Ended U below (.threw a) ∧ s.WarmedH U.vm ∧ s.sameButNew ({ U with vm := s.vm } : State) locs cells slots ∧
      ∃ ce, U.heap[a]? = some ce ∧ ce.vm = .none ∧ s.vm.findClass cls = some ce.cls := by
  have howns : e.platform.frameOwnsMonitors = true := by rw [X.admits.platform]
  have hfin : e.platform.finalization = false := by rw [X.admits.platform]
  have hpl : e.platform.magicAccessors = ({} : Platform).magicAccessors := by rw [X.admits.platform]
  have at' : ∀ x, x ∈ zownA own ic cls Yn ix bytes names → x.holds args s none s [] = true := fun x hx => h x hx
  obtain ⟨T, Z0, L, -, Y⟩ := ThrowableC.of_atoms (args := args) howns hfin hpl (fun x hx => h x (by simp [zownA, hx]))
  obtain ⟨Z, M, LZ, LM, hnZ⟩ := Init0T.ofS_atoms (args := args) hpl L Y (fun x hx => h x (by simp [zownA, hx]))
  obtain ⟨P1, L1, hP1m, hs1⟩ := PassC.ofS_atoms (args := args) (s := s) hpl (X := cls) (Y := Yn) (Bundle.fit_spec hcls).1 (Bundle.fit_spec hYn).2 b0 b1 b2 b5 (fun x hx => h x (by simp only [zownA, List.mem_append]; exact Or.inl (Or.inr (Or.inl hx))))
  obtain ⟨P2, Ps, hlen, L2, hL, hP2m, hlink1, hlink⟩ := Bundle.chainS (args := args) hpl hnZ names Yn hYn hnames (fun x hx => h x (by simp only [zownA, List.mem_append]; exact Or.inl (Or.inr (Or.inr hx))))
  have hsup : P1.sup = P2.m := Option.some.inj (hs1.symm.trans hP2m)
  have hfound : s.vm.findClass cls = some P1.m.cls := findClass_of_methodNamed hP1m
  cases Option.some.inj (hfoundX.symm.trans hfound)
  obtain ⟨c1, kX', hc1, hk, hord, -, -, hn6⟩ := Cond.instantiable_spec (at' (.instantiable cls 6) (by simp [zownA]))
  cases Option.some.inj (hc1.symm.trans hfound)
  cases Option.some.inj (hkX.symm.trans hk)
  have hsel0 : selectMethod e.platform s.vm P1.m.cls T.fill0 = .method T.fill0 := by
    obtain ⟨c2, r2, m2, q1, q2, q3, q4, -⟩ := Cond.selects_spec (at' (.selects cls Bundle.tFill0 Bundle.tFill0) (by simp [zownA]))
    cases Option.some.inj (q1.symm.trans hfound)
    cases Option.some.inj (q2.symm.trans (State.methodFound?_of_named Y.fill0 (by decide)))
    cases Option.some.inj (q3.symm.trans Y.fill0)
    rw [Launch.admits_selectMethod X.admits]; exact q4
  have hselF : selectMethod e.platform s.vm P1.m.cls T.fill = .method T.fill := by
    obtain ⟨c2, r2, m2, q1, q2, q3, q4, -⟩ := Cond.selects_spec (at' (.selects cls Bundle.tFill Bundle.tFill) (by simp [zownA]))
    cases Option.some.inj (q1.symm.trans hfound)
    cases Option.some.inj (q2.symm.trans (State.methodFound?_of_named Y.fill (by decide)))
    cases Option.some.inj (q3.symm.trans Y.fill)
    rw [Launch.admits_selectMethod X.admits]; exact q4
  obtain ⟨cellS0, hcS0, hiss⟩ := Y.statics
  obtain ⟨u0, hu0⟩ := Cond.staticRefV Y.unassigned L.unassignedStatic L.statics hcS0 hiss (at' (.isRef (.static Bundle.tN "UNASSIGNED_STACK" Bundle.steD)) (by simp [zownA]))
  obtain ⟨sen, hsen⟩ := Cond.staticRefV Y.sentinel L.sentinelStatic L.statics hcS0 hiss (at' (.isRef (.static Bundle.tN "SUPPRESSED_SENTINEL" Bundle.listD)) (by simp [zownA]))
  obtain ⟨ci198, i198, fB, hk198, hg198, ha198, hsB, -, hnB, htB, hffB⟩ := Cond.ownField (t := .object "java/lang/Object") Y.found L.cls (by decide +kernel) (at' (.fieldLink Bundle.tN 198 Bundle.tN "backtrace" "Ljava/lang/Object;") (by simp [zownA])) (at' (.lays Bundle.tN Bundle.tN "backtrace" "Ljava/lang/Object;") (by simp [zownA])) e.platform hpl
  obtain ⟨cellS, hcS', heS, -, hkeep⟩ := X.same.2.2.2.2.2 T.aS cellS0 hcS0
  have hcellS : W.heap[T.aS]? = some cellS := hcS'
  have hout' : ∀ i, (⟨T.aS, i⟩ : Loc) ∉ locs := fun i hmem => by
    have := hlocs _ hmem cellS0 hcS0
    rw [hiss] at this; cases this
  have hknownS : cellS.vm ≠ .unknown := by
    rw [heS]; intro hu
    rw [show cellS0.vm = .unknown from hu] at hiss
    cases hiss
  have hneS : T.aS ≠ a := Nat.ne_of_lt (Nat.lt_of_lt_of_le (Array.getElem?_eq_some_iff.mp hcS0).1 hnew)
  obtain ⟨iM, hffM⟩ := Y.msg
  obtain ⟨tyC, dC, hdC, hdnC⟩ := Cond.laysAt hfound hk Y.cause (at' (.lays cls Bundle.tN "cause" "Ljava/lang/Throwable;") (by simp [zownA]))
  obtain ⟨tyS, dS, hdS, hdnS⟩ := Cond.laysAt hfound hk Y.stack (at' (.lays cls Bundle.tN "stackTrace" Bundle.steD) (by simp [zownA]))
  obtain ⟨tyP, dP, hdP, hdnP⟩ := Cond.laysAt hfound hk Y.supp (at' (.lays cls Bundle.tN "suppressedExceptions" Bundle.listD) (by simp [zownA]))
  obtain ⟨tyM, dM, hdM, hdnM⟩ := Cond.laysAt hfound hk hffM (at' (.lays cls Bundle.tN "detailMessage" "Ljava/lang/String;") (by simp [zownA]))
  obtain ⟨tyB, dB, hdB, hdnB⟩ := Cond.laysAt hfound hk hffB (at' (.lays cls Bundle.tN "backtrace" "Ljava/lang/Object;") (by simp [zownA]))
  have bC := Cond.laysApart hdB hdC hdnB hdnC (by rw [hnB, Y.causeName]; decide)
  have bS := Cond.laysApart hdB hdS hdnB hdnS (by rw [hnB, Y.stackName]; decide)
  have bP := Cond.laysApart hdB hdP hdnB hdnP (by rw [hnB, Y.suppName]; decide)
  have hskip : SkipFacts T e.platform s (fun u => u) u0 ((preparedCellV T.toThrowableT (freshCell P1.m.cls kX) a u0 sen).withEntry W.cur) :=
    ⟨{ ci198 := ci198, i198 := i198, fBack := fB }, ⟨hk198, hg198, ha198, hsB⟩, by
      have := fresh_default (c := P1.m.cls) tyB
      rw [htB] at this
      simpa [preparedCellV, Cell.setSlot, Cell.withEntry, Array.getElem?_setIfInBounds, bC, bS, bP, bC.symm, bS.symm, bP.symm, defaultValue] using this, fun _ _ => rfl⟩
  obtain ⟨tm, methC, cdC, kC, vm₁, hnC, -, -, -, -, -, -, -, hW₁, st1⟩ := Steps.initColdS (tb := p.tables) (e := e) (below := below) (s := s) (U := W) X.here hexec X.warmed hpl hown (t := Bundle.initS cls) rfl rfl (Bundle.fit_spec hcls).2
    (at' (.methodLink own ic (Bundle.initS cls)) (by simp [zownA])) (h (.instanceMethod (Bundle.initS cls)) (by simp [zownA, Bundle.passSAtoms])) (bytes := bytes) (maxL := 2) (h (.code (Bundle.initS cls) bytes 2 none) (by simp [zownA, Bundle.passSAtoms]))
    (f := g) hg (a := a) (msg := msg) (rest := .ref a :: rest) hstack hd6
  cases Option.some.inj (hnC.symm.trans hP1m)
  have X₁ := X.noted hW₁
  obtain ⟨vm₂, X₂, st2⟩ := X₁.ctorMessageOffV hexec (g := { g with stack := .ref a :: rest }) hg hsize T L Z LZ M LM (P1 :: P2 :: Ps)
    (fun P hP => by
      rcases List.mem_cons.mp hP with rfl | hP
      · exact L1
      · rcases List.mem_cons.mp hP with rfl | hP
        · exact L2
        · exact hL P hP) ⟨hsup, hlink1, hlink⟩ (u0 := u0) (sen := sen) (self := a) hmsg (cell := freshCell P1.m.cls kX) (cellS := cellS)
    hcell (fun _ => by simp) (by simp) rfl rfl hsel0 hselF hcellS hneS hknownS (by rw [hkeep _ (hout' _)]; exact hu0) (by rw [hkeep _ (hout' _)]; exact hsen)
    (Takes.of_laid hk hord tyC (by rw [Y.causeType]; rfl)) (Takes.of_laid hk hord tyS (by rw [Y.stackType]; exact fits_refV_array _ u0)) (Takes.of_laid hk hord tyP (by rw [Y.suppType]; exact fits_refV_object _ sen))
    (Takes.of_laid hk hord tyM (by rw [Y.msgType]; exact fits_refV_object _ ⟨msg, hmsg⟩)) Y.objLocals hskip htr [] hd6
    (by simp only [List.length_cons, hlen]; omega) (by simp only [List.length_cons, hlen]; exact hRlocals)
  obtain ⟨hwalk, hrun, hended, hWU, hsame⟩ := X₂.athrowLeaves hexec (g := { g with stack := .ref a :: rest, pc := g.pc + 3 }) hg hlocked hentered hout (a := a) (rest := rest) rfl hd9
  have hlt : a < ((W.setVm vm₁).setVm vm₂).heap.size := (Array.getElem?_eq_some_iff.mp hcell).1
  have hU := heapAt_setCell_self (s := (W.setVm vm₁).setVm vm₂) (plainBareV T.toThrowableT (freshCell P1.m.cls kX) a u0 sen msg) hlt
  refine ⟨_, st1 _ (fun acts => ?_), hrun, hended, hWU, hsame.weaken (fun y hy hlt' => ?_) (Nat.le_refl _) (Nat.le_refl _), _, hU, rfl, hfound⟩
  · rw [doInvoke_state]
    exact st2 _ hwalk
  · rcases List.mem_append.mp hy with h1 | h1
    · exact h1
    · exfalso
      have hb : y.base = a := by
        simp only [List.mem_cons, List.not_mem_nil, or_false] at h1
        rcases h1 with rfl | rfl | rfl | rfl | rfl <;> rfl
      rw [hb] at hlt'
      exact Nat.not_lt.mpr hnew hlt'
end ZN
end
section
section ZNT
variable {p : Program} {l : Launch} {e : Env} {R : Room} {s : State} {m : MethodId} {args : Array Value} {below : List Frame} {meth : Method} {c : Code} {H : Heap} {locs : List Loc} {cells slots : Nat} {free : Addr → Prop} {ls : Array Slot} {rest : List Value}
variable {Qc : Array Value → State → Outcome → State → Prop} {XC : String → State → State → Prop}
set_option maxHeartbeats 4000000 in
/-- the same throw, by zt_ctor (after the kit's vx_throwS) -/
theorem zt_throw {cc : ByteArray} {pc : Nat} (hexec : p.tables.exec = Jvm.exec) (hb : c.code = cc) (hl : l.stackTraces = false) {own cls Yn text : String} {names : List String} {ik is ic ix mc ms sa : Nat} {bytes : ByteArray} {A : Nat → Prop}
    (b0 : decode bytes 0 = .ok (.aload_n 0, 1)) (b1 : decode bytes 1 = .ok (.aload_n 1, 1)) (b2 : decode bytes 2 = .ok (.invokespecial ix, 3)) (b5 : decode bytes 5 = .ok (.return_, 1)) (hYn : Bundle.fit Yn = true)
    (hown : s.vm.findClass own = some m.cls) (hcls : Bundle.fit cls = true) (hnames : ∀ n ∈ names, Bundle.fit n = true)
    (hk : (Cond.classLink own ik cls).before args s = true) (hini : (Cond.initialized cls).before args s = true) (hstr : vk_R own is text sa s) (hat : ∀ w ∈ (zownA own ic cls Yn ix bytes names).filter vx_no, w.before args s = true)
    (hgood : ∀ w ∈ Cond.classLink own ik cls :: Cond.initialized cls :: (zownA own ic cls Yn ix bytes names).filter vx_no, vx_ot w = true)
    (hU : vx_Zq Bundle.tN "UNASSIGNED_STACK" Bundle.steD A s s.heap) (hN : vx_Zq Bundle.tN "SUPPRESSED_SENTINEL" Bundle.listD A s s.heap) (hS : va_S A s.heap H locs) (hsize : ls.size = c.maxLocals)
    (d0 : decode cc pc = .ok (.new ik, 3)) (d3 : decode cc (pc + 3) = .ok (.dup, 1)) (d4 : decode cc (pc + 4) = .ok (.ldc is, 2)) (d6 : decode cc (pc + 6) = .ok (.invokespecial ic, 3)) (d9 : decode cc (pc + 9) = .ok (.athrow, 1))
    (hout : ∀ x ∈ c.exceptionTable.toList, covers x (pc + 9) = false)
    (hRframes : names.length + 4 < R.frames) (hRlocals : (rest.map fun v => v.category).sum + (13 * (names.length + 2) + 43) ≤ R.locals) (hRcells : cells + 1 ≤ R.cells) (hRslots : slots + 6 ≤ R.slots) (hlocks : meth.locks = false)
    (hx : ∀ t : State, s.vm.Alike t.vm → H.size ≤ t.heap.size → (∀ q : Nat, q < H.size → t.heap[q]? = H[q]?) → XC cls s t)
    (hf : ∀ z ∈ locs, free z.base) (hc : cells + 1 ≤ mc) (hs : slots + 6 ≤ ms) :
    W p l e R s m args below meth c H locs cells slots (vx_MQ below Qc XC args s mc ms free) (F0 m pc ls rest) := by
  intro T hT X
  have htr : e.platform.stackTraces = false := (show e.platform.stackTraces = l.stackTraces by rw [X.admits.platform]).trans hl
  have Y := vx_rebase X (R' := { frames := R.frames, locals := R.locals, cells := 1, slots := 6 }) (Nat.le_refl _) (Nat.le_refl _) hRcells hRslots
  obtain ⟨s', hA⟩ : ∃ z, z = (T.setVm s.vm).setFrames (.invoking m args :: below) := ⟨_, rfl⟩
  rw [← hA] at Y
  have hvm : s'.vm = s.vm := by rw [hA]; rfl
  have hhp : s'.heap = H := by rw [hA]; exact hT
  have hW0 : s.WarmedH s'.vm := by rw [hvm]; exact State.WarmedH.refl s
  have hat' : ∀ w ∈ (zownA own ic cls Yn ix bytes names).filter vx_no, w.before args s' = true := fun w hw => vx_ot_at hW0 hvm.symm (hgood w (List.mem_cons_of_mem _ (List.mem_cons_of_mem _ hw))) (hat w hw)
  have hk' : (Cond.classLink own ik cls).before args s' = true := vx_ot_at hW0 hvm.symm (hgood _ List.mem_cons_self) hk
  have hini' : (Cond.initialized cls).before args s' = true := vx_ot_at hW0 hvm.symm (hgood _ (List.mem_cons_of_mem _ List.mem_cons_self)) hini
  have hU' : vx_Zq Bundle.tN "UNASSIGNED_STACK" Bundle.steD A s' s'.heap := by rw [hhp]; exact vx_Zq.moved hW0.alike (hU.kept hS.2.1)
  have hN' : vx_Zq Bundle.tN "SUPPRESSED_SENTINEL" Bundle.listD A s' s'.heap := by rw [hhp]; exact vx_Zq.moved hW0.alike (hN.kept hS.2.1)
  have h : ∀ w ∈ zownA own ic cls Yn ix bytes names, w.before args s' = true := vx_own hat' (vx_isRefq hU'.1) (vx_isRefq hN'.1) hU'.2.word hN'.2.word
  have hown' : s'.vm.findClass own = some m.cls := by rw [hvm]; exact hown
  have hins : (Cond.instantiable cls 6).before args s' = true := h _ (by simp [zownA])
  obtain ⟨vm₁, cX, kX, hfX, hkX, -, -, X₁, st1⟩ := Y.newCold hexec (own := own) (C := cls) (index := ik) (n := 6) hown' hk' hins hini'
    (g := F0 m pc ls rest) rfl (by rw [hb]; exact d0) (Nat.le_refl _) (Nat.le_refl _)
  generalize hT1 : (T.setVm vm₁).pushCell { cls := cX, slots := kX.instanceTypes.map defaultValue, vm := .none } = T1 at X₁ st1
  have hcat : (Value.ref T.heap.size).category = 1 := rfl
  have hcellA : T1.heap[T.heap.size]? = some (freshCell cX kX) := by rw [← hT1]; exact State.heap_pushCell_size _ _
  have d3' : decode c.code (pc + 3) = .ok (.dup, 1) := by rw [hb]; exact d3
  have d4' : decode c.code (pc + 4) = .ok (.ldc is, 2) := by rw [hb]; exact d4
  have hstr' : vk_R own is text sa s' := vk_R.warm hW0 hstr
  obtain ⟨U, hsteps, hrun, hend, hW, hsame, ce, hce, hOv, hOc⟩ := zt_ctor X₁ hexec htr (own := own) (cls := cls) (Yn := Yn) (names := names) (ic := ic) b0 b1 b2 b5 hown' hcls hYn hnames h (fun x hx => nomatch hx) hfX hkX hcellA (by rw [hhp, hT]; exact Nat.le_refl _) (msg := .ref sa) rfl
    (g := { method := m, pc := pc + 6, locals := ls, stack := .ref sa :: .ref T.heap.size :: .ref T.heap.size :: rest, locked := none }) rfl hsize rfl rfl (rest := rest) rfl
    (by rw [hb]; exact d6) (by rw [hb]; exact d9) hout hRframes (by simp only [List.map_cons, List.sum_cons, hcat]; omega) hlocks
  obtain ⟨f1, f2⟩ := vx_frame hsame
  rw [hhp] at f1 f2
  have hWs : s.WarmedH U.vm := State.WarmedH.trans hW0 hW
  have hcl : s.vm.findClass cls = some ce.cls := by
    have h9 := hOc
    rw [hvm] at h9
    exact h9
  have hall : s.sameButNew ({ U with vm := s.vm } : State) locs mc ms := by
    subst hA
    obtain ⟨e1, e2⟩ := hsame
    rw [State.setFrames_setFrames] at e1
    have h2 : (T.setVm s.vm).sameButNew ({ U with vm := s.vm } : State) [] (0 + 1) (0 + 6) := ⟨e1, e2⟩
    have h3 := X.same.trans h2
    rw [List.append_nil] at h3
    exact h3.mono hc hs
  refine ⟨U, ?_, .threw T.heap.size, hrun, hend, Or.inr ⟨T.heap.size, rfl, cls, ce, locs, hx U hWs.alike f1 (fun q hq => f2 q hq (fun z hz => nomatch hz)), hce, hOv, hcl, hWs, hall, hf⟩⟩
  refine st1 _ ?_
  show Steps p.tables e below (T1.setTop { method := m, pc := pc + 3, locals := ls, stack := .ref T.heap.size :: rest, locked := none }) _
  jvm_step X₁.here [X₁.here.top, hexec, d3', Value.category]
  exact X₁.ldcString hexec (own := own) (text := text) (index := is) (a := sa) hown' hstr'.1 hstr'.2
    (g := { method := m, pc := pc + 4, locals := ls, stack := .ref T.heap.size :: .ref T.heap.size :: rest, locked := none }) rfl d4' _ hsteps
end ZNT
section ZNZ
variable {p : Program} {l : Launch} {e : Env} {R : Room} {s : State} {m : MethodId} {args : Array Value} {below : List Frame} {meth : Method} {c : Code}
variable {cc : ByteArray} {nL cells slots pc : Nat} {D : va_G} {cl : List vw_C} {A : Nat → Prop} {tys : List (ClassId × FieldType)} {Ts : List Cond} {own : String} {G : State → (Nat → Prop) → Prop}
variable {ws : va_W} {lv : List (Nat × Value)} {st : List Value}
theorem zn_throwi (F : zF p s m args c cc nL Ts own D cl tys A G) {post : Int32 → va_W → Prop} {postX : String → va_W → Prop} {mc ms : Nat} (hl : l.stackTraces = false) {cls Yn text : String} {names : List String} {ik is ic ix : Nat} {bytes : ByteArray}
    (b0 : decode bytes 0 = .ok (.aload_n 0, 1)) (b1 : decode bytes 1 = .ok (.aload_n 1, 1)) (b2 : decode bytes 2 = .ok (.invokespecial ix, 3)) (b5 : decode bytes 5 = .ok (.return_, 1)) (hYn : Bundle.fit Yn = true) (hcls : Bundle.fit cls = true) (hnames : ∀ n ∈ names, Bundle.fit n = true)
    (hk : (Cond.classLink own ik cls).before args s = true) (hini : (Cond.initialized cls).before args s = true) (hstr : ∃ sa, vk_R own is text sa s) (hat : ∀ w ∈ (zownA own ic cls Yn ix bytes names).filter vx_no, w.before args s = true)
    (hgood : ∀ w ∈ Cond.classLink own ik cls :: Cond.initialized cls :: (zownA own ic cls Yn ix bytes names).filter vx_no, vx_ot w = true)
    (hU : vx_Zq Bundle.tN "UNASSIGNED_STACK" Bundle.steD A s s.heap) (hN : vx_Zq Bundle.tN "SUPPRESSED_SENTINEL" Bundle.listD A s s.heap) (hout : ∀ x ∈ c.exceptionTable.toList, False)
    (d0 : decode cc pc = .ok (.new ik, 3)) (d3 : decode cc (pc + 3) = .ok (.dup, 1)) (d4 : decode cc (pc + 4) = .ok (.ldc is, 2)) (d6 : decode cc (pc + 6) = .ok (.invokespecial ic, 3)) (d9 : decode cc (pc + 9) = .ok (.athrow, 1))
    (hRf : names.length + 4 < R.frames) (hRl : (st.map fun v => v.category).sum + (13 * (names.length + 2) + 43) ≤ R.locals) (hRc : cells + 1 ≤ R.cells) (hRs : slots + 6 ≤ R.slots) (hlk : meth.locks = false) (hp : postX cls ws) (h1 : cells + 1 ≤ mc) (h2 : slots + 6 ≤ ms) :
    zW p l e R s m args below meth c nL D cl A cells slots (vx_MQ below (va_Qi post (zEnd D cl A) A) (zXC D cl A postX) args s mc ms A) ws lv pc st := by
  intro H locs ls hP hD hS hh
  obtain ⟨sa, hsa⟩ := hstr
  refine zt_throw F.1 F.2.1 hl b0 b1 b2 b5 hYn F.2.2.2.1 hcls hnames hk hini hsa hat hgood hU hN hS (by rw [F.2.2.1]; exact hh.1) d0 d3 d4 d6 d9 (fun x hx => (hout x hx).elim) hRf hRl hRc hRs hlk ?_ hS.2.2 h1 h2
  intro t _ hz hkp
  refine ⟨ws, trivial, ⟨hp, hP.kept (fun k q hq => hkp q.1 (hP k q hq).lt), hD⟩, Nat.le_trans hS.1 hz, fun q h1 h2 => ?_⟩
  rw [hkp q (Nat.lt_of_lt_of_le h1 hS.1)]
  exact hS.2.1 q h1 h2
theorem zn_throwv (F : zF p s m args c cc nL Ts own D cl tys A G) {post : va_W → Prop} {postX : String → va_W → Prop} {mc ms : Nat} (hl : l.stackTraces = false) {cls Yn text : String} {names : List String} {ik is ic ix : Nat} {bytes : ByteArray}
    (b0 : decode bytes 0 = .ok (.aload_n 0, 1)) (b1 : decode bytes 1 = .ok (.aload_n 1, 1)) (b2 : decode bytes 2 = .ok (.invokespecial ix, 3)) (b5 : decode bytes 5 = .ok (.return_, 1)) (hYn : Bundle.fit Yn = true) (hcls : Bundle.fit cls = true) (hnames : ∀ n ∈ names, Bundle.fit n = true)
    (hk : (Cond.classLink own ik cls).before args s = true) (hini : (Cond.initialized cls).before args s = true) (hstr : ∃ sa, vk_R own is text sa s) (hat : ∀ w ∈ (zownA own ic cls Yn ix bytes names).filter vx_no, w.before args s = true)
    (hgood : ∀ w ∈ Cond.classLink own ik cls :: Cond.initialized cls :: (zownA own ic cls Yn ix bytes names).filter vx_no, vx_ot w = true)
    (hU : vx_Zq Bundle.tN "UNASSIGNED_STACK" Bundle.steD A s s.heap) (hN : vx_Zq Bundle.tN "SUPPRESSED_SENTINEL" Bundle.listD A s s.heap) (hout : ∀ x ∈ c.exceptionTable.toList, False)
    (d0 : decode cc pc = .ok (.new ik, 3)) (d3 : decode cc (pc + 3) = .ok (.dup, 1)) (d4 : decode cc (pc + 4) = .ok (.ldc is, 2)) (d6 : decode cc (pc + 6) = .ok (.invokespecial ic, 3)) (d9 : decode cc (pc + 9) = .ok (.athrow, 1))
    (hRf : names.length + 4 < R.frames) (hRl : (st.map fun v => v.category).sum + (13 * (names.length + 2) + 43) ≤ R.locals) (hRc : cells + 1 ≤ R.cells) (hRs : slots + 6 ≤ R.slots) (hlk : meth.locks = false) (hp : postX cls ws) (h1 : cells + 1 ≤ mc) (h2 : slots + 6 ≤ ms) :
    zW p l e R s m args below meth c nL D cl A cells slots (vx_MQ below (va_Qv post (zEnd D cl A) A) (zXC D cl A postX) args s mc ms A) ws lv pc st := by
  intro H locs ls hP hD hS hh
  obtain ⟨sa, hsa⟩ := hstr
  refine zt_throw F.1 F.2.1 hl b0 b1 b2 b5 hYn F.2.2.2.1 hcls hnames hk hini hsa hat hgood hU hN hS (by rw [F.2.2.1]; exact hh.1) d0 d3 d4 d6 d9 (fun x hx => (hout x hx).elim) hRf hRl hRc hRs hlk ?_ hS.2.2 h1 h2
  intro t _ hz hkp
  refine ⟨ws, trivial, ⟨hp, hP.kept (fun k q hq => hkp q.1 (hP k q hq).lt), hD⟩, Nat.le_trans hS.1 hz, fun q h1 h2 => ?_⟩
  rw [hkp q (Nat.lt_of_lt_of_le h1 hS.1)]
  exact hS.2.1 q h1 h2
end ZNZ
theorem xat_NSE_g : ∀ w ∈ ((zownA RX4 120 "java/util/NoSuchElementException" "java/lang/RuntimeException" 13 prog_16_method_4_code ["java/lang/Exception"]).filter vx_no).filter goodWord, w ∈ lw_tbl := by decide +kernel
theorem xat_NSE_b : ∀ w ∈ ((zownA RX4 120 "java/util/NoSuchElementException" "java/lang/RuntimeException" 13 prog_16_method_4_code ["java/lang/Exception"]).filter vx_no).filter (fun w => !goodWord w), w ∈ [Cond.castable "java/util/NoSuchElementException" "java/util/NoSuchElementException", Cond.declares (Bundle.initS "java/lang/RuntimeException"), Cond.declares (Bundle.initS "java/lang/Exception"), Cond.declares (Bundle.initS Bundle.tN)] := by decide +kernel
theorem xat_NSE {args : Array Value} {s : State} {A : Nat → Prop} (ht : ∀ w ∈ gtbl, w.before args s = true) (g : zG s A) : ∀ w ∈ (zownA RX4 120 "java/util/NoSuchElementException" "java/lang/RuntimeException" 13 prog_16_method_4_code ["java/lang/Exception"]).filter vx_no, w.before args s = true :=
  vx_hat (fun w h => ht w (List.mem_filter.mpr ⟨xat_NSE_g w h, (List.mem_filter.mp h).2⟩)) xat_NSE_b (vx_c (va_Nw.use rfl (g.2.2.1 "java/util/NoSuchElementException" (List.mem_of_getElem? (i := 2) rfl))) (vx_c (zdecl (ht _ kiJ_1) (ht _ kcJ_1)) (vx_c (zdecl (ht _ kiJ_2) (ht _ kcJ_2)) (vx_c (zdecl (ht _ kiJ_3) (ht _ kcJ_3)) vx_n))))
theorem xgd_NSE : ∀ w ∈ Cond.classLink RX4 116 "java/util/NoSuchElementException" :: Cond.initialized "java/util/NoSuchElementException" :: (zownA RX4 120 "java/util/NoSuchElementException" "java/lang/RuntimeException" 13 prog_16_method_4_code ["java/lang/Exception"]).filter vx_no, vx_ot w = true := by decide +kernel
theorem bN_0 : decode prog_16_method_4_code 0 = .ok (.aload_n 0, 1) := by decide +kernel
theorem bN_1 : decode prog_16_method_4_code 1 = .ok (.aload_n 1, 1) := by decide +kernel
theorem bN_2 : decode prog_16_method_4_code 2 = .ok (.invokespecial 13, 3) := by decide +kernel
theorem bN_5 : decode prog_16_method_4_code 5 = .ok (.return_, 1) := by decide +kernel
end
