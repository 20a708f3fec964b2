/-! ===== the z layer, of methods that may throw ===== -/
def zXC (D : va_G) (cl : List vw_C) (A : Nat → Prop) (postX : String → va_W → Prop) : String → State → State → Prop := vx_X (fun _ : va_W => True) (fun E w t => postX E w ∧ zEnd D cl A w t) A
def zXi (l : Launch) (y : MethodName) (wsy : List Cond) (rm : Room) (D : va_G) (cl : List vw_C) (tys : List (ClassId × FieldType)) (G : State → (Nat → Prop) → Prop) (av : List Value) (w : va_W) (post : Int32 → va_W → Prop) (postX : String → va_W → Prop) (mc ms : Nat) : Prop :=
  ∀ sz : Nat, vx_Met l y wsy rm (va_Pc av (zPre D cl tys G w sz)) (va_Qi post (zEnd D cl (va_A w sz)) (va_A w sz)) (zXC D cl (va_A w sz) postX) mc ms (va_A w sz)
def zXv (l : Launch) (y : MethodName) (wsy : List Cond) (rm : Room) (D : va_G) (cl : List vw_C) (tys : List (ClassId × FieldType)) (G : State → (Nat → Prop) → Prop) (av : List Value) (w : va_W) (post : va_W → Prop) (postX : String → va_W → Prop) (mc ms : Nat) : Prop :=
  ∀ sz : Nat, vx_Met l y wsy rm (va_Pc av (zPre D cl tys G w sz)) (va_Qv post (zEnd D cl (va_A w sz)) (va_A w sz)) (zXC D cl (va_A w sz) postX) mc ms (va_A w sz)
/-- the frame with an exception of class E thrown over it -/
def zWx (p : Program) (l : Launch) (e : Env) (R : Room) (s : State) (m : MethodId) (args : Array Value) (below : List Frame) (meth : Method) (c : Code) (nL : Nat) (D : va_G) (cl : List vw_C) (A : Nat → Prop) (cells slots : Nat) (Q : State → Prop) (E : String) (ws : va_W) (lv : List (Nat × Value)) (pc : Nat) (st : List Value) : Prop :=
  ∀ (H : Heap) (locs : List Loc) (ls : Array Slot) (q : Addr) (ce : Cell), va_P D cl ws H → va_D A ws → va_S A s.heap H locs → lv_has ls nL lv → H[q]? = some ce → ce.vm = .none → s.vm.findClass E = some ce.cls → vx_W p l e R s m args below meth c H locs cells slots Q (F0 m pc ls st) q
section ZX
variable {p : Program} {l : Launch} {e : Env} {R : Room} {s : State} {m : MethodId} {args : Array Value} {below : List Frame} {meth : Method} {c : Code} {Q : State → Prop}
variable {cc : ByteArray} {nL cells slots pc : Nat} {D : va_G} {cl : List vw_C} {A : Nat → Prop} {tys : List (ClassId × FieldType)} {Ts : List Cond} {own : String} {G : State → (Nat → Prop) → Prop}
variable {ws : va_W} {lv : List (Nat × Value)} {st : List Value}
theorem zx_outi {E : String} {post : Int32 → va_W → Prop} {postX : String → va_W → Prop} {mc ms : Nat} (hout : ∀ x ∈ c.exceptionTable.toList, False) (hlk : meth.locks = false) (hp : postX E ws) (h1 : cells ≤ mc) (h2 : slots ≤ ms) : zWx p l e R s m args below meth c nL D cl A cells slots (vx_MQ below (va_Qi post (zEnd D cl A) A) (zXC D cl A postX) args s mc ms A) E ws (lv) (pc) (st) := by
  intro H locs ls q ce hP hD hS hh hce hv hcl
  exact vx_out (fun x hx => (hout x hx).elim) hlk hce hv hcl (fun t ht _ => ⟨ws, trivial, ⟨hp, by rw [ht]; exact hP, hD⟩, hS.F ht⟩) hS.2.2 h1 h2
theorem zx_outv {E : String} {post : va_W → Prop} {postX : String → va_W → Prop} {mc ms : Nat} (hout : ∀ x ∈ c.exceptionTable.toList, False) (hlk : meth.locks = false) (hp : postX E ws) (h1 : cells ≤ mc) (h2 : slots ≤ ms) : zWx p l e R s m args below meth c nL D cl A cells slots (vx_MQ below (va_Qv post (zEnd D cl A) A) (zXC D cl A postX) args s mc ms A) E ws (lv) (pc) (st) := by
  intro H locs ls q ce hP hD hS hh hce hv hcl
  exact vx_out (fun x hx => (hout x hx).elim) hlk hce hv hcl (fun t ht _ => ⟨ws, trivial, ⟨hp, by rw [ht]; exact hP, hD⟩, hS.F ht⟩) hS.2.2 h1 h2
theorem zx_iret (F : zF p s m args c cc nL Ts own D cl tys A G) {post : Int32 → va_W → Prop} {postX : String → va_W → Prop} {v : Int32} {mc ms : Nat} {ty : FieldType} (hr : meth.sig.returnType = some ty) (hn : narrow ty (.int v) = .int v) (hlk : meth.locks = false) (hd : decode cc pc = .ok (.ireturn, 1)) (hp : post v ws) (h1 : cells ≤ mc) (h2 : slots ≤ ms) : zW p l e R s m args below meth c nL D cl A cells slots (vx_MQ below (va_Qi post (zEnd D cl A) A) (zXC D cl A postX) args s mc ms A) ws (lv) (pc) ([.int v]) :=
  fun H locs ls hP hD hS hh => vx_ret (z_iret F hr hn hlk hd hp h1 h2 H locs ls hP hD hS hh)
theorem zx_vret (F : zF p s m args c cc nL Ts own D cl tys A G) {post : va_W → Prop} {postX : String → va_W → Prop} {mc ms : Nat} (hr : meth.sig.returnType = none) (hlk : meth.locks = false) (hd : decode cc pc = .ok (.return_, 1)) (hp : post ws) (h1 : cells ≤ mc) (h2 : slots ≤ ms) : zW p l e R s m args below meth c nL D cl A cells slots (vx_MQ below (va_Qv post (zEnd D cl A) A) (zXC D cl A postX) args s mc ms A) ws (lv) (pc) ([]) :=
  fun H locs ls hP hD hS hh => vx_ret (z_vret F hr hlk hd hp h1 h2 H locs ls hP hD hS hh)
theorem zx_throwi (F : zF p s m args c cc nL Ts own D cl tys A G) {post : Int32 → va_W → Prop} {postX : String → va_W → Prop} {mc ms : Nat} (hl : l.stackTraces = false) {cls text : String} {names : List String} {ik is ic : Nat} (hcls : Bundle.fit cls = true) (hnames : ∀ n ∈ names, Bundle.fit n = true)
    (hk : (Cond.classLink own ik cls).before args s = true) (hini : (Cond.initialized cls).before args s = true) (hstr : ∃ sa, vk_R own is text sa s) (hat : ∀ w ∈ vx_atS own ic cls names, w.before args s = true)
    (hgood : ∀ w ∈ Cond.classLink own ik cls :: Cond.initialized cls :: vx_atS own ic cls names, vx_ot w = true)
    (hU : vx_Zq Bundle.tN "UNASSIGNED_STACK" Bundle.steD A s s.heap) (hN : vx_Zq Bundle.tN "SUPPRESSED_SENTINEL" Bundle.listD A s s.heap) (hout : ∀ x ∈ c.exceptionTable.toList, False)
    (d0 : decode cc pc = .ok (.new ik, 3)) (d3 : decode cc (pc + 3) = .ok (.dup, 1)) (d4 : decode cc (pc + 4) = .ok (.ldc is, 2)) (d6 : decode cc (pc + 6) = .ok (.invokespecial ic, 3)) (d9 : decode cc (pc + 9) = .ok (.athrow, 1))
    (hRf : names.length + 3 < R.frames) (hRl : (st.map fun v => v.category).sum + (13 * (names.length + 1) + 43) ≤ R.locals) (hRc : cells + 1 ≤ R.cells) (hRs : slots + 6 ≤ R.slots) (hlk : meth.locks = false) (hp : postX cls ws) (h1 : cells + 1 ≤ mc) (h2 : slots + 6 ≤ ms) :
    zW p l e R s m args below meth c nL D cl A cells slots (vx_MQ below (va_Qi post (zEnd D cl A) A) (zXC D cl A postX) args s mc ms A) ws (lv) (pc) (st) := by
  intro H locs ls hP hD hS hh
  obtain ⟨sa, hsa⟩ := hstr
  refine vx_throwS F.1 F.2.1 hl F.2.2.2.1 hcls hnames hk hini hsa hat hgood hU hN hS (by rw [F.2.2.1]; exact hh.1) d0 d3 d4 d6 d9 (fun x hx => (hout x hx).elim) hRf hRl hRc hRs hlk ?_ hS.2.2 h1 h2
  intro t _ hz hkp
  refine ⟨ws, trivial, ⟨hp, hP.kept (fun k q hq => hkp q.1 (hP k q hq).lt), hD⟩, Nat.le_trans hS.1 hz, fun q h1 h2 => ?_⟩
  rw [hkp q (Nat.lt_of_lt_of_le h1 hS.1)]
  exact hS.2.1 q h1 h2
theorem zx_throwv (F : zF p s m args c cc nL Ts own D cl tys A G) {post : va_W → Prop} {postX : String → va_W → Prop} {mc ms : Nat} (hl : l.stackTraces = false) {cls text : String} {names : List String} {ik is ic : Nat} (hcls : Bundle.fit cls = true) (hnames : ∀ n ∈ names, Bundle.fit n = true)
    (hk : (Cond.classLink own ik cls).before args s = true) (hini : (Cond.initialized cls).before args s = true) (hstr : ∃ sa, vk_R own is text sa s) (hat : ∀ w ∈ vx_atS own ic cls names, w.before args s = true)
    (hgood : ∀ w ∈ Cond.classLink own ik cls :: Cond.initialized cls :: vx_atS own ic cls names, vx_ot w = true)
    (hU : vx_Zq Bundle.tN "UNASSIGNED_STACK" Bundle.steD A s s.heap) (hN : vx_Zq Bundle.tN "SUPPRESSED_SENTINEL" Bundle.listD A s s.heap) (hout : ∀ x ∈ c.exceptionTable.toList, False)
    (d0 : decode cc pc = .ok (.new ik, 3)) (d3 : decode cc (pc + 3) = .ok (.dup, 1)) (d4 : decode cc (pc + 4) = .ok (.ldc is, 2)) (d6 : decode cc (pc + 6) = .ok (.invokespecial ic, 3)) (d9 : decode cc (pc + 9) = .ok (.athrow, 1))
    (hRf : names.length + 3 < R.frames) (hRl : (st.map fun v => v.category).sum + (13 * (names.length + 1) + 43) ≤ R.locals) (hRc : cells + 1 ≤ R.cells) (hRs : slots + 6 ≤ R.slots) (hlk : meth.locks = false) (hp : postX cls ws) (h1 : cells + 1 ≤ mc) (h2 : slots + 6 ≤ ms) :
    zW p l e R s m args below meth c nL D cl A cells slots (vx_MQ below (va_Qv post (zEnd D cl A) A) (zXC D cl A postX) args s mc ms A) ws (lv) (pc) (st) := by
  intro H locs ls hP hD hS hh
  obtain ⟨sa, hsa⟩ := hstr
  refine vx_throwS F.1 F.2.1 hl F.2.2.2.1 hcls hnames hk hini hsa hat hgood hU hN hS (by rw [F.2.2.1]; exact hh.1) d0 d3 d4 d6 d9 (fun x hx => (hout x hx).elim) hRf hRl hRc hRs hlk ?_ hS.2.2 h1 h2
  intro t _ hz hkp
  refine ⟨ws, trivial, ⟨hp, hP.kept (fun k q hq => hkp q.1 (hP k q hq).lt), hD⟩, Nat.le_trans hS.1 hz, fun q h1 h2 => ?_⟩
  rw [hkp q (Nat.lt_of_lt_of_le h1 hS.1)]
  exact hS.2.1 q h1 h2
theorem zx_callVi (F : zF p s m args c cc nL Ts own D cl tys A G) {y : MethodName} {bytes : ByteArray} {maxL mc ms n index : Nat} {ret : Option FieldType} {wsy : List Cond} {rm : Room} {As rest : List Value} {w1 w2 w3 : va_W} {b : Nat} {C : String} {T : u_T} {N ci : Nat} {fs : List Value} {post : Int32 → va_W → Prop} {postX : String → va_W → Prop} (hM : zXi l y wsy rm D cl tys G (.ref b :: As) w2 post postX mc ms) (q0 : Nat) (he : w2[q0]? = some (b, .inr (ci, fs))) (hc : cl[ci]? = some (C, T, N)) (cw : CallW R s args own C index y bytes maxL ret wsy rm mc ms n) (hd : decode cc pc = .ok (.invokevirtual index, 3)) (hws : ws = w1 ++ (w2 ++ w3)) (hst : st = As.reverse ++ .ref b :: rest) (hn : As.length = n) (hro : (rest.map fun v => v.category).sum ≤ 8) (hf : cells + mc ≤ R.cells ∧ slots + ms ≤ R.slots)
    (kx : ∀ (E : String) (w2b : va_W), postX E w2b → zWx p l e R s m args below meth c nL D cl A (cells + mc) (slots + ms) Q E (w1 ++ (w2b ++ w3)) (lv) (pc) (rest)) (kk : ∀ (r : Int32) (w2b : va_W), post r w2b → zW p l e R s m args below meth c nL D cl A (cells + mc) (slots + ms) Q (w1 ++ (w2b ++ w3)) (lv) (pc + 3) (.int r :: rest)) : zW p l e R s m args below meth c nL D cl A cells slots Q ws (lv) (pc) (st) := by
  subst hws
  subst hst
  intro H locs ls hP hD hS hh
  have hPc := zP_mid hP
  have hDc := zD_mid hD
  have hFc := z_free hD hS F.2.2.2.2.2.2.1
  refine vx_calli (vx_runV (As := As) (rest := rest) ⟨F.1, F.2.1, F.2.2.1, F.2.2.2.1, F.2.2.2.2.1⟩ (hM H.size) cw ⟨fun a U g mk q => by
      obtain ⟨q0, q1, qP, qK, qD, qG, qo⟩ := q
      exact ⟨q0, q1, qP, va_K.moved (u := U) (U := U.calling g mk a) (Vm.Alike.refl U.vm) qK, qD, qo U (U.calling g mk a) _ _ (State.WarmedH.refl U) (fun _ _ _ => rfl) (fun _ h => h) qG, qo⟩, va_recv F.2.2.2.2.2.1 hPc hc he, fun U hU hW => ⟨rfl, by rw [hU], by rw [hU]; exact hPc, va_K.moved hW.alike F.2.2.2.2.2.1, hDc.weaken (fun _ _ _ _ => trivial), F.2.2.2.2.2.2.2.2 s U A _ hW (fun q h1 h2 => by rw [hU]; exact hS.2.1 q h1 h2) hFc F.2.2.2.2.2.2.2.1, F.2.2.2.2.2.2.2.2⟩⟩ rfl hn hh.1 rfl (lv_room hro) hd hf) hS (fun q _ h => hFc q h) hFc (fun q _ h => hFc q h) ?_ ?_
  · intro E ce q9 w2b t H1 locs1 ht hvm _ hB hz hk hS1 hce hcv hcl
    obtain ⟨hpx, hP1, hD1⟩ := hB
    rw [ht] at hP1
    obtain ⟨hP2, hD2⟩ := z_join hP hD hk hFc hP1 hD1
    exact kx E w2b hpx H1 locs1 ls q9 ce hP2 hD2 hS1 hh hce hcv hcl
  · intro r w2b t H1 locs1 ht hvm hpost hB hz hk hS1
    obtain ⟨hP1, hD1⟩ := hB
    rw [ht] at hP1
    obtain ⟨hP2, hD2⟩ := z_join hP hD hk hFc hP1 hD1
    exact kk r w2b hpost H1 locs1 ls hP2 hD2 hS1 hh
theorem zx_callVv (F : zF p s m args c cc nL Ts own D cl tys A G) {y : MethodName} {bytes : ByteArray} {maxL mc ms n index : Nat} {ret : Option FieldType} {wsy : List Cond} {rm : Room} {As rest : List Value} {w1 w2 w3 : va_W} {b : Nat} {C : String} {T : u_T} {N ci : Nat} {fs : List Value} {post : va_W → Prop} {postX : String → va_W → Prop} (hM : zXv l y wsy rm D cl tys G (.ref b :: As) w2 post postX mc ms) (q0 : Nat) (he : w2[q0]? = some (b, .inr (ci, fs))) (hc : cl[ci]? = some (C, T, N)) (cw : CallW R s args own C index y bytes maxL ret wsy rm mc ms n) (hd : decode cc pc = .ok (.invokevirtual index, 3)) (hws : ws = w1 ++ (w2 ++ w3)) (hst : st = As.reverse ++ .ref b :: rest) (hn : As.length = n) (hro : (rest.map fun v => v.category).sum ≤ 8) (hf : cells + mc ≤ R.cells ∧ slots + ms ≤ R.slots)
    (kx : ∀ (E : String) (w2b : va_W), postX E w2b → zWx p l e R s m args below meth c nL D cl A (cells + mc) (slots + ms) Q E (w1 ++ (w2b ++ w3)) (lv) (pc) (rest)) (kk : ∀ w2b : va_W, post w2b → zW p l e R s m args below meth c nL D cl A (cells + mc) (slots + ms) Q (w1 ++ (w2b ++ w3)) (lv) (pc + 3) (rest)) : zW p l e R s m args below meth c nL D cl A cells slots Q ws (lv) (pc) (st) := by
  subst hws
  subst hst
  intro H locs ls hP hD hS hh
  have hPc := zP_mid hP
  have hDc := zD_mid hD
  have hFc := z_free hD hS F.2.2.2.2.2.2.1
  refine vx_callv (vx_runV (As := As) (rest := rest) ⟨F.1, F.2.1, F.2.2.1, F.2.2.2.1, F.2.2.2.2.1⟩ (hM H.size) cw ⟨fun a U g mk q => by
      obtain ⟨q0, q1, qP, qK, qD, qG, qo⟩ := q
      exact ⟨q0, q1, qP, va_K.moved (u := U) (U := U.calling g mk a) (Vm.Alike.refl U.vm) qK, qD, qo U (U.calling g mk a) _ _ (State.WarmedH.refl U) (fun _ _ _ => rfl) (fun _ h => h) qG, qo⟩, va_recv F.2.2.2.2.2.1 hPc hc he, fun U hU hW => ⟨rfl, by rw [hU], by rw [hU]; exact hPc, va_K.moved hW.alike F.2.2.2.2.2.1, hDc.weaken (fun _ _ _ _ => trivial), F.2.2.2.2.2.2.2.2 s U A _ hW (fun q h1 h2 => by rw [hU]; exact hS.2.1 q h1 h2) hFc F.2.2.2.2.2.2.2.1, F.2.2.2.2.2.2.2.2⟩⟩ rfl hn hh.1 rfl (lv_room hro) hd hf) hS (fun q _ h => hFc q h) hFc (fun q _ h => hFc q h) ?_ ?_
  · intro E ce q9 w2b t H1 locs1 ht hvm _ hB hz hk hS1 hce hcv hcl
    obtain ⟨hpx, hP1, hD1⟩ := hB
    rw [ht] at hP1
    obtain ⟨hP2, hD2⟩ := z_join hP hD hk hFc hP1 hD1
    exact kx E w2b hpx H1 locs1 ls q9 ce hP2 hD2 hS1 hh hce hcv hcl
  · intro w2b t H1 locs1 ht hvm hpost hB hz hk hS1
    obtain ⟨hP1, hD1⟩ := hB
    rw [ht] at hP1
    obtain ⟨hP2, hD2⟩ := z_join hP hD hk hFc hP1 hD1
    exact kk w2b hpost H1 locs1 ls hP2 hD2 hS1 hh
theorem zx_callSi (F : zF p s m args c cc nL Ts own D cl tys A G) {y : MethodName} {bytes : ByteArray} {maxL mc ms n index : Nat} {ret : Option FieldType} {wsy : List Cond} {rm : Room} {As rest : List Value} {w1 w2 w3 : va_W} {post : Int32 → va_W → Prop} {postX : String → va_W → Prop} (hM : zXi l y wsy rm D cl tys G As w2 post postX mc ms)  (cw : CallB R s args own index y bytes maxL ret wsy rm mc ms n ∧ (Cond.static y).before args s = true) (hd : decode cc pc = .ok (.invokestatic index, 3)) (hws : ws = w1 ++ (w2 ++ w3)) (hst : st = As.reverse ++ rest) (hn : As.length = n) (hro : (rest.map fun v => v.category).sum ≤ 8) (hf : cells + mc ≤ R.cells ∧ slots + ms ≤ R.slots)
    (kx : ∀ (E : String) (w2b : va_W), postX E w2b → zWx p l e R s m args below meth c nL D cl A (cells + mc) (slots + ms) Q E (w1 ++ (w2b ++ w3)) (lv) (pc) (rest)) (kk : ∀ (r : Int32) (w2b : va_W), post r w2b → zW p l e R s m args below meth c nL D cl A (cells + mc) (slots + ms) Q (w1 ++ (w2b ++ w3)) (lv) (pc + 3) (.int r :: rest)) : zW p l e R s m args below meth c nL D cl A cells slots Q ws (lv) (pc) (st) := by
  subst hws
  subst hst
  intro H locs ls hP hD hS hh
  have hPc := zP_mid hP
  have hDc := zD_mid hD
  have hFc := z_free hD hS F.2.2.2.2.2.2.1
  refine vx_calli (vx_runS (As := As) (rest := rest) ⟨F.1, F.2.1, F.2.2.1, F.2.2.2.1, F.2.2.2.2.1⟩ (hM H.size) cw ⟨fun a U g mk q => by
      obtain ⟨q0, q1, qP, qK, qD, qG, qo⟩ := q
      exact ⟨q0, q1, qP, va_K.moved (u := U) (U := U.calling g mk a) (Vm.Alike.refl U.vm) qK, qD, qo U (U.calling g mk a) _ _ (State.WarmedH.refl U) (fun _ _ _ => rfl) (fun _ h => h) qG, qo⟩, fun U hU hW => ⟨rfl, by rw [hU], by rw [hU]; exact hPc, va_K.moved hW.alike F.2.2.2.2.2.1, hDc.weaken (fun _ _ _ _ => trivial), F.2.2.2.2.2.2.2.2 s U A _ hW (fun q h1 h2 => by rw [hU]; exact hS.2.1 q h1 h2) hFc F.2.2.2.2.2.2.2.1, F.2.2.2.2.2.2.2.2⟩⟩ rfl hn hh.1 rfl (lv_room hro) hd hf) hS (fun q _ h => hFc q h) hFc (fun q _ h => hFc q h) ?_ ?_
  · intro E ce q9 w2b t H1 locs1 ht hvm _ hB hz hk hS1 hce hcv hcl
    obtain ⟨hpx, hP1, hD1⟩ := hB
    rw [ht] at hP1
    obtain ⟨hP2, hD2⟩ := z_join hP hD hk hFc hP1 hD1
    exact kx E w2b hpx H1 locs1 ls q9 ce hP2 hD2 hS1 hh hce hcv hcl
  · intro r w2b t H1 locs1 ht hvm hpost hB hz hk hS1
    obtain ⟨hP1, hD1⟩ := hB
    rw [ht] at hP1
    obtain ⟨hP2, hD2⟩ := z_join hP hD hk hFc hP1 hD1
    exact kk r w2b hpost H1 locs1 ls hP2 hD2 hS1 hh
theorem zx_callSv (F : zF p s m args c cc nL Ts own D cl tys A G) {y : MethodName} {bytes : ByteArray} {maxL mc ms n index : Nat} {ret : Option FieldType} {wsy : List Cond} {rm : Room} {As rest : List Value} {w1 w2 w3 : va_W} {post : va_W → Prop} {postX : String → va_W → Prop} (hM : zXv l y wsy rm D cl tys G As w2 post postX mc ms)  (cw : CallB R s args own index y bytes maxL ret wsy rm mc ms n ∧ (Cond.static y).before args s = true) (hd : decode cc pc = .ok (.invokestatic index, 3)) (hws : ws = w1 ++ (w2 ++ w3)) (hst : st = As.reverse ++ rest) (hn : As.length = n) (hro : (rest.map fun v => v.category).sum ≤ 8) (hf : cells + mc ≤ R.cells ∧ slots + ms ≤ R.slots)
    (kx : ∀ (E : String) (w2b : va_W), postX E w2b → zWx p l e R s m args below meth c nL D cl A (cells + mc) (slots + ms) Q E (w1 ++ (w2b ++ w3)) (lv) (pc) (rest)) (kk : ∀ w2b : va_W, post w2b → zW p l e R s m args below meth c nL D cl A (cells + mc) (slots + ms) Q (w1 ++ (w2b ++ w3)) (lv) (pc + 3) (rest)) : zW p l e R s m args below meth c nL D cl A cells slots Q ws (lv) (pc) (st) := by
  subst hws
  subst hst
  intro H locs ls hP hD hS hh
  have hPc := zP_mid hP
  have hDc := zD_mid hD
  have hFc := z_free hD hS F.2.2.2.2.2.2.1
  refine vx_callv (vx_runS (As := As) (rest := rest) ⟨F.1, F.2.1, F.2.2.1, F.2.2.2.1, F.2.2.2.2.1⟩ (hM H.size) cw ⟨fun a U g mk q => by
      obtain ⟨q0, q1, qP, qK, qD, qG, qo⟩ := q
      exact ⟨q0, q1, qP, va_K.moved (u := U) (U := U.calling g mk a) (Vm.Alike.refl U.vm) qK, qD, qo U (U.calling g mk a) _ _ (State.WarmedH.refl U) (fun _ _ _ => rfl) (fun _ h => h) qG, qo⟩, fun U hU hW => ⟨rfl, by rw [hU], by rw [hU]; exact hPc, va_K.moved hW.alike F.2.2.2.2.2.1, hDc.weaken (fun _ _ _ _ => trivial), F.2.2.2.2.2.2.2.2 s U A _ hW (fun q h1 h2 => by rw [hU]; exact hS.2.1 q h1 h2) hFc F.2.2.2.2.2.2.2.1, F.2.2.2.2.2.2.2.2⟩⟩ rfl hn hh.1 rfl (lv_room hro) hd hf) hS (fun q _ h => hFc q h) hFc (fun q _ h => hFc q h) ?_ ?_
  · intro E ce q9 w2b t H1 locs1 ht hvm _ hB hz hk hS1 hce hcv hcl
    obtain ⟨hpx, hP1, hD1⟩ := hB
    rw [ht] at hP1
    obtain ⟨hP2, hD2⟩ := z_join hP hD hk hFc hP1 hD1
    exact kx E w2b hpx H1 locs1 ls q9 ce hP2 hD2 hS1 hh hce hcv hcl
  · intro w2b t H1 locs1 ht hvm hpost hB hz hk hS1
    obtain ⟨hP1, hD1⟩ := hB
    rw [ht] at hP1
    obtain ⟨hP2, hD2⟩ := z_join hP hD hk hFc hP1 hD1
    exact kk w2b hpost H1 locs1 ls hP2 hD2 hS1 hh
theorem zx_catch (F : zF p s m args c cc nL Ts own D cl tys A G) {name E : String} (pre : List ExceptionTableEntry) (x : ExceptionTableEntry) (suf : List ExceptionTableEntry) (hsplit : c.exceptionTable.toList = pre ++ x :: suf)
    (hpass : ∀ z ∈ pre, covers z pc = false ∨ (z.catchType ≠ 0 ∧ ∃ nm : String, (Cond.classLink own z.catchType nm).before args s = true ∧ va_Nc E nm s)) (hx : covers x pc = true) (h0 : x.catchType ≠ 0)
    (hlink : (Cond.classLink own x.catchType name).before args s = true) (hcast : (Cond.castable E name).before args s = true) (kk : ∀ q : Nat, zW p l e R s m args below meth c nL D cl A cells slots Q ws (lv) (x.handlerPc) ([.ref q])) : zWx p l e R s m args below meth c nL D cl A cells slots Q E ws (lv) (pc) (st) :=
  fun H locs ls q ce hP hD hS hh hce hv hcl => vx_catch F.2.2.2.1 pre x suf hsplit hpass hx h0 hlink hcast hce hv hcl (kk q H locs ls hP hD hS hh)
theorem zx_ofi {y : MethodName} {wsy ws' : List Cond} {rm : Room} {av : List Value} {w : va_W} {post : Int32 → va_W → Prop} {postX : String → va_W → Prop} {mc ms maxL : Nat} {ret : Option FieldType} (hy : plainName y.cls = true) (hw : wsy = Cond.code y cc maxL ret :: ws') (hlen : (lg_sl av).length ≤ maxL)
    (body : ∀ (p : Program) (e : Env) (s : State) (m : MethodId) (below : List Frame) (meth : Method) (c : Code) (A : Nat → Prop), zF p s m av.toArray c cc maxL ws' y.cls D cl tys A G → meth.sig.returnType = ret → meth.locks = false → meth.name = y.name → (∀ x ∈ c.exceptionTable.toList, False) →
      zW p l e (headSpec wsy rm).room s m av.toArray below meth c maxL D cl A 0 0 (vx_MQ below (va_Qi post (zEnd D cl A) A) (zXC D cl A postX) av.toArray s mc ms A) w (lv_args 0 av) 0 []) : zXi l y wsy rm D cl tys G av w post postX mc ms := by
  intro sz
  refine vx_ofW (cc := cc) (maxL := maxL) (ret := ret) hy hw ?_
  intro p e s m args below meth c s₁ B hml hex hv
  obtain ⟨rfl, hsz, hP, hK, hD0, hG, hok⟩ := hv
  subst hsz
  have hts : ∀ w ∈ ws', w.before av.toArray s = true := fun w h => atoms_spec (ws := wsy) B.pre w (by rw [hw]; exact List.mem_cons_of_mem _ h)
  have hl := lv_entry av (n := maxL) hlen
  rw [lg_entry_eq]
  exact body p e s m below meth c (va_A w s.heap.size) ⟨B.exec, B.bytes, hml, findClass_of_methodNamed B.named, hts, hK, fun q h => Or.inr h, hG, hok⟩ B.returns B.notSynchronized (name_of_methodNamed B.named B.method).1 hex s.heap [] _ hP hD0.self va_S.rf hl
theorem zx_ofv {y : MethodName} {wsy ws' : List Cond} {rm : Room} {av : List Value} {w : va_W} {post : va_W → Prop} {postX : String → va_W → Prop} {mc ms maxL : Nat} {ret : Option FieldType} (hy : plainName y.cls = true) (hw : wsy = Cond.code y cc maxL ret :: ws') (hlen : (lg_sl av).length ≤ maxL)
    (body : ∀ (p : Program) (e : Env) (s : State) (m : MethodId) (below : List Frame) (meth : Method) (c : Code) (A : Nat → Prop), zF p s m av.toArray c cc maxL ws' y.cls D cl tys A G → meth.sig.returnType = ret → meth.locks = false → meth.name = y.name → (∀ x ∈ c.exceptionTable.toList, False) →
      zW p l e (headSpec wsy rm).room s m av.toArray below meth c maxL D cl A 0 0 (vx_MQ below (va_Qv post (zEnd D cl A) A) (zXC D cl A postX) av.toArray s mc ms A) w (lv_args 0 av) 0 []) : zXv l y wsy rm D cl tys G av w post postX mc ms := by
  intro sz
  refine vx_ofW (cc := cc) (maxL := maxL) (ret := ret) hy hw ?_
  intro p e s m args below meth c s₁ B hml hex hv
  obtain ⟨rfl, hsz, hP, hK, hD0, hG, hok⟩ := hv
  subst hsz
  have hts : ∀ w ∈ ws', w.before av.toArray s = true := fun w h => atoms_spec (ws := wsy) B.pre w (by rw [hw]; exact List.mem_cons_of_mem _ h)
  have hl := lv_entry av (n := maxL) hlen
  rw [lg_entry_eq]
  exact body p e s m below meth c (va_A w s.heap.size) ⟨B.exec, B.bytes, hml, findClass_of_methodNamed B.named, hts, hK, fun q h => Or.inr h, hG, hok⟩ B.returns B.notSynchronized (name_of_methodNamed B.named B.method).1 hex s.heap [] _ hP hD0.self va_S.rf hl
end ZX
