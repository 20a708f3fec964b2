/-! ===== the law: what holds beside the picture, with what is not castable ===== -/
def zncs : List (String × String) := [("java/lang/UnsupportedOperationException", "java/lang/IllegalArgumentException"), ("java/lang/IllegalArgumentException", "java/util/NoSuchElementException"), ("java/lang/IllegalStateException", "java/lang/IllegalArgumentException"), ("java/lang/ArithmeticException", "java/lang/IllegalArgumentException"), ("java/lang/ArithmeticException", "java/lang/IllegalStateException"), ("java/lang/ArithmeticException", "java/util/NoSuchElementException")]
def zG2 (U : State) (A : Nat → Prop) : Prop := zG U A ∧ ∀ q ∈ zncs, va_Nc q.1 q.2 U
theorem zG2_ok : zGok zG2 := fun u U A B hW hk hB h => ⟨zG_ok u U A B hW hk hB h.1, fun q hq => va_Nc.moved hW.alike (h.2 q hq)⟩
section ZWK
variable {l : Launch} {y : MethodName} {wsy : List Cond} {rm : Room} {D : va_G} {cl : List vw_C} {tys : List (ClassId × FieldType)} {av : List Value} {w : va_W} {mc ms : Nat}
theorem zwk_Mi {post : Int32 → va_W → Prop} (h : zMi l y wsy rm D cl tys zG av w post mc ms) : zMi l y wsy rm D cl tys zG2 av w post mc ms :=
  fun sz p e ha hc hk s m args below hf happ hP ht => h sz p e ha hc hk s m args below hf happ ⟨hP.1, hP.2.1, hP.2.2.1, hP.2.2.2.1, hP.2.2.2.2.1, hP.2.2.2.2.2.1.1, zG_ok⟩ ht
theorem zwk_Mv {post : va_W → Prop} (h : zMv l y wsy rm D cl tys zG av w post mc ms) : zMv l y wsy rm D cl tys zG2 av w post mc ms :=
  fun sz p e ha hc hk s m args below hf happ hP ht => h sz p e ha hc hk s m args below hf happ ⟨hP.1, hP.2.1, hP.2.2.1, hP.2.2.2.1, hP.2.2.2.2.1, hP.2.2.2.2.2.1.1, zG_ok⟩ ht
theorem zwk_Xi {post : Int32 → va_W → Prop} {postX : String → va_W → Prop} (h : zXi l y wsy rm D cl tys zG av w post postX mc ms) : zXi l y wsy rm D cl tys zG2 av w post postX mc ms :=
  fun sz p e ha hc hk s m args below hf happ hP ht => h sz p e ha hc hk s m args below hf happ ⟨hP.1, hP.2.1, hP.2.2.1, hP.2.2.2.1, hP.2.2.2.2.1, hP.2.2.2.2.2.1.1, zG_ok⟩ ht
theorem zwk_Xv {post : va_W → Prop} {postX : String → va_W → Prop} (h : zXv l y wsy rm D cl tys zG av w post postX mc ms) : zXv l y wsy rm D cl tys zG2 av w post postX mc ms :=
  fun sz p e ha hc hk s m args below hf happ hP ht => h sz p e ha hc hk s m args below hf happ ⟨hP.1, hP.2.1, hP.2.2.1, hP.2.2.2.1, hP.2.2.2.2.1, hP.2.2.2.2.2.1.1, zG_ok⟩ ht
end ZWK
/-- the words of a method with a table -/
def zwsW (y : MethodName) (bytes : ByteArray) (maxL : Nat) (ret : Option FieldType) (hh : List (Nat × Nat × Nat × Nat)) : List Cond := Cond.codeWith y bytes maxL ret hh :: gtbl
theorem zgoodW {y : MethodName} {bytes : ByteArray} {maxL : Nat} {ret : Option FieldType} {hh : List (Nat × Nat × Nat × Nat)} (hc : Cond.codeWith y bytes maxL ret hh ∈ gtbl) : GoodIn gtbl (zwsW y bytes maxL ret hh) := by
  intro w h
  rcases List.mem_cons.mp h with rfl | h
  · exact ⟨hc, gtbl_good _ hc⟩
  · exact ⟨h, gtbl_good w h⟩
theorem zcsW {R : Room} {s : State} {args : Array Value} {own : String} {index maxL mc ms n : Nat} {y : MethodName} {bytes : ByteArray} {ret : Option FieldType} {rm : Room} {hh : List (Nat × Nat × Nat × Nat)} (ht : ∀ w ∈ gtbl, w.before args s = true) (hc : Cond.codeWith y bytes maxL ret hh ∈ gtbl) (hl : Cond.methodLink own index y ∈ gtbl) (hi : Cond.static y ∈ gtbl) (hn : Cond.initialized y.cls ∈ gtbl)
    (hd : y.cls ≠ "java/lang/invoke/MethodHandle" ∧ y.cls ≠ "java/lang/invoke/VarHandle" ∧ (parseMethodDescriptor y.desc).map (fun d => d.parameters.length) = some n) (hrc : rm.cells = mc) (hrs : rm.slots = ms) (hR : rm.frames + 1 ≤ R.frames ∧ 8 + (maxL + 11) + rm.locals ≤ R.locals) :
    vx_CSW R s args own index y bytes maxL ret hh (zwsW y bytes maxL ret hh) rm mc ms n := by
  refine ⟨⟨hrc, hrs, hR.1, hR.2, pay_in ht (zgoodW hc), List.mem_cons_self⟩, ht _ hc, ht _ hn, ⟨hd.1, hd.2.1⟩, fun sig h => ?_, ht _ hl, ht _ hi⟩
  have h2 := hd.2.2
  rw [h] at h2
  exact (Option.some.inj h2).symm
section ZLW
variable {p : Program} {l : Launch} {e : Env} {R : Room} {s : State} {m : MethodId} {args : Array Value} {below : List Frame} {meth : Method} {c : Code} {Q : State → Prop}
variable {cc : ByteArray} {nL cells slots pc : Nat} {D : va_G} {cl : List vw_C} {A : Nat → Prop} {tys : List (ClassId × FieldType)} {Ts : List Cond} {own : String} {G : State → (Nat → Prop) → Prop}
variable {ws : va_W} {lv : List (Nat × Value)} {st : List Value}
/-- the picture in another order -/
theorem z_perm {ws' : va_W} (is : List Nat) (hs : is.filterMap (fun i => ws[i]?) = ws') (hn : va_nd is = true) (hm : is.map (fun i => ws[i]?) = ws'.map some) (k : zW p l e R s m args below meth c nL D cl A cells slots Q ws' lv pc st) : zW p l e R s m args below meth c nL D cl A cells slots Q ws lv pc st :=
  fun H locs ls hP hD hS hh => k H locs ls (hP.sub is hs) (hD.sub is hn hm) hS hh
/-- the script -/
theorem z_sld (F : zF p s m args c cc nL Ts own D cl tys A G) {b L : Nat} {xs : Nat → Int32} (hX : va_X b L xs s s.heap) (hbl : b < s.heap.size) (hbA : ¬ A b) {i : Int32} {j : Nat} (hi : i = nI j) (hj : j < L) (hL : L < 2 ^ 31) (hd : decode cc pc = .ok (.iaload, 1)) (kk : zW p l e R s m args below meth c nL D cl A cells slots Q ws lv (pc + 1) (.int (xs j) :: st)) : zW p l e R s m args below meth c nL D cl A cells slots Q ws lv pc (.int i :: .ref b :: st) := by
  subst hi
  intro H locs ls hP hD hS hh
  refine va_sld F.1 F.2.1 hX hbl hbA hS (vp_in_nI hj hL) hd ?_
  rw [nI_clamp (Nat.lt_trans hj hL)]
  exact kk H locs ls hP hD hS hh
theorem z_slen (F : zF p s m args c cc nL Ts own D cl tys A G) {b L : Nat} {xs : Nat → Int32} (hX : va_X b L xs s s.heap) (hbl : b < s.heap.size) (hbA : ¬ A b) (hd : decode cc pc = .ok (.arraylength, 1)) (kk : zW p l e R s m args below meth c nL D cl A cells slots Q ws lv (pc + 1) (.int (nI L) :: st)) : zW p l e R s m args below meth c nL D cl A cells slots Q ws lv pc (.ref b :: st) :=
  fun H locs ls hP hD hS hh => va_slen F.1 F.2.1 hX hbl hbA hS hd (kk H locs ls hP hD hS hh)
/-- a static call of a method with a table, which never throws -/
theorem z_callSWi (F : zF p s m args c cc nL Ts own D cl tys A G) {y : MethodName} {bytes : ByteArray} {maxL mc ms n index : Nat} {ret : Option FieldType} {hh0 : List (Nat × Nat × Nat × Nat)} {wsy : List Cond} {rm : Room} {As rest : List Value} {w1 w2 w3 : va_W} {post : Int32 → va_W → Prop} (hM : zMi l y wsy rm D cl tys G As w2 post mc ms) (cw : vx_CSW R s args own index y bytes maxL ret hh0 wsy rm mc ms n) (hd : decode cc pc = .ok (.invokestatic index, 3)) (hws : ws = w1 ++ (w2 ++ w3)) (hst : st = As.reverse ++ rest) (hn : As.length = n) (hro : (rest.map fun v => v.category).sum ≤ 8) (hf : cells + mc ≤ R.cells ∧ slots + ms ≤ R.slots)
    (kk : ∀ (r : Int32) (w2b : va_W), post r w2b → zW p l e R s m args below meth c nL D cl A (cells + mc) (slots + ms) Q (w1 ++ (w2b ++ w3)) (lv) (pc + 3) (.int r :: rest)) : zW p l e R s m args below meth c nL D cl A cells slots Q ws (lv) (pc) (st) := by
  subst hws
  subst hst
  intro H locs ls hP hD hS hh
  have hPc := zP_mid hP
  have hDc := zD_mid hD
  have hFc := z_free hD hS F.2.2.2.2.2.2.1
  refine va_calli (vx_runSW (As := As) (rest := rest) ⟨F.1, F.2.1, F.2.2.1, F.2.2.2.1, F.2.2.2.2.1⟩ (hM H.size) cw ⟨fun a U g mk q => by
      obtain ⟨q0, q1, qP, qK, qD, qG, qo⟩ := q
      exact ⟨q0, q1, qP, va_K.moved (u := U) (U := U.calling g mk a) (Vm.Alike.refl U.vm) qK, qD, qo U (U.calling g mk a) _ _ (State.WarmedH.refl U) (fun _ _ _ => rfl) (fun _ h => h) qG, qo⟩, fun U hU hW => ⟨rfl, by rw [hU], by rw [hU]; exact hPc, va_K.moved hW.alike F.2.2.2.2.2.1, hDc.weaken (fun _ _ _ _ => trivial), F.2.2.2.2.2.2.2.2 s U A _ hW (fun q h1 h2 => by rw [hU]; exact hS.2.1 q h1 h2) hFc F.2.2.2.2.2.2.2.1, F.2.2.2.2.2.2.2.2⟩⟩ rfl hn hh.1 rfl (lv_room hro) hd hf) hS (fun q _ h => hFc q h) hFc ?_
  intro r w2b t H1 locs1 ht hvm hpost hB hz hk hS1
  obtain ⟨hP1, hD1⟩ := hB
  rw [ht] at hP1
  obtain ⟨hP2, hD2⟩ := z_join hP hD hk hFc hP1 hD1
  exact kk r w2b hpost H1 locs1 ls hP2 hD2 hS1 hh
/-- the entry of a method with a table, which never throws -/
theorem z_ofiH {y : MethodName} {wsy ws' : List Cond} {rm : Room} {av : List Value} {w : va_W} {post : Int32 → va_W → Prop} {mc ms maxL : Nat} {ret : Option FieldType} {hh : List (Nat × Nat × Nat × Nat)} (hy : plainName y.cls = true) (hw : wsy = Cond.codeWith y cc maxL ret hh :: ws') (hlen : (lg_sl av).length ≤ maxL)
    (body : ∀ (p : Program) (e : Env) (s : State) (m : MethodId) (below : List Frame) (meth : Method) (c : Code) (A : Nat → Prop), zF p s m av.toArray c cc maxL ws' y.cls D cl tys A G → meth.sig.returnType = ret → meth.locks = false → c.exceptionTable.toList = tableOf hh →
      zW p l e (headSpec wsy rm).room s m av.toArray below meth c maxL D cl A 0 0 (MQ below (va_Qi post (zEnd D cl A) A) av.toArray s mc ms A) w (lv_args 0 av) 0 []) : zMi l y wsy rm D cl tys G av w post mc ms := by
  intro sz
  refine MetFree.of_bodyS (code := cc) (maxLocals := maxL) (ret := ret) hy ?_ ?_
  · intro args s m h hn
    obtain ⟨m9, meth, c, hn9, h1, h2, h3, h4, -, h5, h6, -⟩ := Cond.codeWith_spec (atoms_spec (ws := wsy) h _ (by rw [hw]; exact List.mem_cons_self))
    cases hn.symm.trans hn9
    exact ⟨meth, c, h1, h2, h3, h4, h5, h6⟩
  · intro p e s m args below meth c s₁ B hml hv _
    have hh0 : s₁.heap = s.heap := by rw [B.state]; rfl
    obtain ⟨rfl, hsz, hP, hK, hD0, hG, hok⟩ := hv
    subst hsz
    have hts : ∀ w ∈ ws', w.before av.toArray s = true := fun w h => atoms_spec (ws := wsy) B.pre w (by rw [hw]; exact List.mem_cons_of_mem _ h)
    have htb := vx_table (x := y) B (atoms_spec (ws := wsy) B.pre _ (by rw [hw]; exact List.mem_cons_self))
    have hl := lv_entry av (n := maxL) hlen
    have K := body p e s m below meth c (va_A w s.heap.size) ⟨B.exec, B.bytes, hml, findClass_of_methodNamed B.named, hts, hK, fun q h => Or.inr h, hG, hok⟩ B.returns B.notSynchronized htb s.heap [] _ hP hD0.self va_S.rf hl
    rw [← lg_entry_eq] at K
    obtain ⟨t, a1, o, b1, b2, b3⟩ := K s₁ hh0 (Stand.of_body B)
    exact ⟨t, o, a1, b1, b2, b3⟩
end ZLW
