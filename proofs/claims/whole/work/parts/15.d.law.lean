theorem zand15 (x : Int32) : ∃ t, t < 16 ∧ x &&& 15 = nI t := by
  refine ⟨(x &&& 15).toBitVec.toNat, ?_, ?_⟩
  · have h : (x &&& 15).toBitVec = x.toBitVec &&& 15#32 := rfl
    rw [h, BitVec.toNat_and]
    exact Nat.lt_of_le_of_lt Nat.and_le_right (by decide)
  · apply Int32.toBitVec_inj.mp
    show (x &&& 15).toBitVec = BitVec.ofNat 32 (x &&& 15).toBitVec.toNat
    rw [BitVec.ofNat_toNat, BitVec.setWidth_eq]
theorem zsub_lt5 {x r : Nat} (hx : x < 2 ^ 30) (hr : r < 2 ^ 30) : nI r - 5 < nI x ↔ r < x + 5 := by
  rw [Int32.lt_iff_toInt_lt, nI_toInt (by omega), show (nI r - 5).toInt = (r : Int) - 5 from pk_sub_toInt (b := 5) (by omega) (by decide)]
  omega
theorem zlcmp (x : Int64) : lg_cmp x x = 0 := by
  unfold lg_cmp
  simp
theorem zout_get2 {w m : va_W} {x : Nat × va_E} : ((w ++ [x]) ++ m)[w.length]? = some x := by simp

/-- one call of the class and of the reference with an answer in out: they refuse alike, or answer alike -/
def zSt (l : Launch) (D : va_G) (cA cL : ClassId) (tys : List (ClassId × FieldType)) (am0 ou : Nat) (Inv : va_W → va_W → Prop) (vl : Int32 → Int64) (yL : MethodName) (wsL : List Cond) (rL : Nat → Nat → Room) (yM : MethodName) (wsM : List Cond) (rM : Room) (aL aM : List Value) (X M : va_W) (f : Nat → Int64) : Prop :=
  ∃ (kd : Nat) (v : Int32) (X9 M9 : va_W) (mc ms : Nat), kd ≤ 3 ∧ mc ≤ 1 ∧ ms ≤ 6 ∧ Inv X9 M9 ∧
    zMi l yL wsL (rL mc ms) D zcl ((cA, .int) :: (cL, .long) :: tys) zG2 aL (X ++ [(ou, .inl (cL, 1, .inr (.inl f)))]) (fun r w2 => r = nI kd ∧ ∃ g : Nat → Int64, (kd = 0 → g 0 = vl v) ∧ w2 = X9 ++ [(ou, .inl (cL, 1, .inr (.inl g)))]) mc ms ∧
    zMi l yM wsM rM D zcl ((cA, .int) :: (cL, .long) :: tys) zG aM M (fun r w2 => (kd = 0 → r = v) ∧ w2 = M9) 0 0 ∧
    zMi l yX5_thrown (zws yX5_thrown cX5_thrown 1 (some .int)) { frames := 0, cells := 0, slots := 0, locals := 0 } D zcl ((cA, .int) :: (cL, .long) :: tys) zG [.ref am0] M9 (fun r w2 => r = nI kd ∧ w2 = M9) 0 0
/-- slack: no answer -/
def zSv (l : Launch) (D : va_G) (cA cL : ClassId) (tys : List (ClassId × FieldType)) (am0 : Nat) (Inv : va_W → va_W → Prop) (yL : MethodName) (wsL : List Cond) (rL : Nat → Nat → Room) (yM : MethodName) (wsM : List Cond) (rM : Room) (aL aM : List Value) (X M : va_W) : Prop :=
  ∃ (kd : Nat) (X9 M9 : va_W) (mc ms : Nat), kd ≤ 3 ∧ mc ≤ 1 ∧ ms ≤ 6 ∧ Inv X9 M9 ∧
    zMi l yL wsL (rL mc ms) D zcl ((cA, .int) :: (cL, .long) :: tys) zG2 aL X (fun r w2 => r = nI kd ∧ w2 = X9) mc ms ∧
    zMv l yM wsM rM D zcl ((cA, .int) :: (cL, .long) :: tys) zG aM M (fun w2 => w2 = M9) 0 0 ∧
    zMi l yX5_thrown (zws yX5_thrown cX5_thrown 1 (some .int)) { frames := 0, cells := 0, slots := 0, locals := 0 } D zcl ((cA, .int) :: (cL, .long) :: tys) zG [.ref am0] M9 (fun r w2 => r = nI kd ∧ w2 = M9) 0 0
/-- a question that neither refuses -/
def zSq (l : Launch) (D : va_G) (cA cL : ClassId) (tys : List (ClassId × FieldType)) (Inv : va_W → va_W → Prop) (yL : MethodName) (wsL : List Cond) (rL : Room) (yM : MethodName) (wsM : List Cond) (rM : Room) (aL aM : List Value) (X M : va_W) : Prop :=
  ∃ (v : Int32) (X9 M9 : va_W), Inv X9 M9 ∧ zMi l yL wsL rL D zcl ((cA, .int) :: (cL, .long) :: tys) zG aL X (fun r w2 => r = v ∧ w2 = X9) 0 0 ∧ zMi l yM wsM rM D zcl ((cA, .int) :: (cL, .long) :: tys) zG aM M (fun r w2 => r = v ∧ w2 = M9) 0 0

/-- what the law asks of an invariant -/
def zSteps (l : Launch) (D : va_G) (cA cL : ClassId) (tys : List (ClassId × FieldType)) (x0 am0 ou : Nat) (Inv : va_W → va_W → Prop) : Prop := ∀ X M : va_W, Inv X M → (∃ fs, X[0]? = some (x0, .inr (4, fs))) ∧ (∃ fs, M[0]? = some (am0, .inr (5, fs))) ∧
  (∀ (p0 p1 p2 p3 : Int32), ∀ f : Nat → Int64, zSt l D cA cL tys am0 ou Inv (fun v => v.toInt64) yL_box (zwsW yL_box cL_box 7 (some .int) [(0, 14, 17, 13), (0, 14, 21, 15)]) (fun mc ms => { frames := 8, cells := mc, slots := ms, locals := 130 }) yX5_box (zws yX5_box cX5_box 5 (some .int)) { frames := 1, cells := 0, slots := 0, locals := 22 } [.ref x0, .int p0, .int p1, .int p2, .int p3, .ref ou] [.ref am0, .int p0, .int p1, .int p2, .int p3] X M f) ∧
  (∀ (p0 p1 p2 : Int32), ∀ f : Nat → Int64, zSt l D cA cL tys am0 ou Inv (fun v => v.toInt64) yL_unit (zwsW yL_unit cL_unit 6 (some .int) [(0, 12, 15, 13), (0, 12, 19, 15)]) (fun mc ms => { frames := 8, cells := mc, slots := ms, locals := 129 }) yX5_unit (zws yX5_unit cX5_unit 4 (some .int)) { frames := 1, cells := 0, slots := 0, locals := 22 } [.ref x0, .int p0, .int p1, .int p2, .ref ou] [.ref am0, .int p0, .int p1, .int p2] X M f) ∧
  (∀ (p0 p1 p2 : Int32), ∀ f : Nat → Int64, zSt l D cA cL tys am0 ou Inv (fun v => v.toInt64) yL_group (zwsW yL_group cL_group 6 (some .int) [(0, 12, 15, 24), (0, 12, 19, 13)]) (fun mc ms => { frames := 8, cells := mc, slots := ms, locals := 130 }) yX5_group (zws yX5_group cX5_group 5 (some .int)) { frames := 2, cells := 0, slots := 0, locals := 43 } [.ref x0, .int p0, .int p1, .int p2, .ref ou] [.ref am0, .int p0, .int p1, .int p2] X M f) ∧
  (∀ (p0 p1 : Int32), ∀ f : Nat → Int64, zSt l D cA cL tys am0 ou Inv (fun v => v.toInt64) yL_change (zwsW yL_change cL_change 5 (some .int) [(0, 10, 13, 24), (0, 10, 17, 13)]) (fun mc ms => { frames := 8, cells := mc, slots := ms, locals := 128 }) yX5_change (zws yX5_change cX5_change 4 (some .int)) { frames := 2, cells := 0, slots := 0, locals := 43 } [.ref x0, .int p0, .int p1, .ref ou] [.ref am0, .int p0, .int p1] X M f) ∧
  (∀ (p0 : Int32), zSv l D cA cL tys am0 Inv yL_slack (zwsW yL_slack cL_slack 3 (some .int) [(0, 5, 8, 13)]) (fun mc ms => { frames := 8, cells := mc, slots := ms, locals := 127 }) yX5_slack (zws yX5_slack cX5_slack 2 none) { frames := 1, cells := 0, slots := 0, locals := 22 } [.ref x0, .int p0] [.ref am0, .int p0] X M) ∧
  (∀ (p0 : Int32), ∀ f : Nat → Int64, zSt l D cA cL tys am0 ou Inv (fun v => v.toInt64) yL_choose (zwsW yL_choose cL_choose 4 (some .int) [(0, 9, 12, 13)]) (fun mc ms => { frames := 8, cells := mc, slots := ms, locals := 177 }) yX5_choose (zws yX5_choose cX5_choose 3 (some .int)) { frames := 7, cells := 0, slots := 0, locals := 154 } [.ref x0, .int p0, .ref ou] [.ref am0, .int p0] X M f) ∧
  (zSq l D cA cL tys Inv yX4_exact (zws yX4_exact cX4_exact 1 (some .boolean)) { frames := 0, cells := 0, slots := 0, locals := 0 } yX5_exact (zws yX5_exact cX5_exact 1 (some .boolean)) { frames := 0, cells := 0, slots := 0, locals := 0 } [.ref x0] [.ref am0] X M) ∧
  (zSq l D cA cL tys Inv yX4_boxes (zws yX4_boxes cX4_boxes 1 (some .int)) { frames := 0, cells := 0, slots := 0, locals := 0 } yX5_boxes (zws yX5_boxes cX5_boxes 1 (some .int)) { frames := 0, cells := 0, slots := 0, locals := 0 } [.ref x0] [.ref am0] X M) ∧
  (∀ (p0 p1 : Int32), ∀ f : Nat → Int64, zSt l D cA cL tys am0 ou Inv (fun v => v.toInt64) yL_chosen (zwsW yL_chosen cL_chosen 5 (some .int) [(0, 10, 13, 24), (0, 10, 17, 13)]) (fun mc ms => { frames := 7, cells := mc, slots := ms, locals := 106 }) yX5_chosen (zws yX5_chosen cX5_chosen 3 (some .int)) { frames := 2, cells := 0, slots := 0, locals := 44 } [.ref x0, .int p0, .int p1, .ref ou] [.ref am0, .int p0, .int p1] X M f) ∧
  (∀ (p0 : Int32), ∀ f : Nat → Int64, zSt l D cA cL tys am0 ou Inv (fun v => v.toInt64) yL_where (zwsW yL_where cL_where 4 (some .int) [(0, 9, 12, 24)]) (fun mc ms => { frames := 8, cells := mc, slots := ms, locals := 126 }) yX5_where (zws yX5_where cX5_where 3 (some .int)) { frames := 2, cells := 0, slots := 0, locals := 43 } [.ref x0, .int p0, .ref ou] [.ref am0, .int p0] X M f) ∧
  (∀ (p0 : Int32), ∀ f : Nat → Int64, zSt l D cA cL tys am0 ou Inv (fun v => v.toInt64) yL_bar (zwsW yL_bar cL_bar 4 (some .int) [(0, 9, 12, 24)]) (fun mc ms => { frames := 8, cells := mc, slots := ms, locals := 128 }) yX5_bar (zws yX5_bar cX5_bar 6 (some .int)) { frames := 3, cells := 0, slots := 0, locals := 67 } [.ref x0, .int p0, .ref ou] [.ref am0, .int p0] X M f) ∧
  (∀ (p0 p1 : Int32), ∀ f : Nat → Int64, zSt l D cA cL tys am0 ou Inv zl01 yL_fits (zwsW yL_fits cL_fits 5 (some .int) [(0, 17, 20, 24)]) (fun mc ms => { frames := 8, cells := mc, slots := ms, locals := 127 }) yX5_fits (zws yX5_fits cX5_fits 3 (some .boolean)) { frames := 3, cells := 0, slots := 0, locals := 67 } [.ref x0, .int p0, .int p1, .ref ou] [.ref am0, .int p0, .int p1] X M f) ∧
  (∀ (p0 : Int32), ∀ f : Nat → Int64, zSt l D cA cL tys am0 ou Inv (fun v => v.toInt64) yL_used (zwsW yL_used cL_used 4 (some .int) [(0, 9, 12, 13), (0, 9, 15, 54), (0, 9, 18, 56)]) (fun mc ms => { frames := 8, cells := mc, slots := ms, locals := 130 }) yX5_used (zws yX5_used cX5_used 5 (some .int)) { frames := 2, cells := 0, slots := 0, locals := 44 } [.ref x0, .int p0, .ref ou] [.ref am0, .int p0] X M f) ∧
  (∀ (p0 p1 : Int32), ∀ f : Nat → Int64, zSt l D cA cL tys am0 ou Inv (fun v => v.toInt64) yL_dimensional (zwsW yL_dimensional cL_dimensional 5 (some .int) [(0, 10, 13, 24), (0, 10, 17, 13), (0, 10, 21, 56)]) (fun mc ms => { frames := 8, cells := mc, slots := ms, locals := 127 }) yX5_dimensional (zws yX5_dimensional cX5_dimensional 3 (some .int)) { frames := 2, cells := 0, slots := 0, locals := 43 } [.ref x0, .int p0, .int p1, .ref ou] [.ref am0, .int p0, .int p1] X M f) ∧
  (∀ (p0 : Int32), zSq l D cA cL tys Inv yX4_count (zws yX4_count cX4_count 2 (some .int)) { frames := 3, cells := 0, slots := 0, locals := 67 } yX5_count (zws yX5_count cX5_count 5 (some .int)) { frames := 1, cells := 0, slots := 0, locals := 24 } [.ref x0, .int p0] [.ref am0, .int p0] X M)

set_option maxHeartbeats 8000000 in
set_option maxRecDepth 100000 in
/-- the law's loop, over any invariant that the steps keep -/
theorem law_loop {p : Program} {l : Launch} {e : Env} {s : State} {m : MethodId} {below : List Frame} {meth : Method} {c : Code} {D : va_G} {A : Nat → Prop} {cA cL : ClassId} {tys : List (ClassId × FieldType)} {b L x0 am0 ou : Nat} {xs : Nat → Int32} {Inv : va_W → va_W → Prop}
    (F : zF p s m #[Value.ref b] c code 7 gtbl RL D zcl ((cA, .int) :: (cL, .long) :: tys) A zG2) (hr : meth.sig.returnType = ret) (hlk : meth.locks = false) (hX : va_X b L xs s s.heap) (hbl : b < s.heap.size) (hbA : ¬ A b) (hA : ∀ q, A q → s.heap.size ≤ q) (hL : L ≤ 2560) (hS9 : zSteps l D cA cL tys x0 am0 ou Inv) :
    ∀ (n j cells slots : Nat) (X M : va_W) (f : Nat → Int64), Inv X M → j ≤ 512 → 513 ≤ j + n → 5 * j ≤ L + 4 → cells + (512 - j) ≤ 1072 → slots + 6 * (512 - j) ≤ 8864 → zW p l e room_1 s m #[Value.ref b] below meth c 7 D zcl A cells slots (lw_Z below #[Value.ref b] s) ((X ++ [(ou, .inl (cL, 1, .inr (.inl f)))]) ++ M) [(0, .ref b), (1, .ref x0), (2, .ref am0), (3, .ref ou), (4, .int (nI (5 * j)))] 23 [] := by
  intro n
  induction n with
  | zero => intro j cells slots X M f hI0 h1 h2; omega
  | succ n ih =>
    intro j cells slots X M f hI0 hj1 hj2 hj3 hj4 hj5
    obtain ⟨⟨fsx, hx9⟩, ⟨fsm, hm9⟩, -⟩ := hS9 X M hI0
    refine z_iload F dL_law_23 rfl ?_
    refine z_aload_n F dL_law_25 rfl ?_
    refine z_slen F hX hbl hbA dL_law_26 ?_
    refine z_iconst (v := 5) F dL_law_27 (by decide) ?_
    refine z_isub F dL_law_28 ?_
    refine z_icmp_gt (tgt := 960) F dL_law_29 (by decide) (fun c29 => ?_) (fun c29 => ?_)
    · refine z_iconst (v := 1) F dL_law_960 (by decide) ?_
      exact fun H locs ls hP hD hS hh => va_forget (fun q hq => hA q.base (hS.2.2 q hq)) (W.widen (by omega) (by omega) (lw_ret F.1 F.2.1 hr hlk dL_law_961))
    · have h29 : 5 * j + 5 ≤ L := Nat.le_of_not_lt (fun q => c29 ((zsub_lt5 (by omega) (by omega)).mpr q))
      refine z_aload_n F dL_law_32 rfl ?_
      refine z_iload F dL_law_33 rfl ?_
      refine z_sld F hX hbl hbA (j := 5 * j) rfl (by omega) (by omega) dL_law_35 ?_
      refine z_bipush (v := 15) F dL_law_36 (by decide) ?_
      refine z_iand F dL_law_38 ?_
      obtain ⟨t15, ht15, e15⟩ := zand15 (xs (5 * j))
      refine z_topi e15 ?_
      rcases (show t15 = 0 ∨ t15 = 1 ∨ t15 = 2 ∨ t15 = 3 ∨ t15 = 4 ∨ t15 = 5 ∨ t15 = 6 ∨ t15 = 7 ∨ t15 = 8 ∨ t15 = 9 ∨ t15 = 10 ∨ t15 = 11 ∨ t15 = 12 ∨ t15 = 13 ∨ t15 = 14 ∨ t15 = 15 by omega) with rfl | rfl | rfl | rfl | rfl | rfl | rfl | rfl | rfl | rfl | rfl | rfl | rfl | rfl | rfl | rfl
      · have hstep := (hS9 X M hI0).2.2.1 (xs (5 * j + 1)) (xs (5 * j + 2)) (xs (5 * j + 3)) (xs (5 * j + 4)) f
        obtain ⟨kd, v9, X9, M9, mc, ms, hk9, hmc, hms, hI9, hW, hB, hT⟩ := hstep
        obtain ⟨fs9, hm8⟩ := (hS9 X9 M9 hI9).2.1
        refine z_tableIn (off := 73) (tgt := 112) F dL_law_39 (by decide) (by decide) rfl (by decide) ?_
        refine z_aload_n F dL_law_112 rfl ?_
        refine z_aload_n F dL_law_113 rfl ?_
        refine z_iload F dL_law_114 rfl ?_
        refine z_iconst (v := 1) F dL_law_116 (by decide) ?_
        refine z_iadd F dL_law_117 ?_
        refine z_topi (y := nI (5 * j + 1)) (nI_add _ 1) ?_
        refine z_sld F hX hbl hbA (j := 5 * j + 1) rfl (by omega) (by omega) dL_law_118 ?_
        refine z_aload_n F dL_law_119 rfl ?_
        refine z_iload F dL_law_120 rfl ?_
        refine z_iconst (v := 2) F dL_law_122 (by decide) ?_
        refine z_iadd F dL_law_123 ?_
        refine z_topi (y := nI (5 * j + 2)) (nI_add _ 2) ?_
        refine z_sld F hX hbl hbA (j := 5 * j + 2) rfl (by omega) (by omega) dL_law_124 ?_
        refine z_aload_n F dL_law_125 rfl ?_
        refine z_iload F dL_law_126 rfl ?_
        refine z_iconst (v := 3) F dL_law_128 (by decide) ?_
        refine z_iadd F dL_law_129 ?_
        refine z_topi (y := nI (5 * j + 3)) (nI_add _ 3) ?_
        refine z_sld F hX hbl hbA (j := 5 * j + 3) rfl (by omega) (by omega) dL_law_130 ?_
        refine z_aload_n F dL_law_131 rfl ?_
        refine z_iload F dL_law_132 rfl ?_
        refine z_iconst (v := 4) F dL_law_134 (by decide) ?_
        refine z_iadd F dL_law_135 ?_
        refine z_topi (y := nI (5 * j + 4)) (nI_add _ 4) ?_
        refine z_sld F hX hbl hbA (j := 5 * j + 4) rfl (by omega) (by omega) dL_law_136 ?_
        refine z_aload_n F dL_law_137 rfl ?_
        refine z_callSWi (w1 := []) (w2 := X ++ [(ou, .inl (cL, 1, .inr (.inl f)))]) (w3 := M) (rest := []) F hW (zcsW F.2.2.2.2.1 kcL_box kmL_65 ktL_box knL hdL_box rfl rfl ⟨(Nat.le_of_ble_eq_true rfl), (Nat.le_of_ble_eq_true rfl)⟩) dL_law_138 rfl rfl rfl (Nat.le_of_ble_eq_true rfl) ⟨(by omega : cells + mc ≤ 1072), (by omega : slots + ms ≤ 8864)⟩ ?_
        rintro r w2 ⟨er, g, hg, ew⟩
        rw [er, ew, List.nil_append]
        refine z_istore F dL_law_141 (by decide) ?_
        refine z_aload_n F dL_law_143 rfl ?_
        refine z_aload_n F dL_law_144 rfl ?_
        refine z_iload F dL_law_145 rfl ?_
        refine z_iconst (v := 1) F dL_law_147 (by decide) ?_
        refine z_iadd F dL_law_148 ?_
        refine z_topi (y := nI (5 * j + 1)) (nI_add _ 1) ?_
        refine z_sld F hX hbl hbA (j := 5 * j + 1) rfl (by omega) (by omega) dL_law_149 ?_
        refine z_aload_n F dL_law_150 rfl ?_
        refine z_iload F dL_law_151 rfl ?_
        refine z_iconst (v := 2) F dL_law_153 (by decide) ?_
        refine z_iadd F dL_law_154 ?_
        refine z_topi (y := nI (5 * j + 2)) (nI_add _ 2) ?_
        refine z_sld F hX hbl hbA (j := 5 * j + 2) rfl (by omega) (by omega) dL_law_155 ?_
        refine z_aload_n F dL_law_156 rfl ?_
        refine z_iload F dL_law_157 rfl ?_
        refine z_iconst (v := 3) F dL_law_159 (by decide) ?_
        refine z_iadd F dL_law_160 ?_
        refine z_topi (y := nI (5 * j + 3)) (nI_add _ 3) ?_
        refine z_sld F hX hbl hbA (j := 5 * j + 3) rfl (by omega) (by omega) dL_law_161 ?_
        refine z_aload_n F dL_law_162 rfl ?_
        refine z_iload F dL_law_163 rfl ?_
        refine z_iconst (v := 4) F dL_law_165 (by decide) ?_
        refine z_iadd F dL_law_166 ?_
        refine z_topi (y := nI (5 * j + 4)) (nI_add _ 4) ?_
        refine z_sld F hX hbl hbA (j := 5 * j + 4) rfl (by omega) (by omega) dL_law_167 ?_
        refine z_callVi (w1 := X9 ++ [(ou, .inl (cL, 1, .inr (.inl g)))]) (w2 := M) (w3 := []) F (zwk_Mi hB) 0 hm9 rfl (zcwV F.2.2.2.2.1 kcX5_box kmL_70 kiX5_box ksX5_box knX5 hdX5_box rfl rfl ⟨(Nat.le_of_ble_eq_true rfl), (Nat.le_of_ble_eq_true rfl)⟩) dL_law_168 (by simp) rfl rfl (Nat.le_of_ble_eq_true rfl) ⟨(by omega : cells + mc + 0 ≤ 1072), (by omega : slots + ms + 0 ≤ 8864)⟩ ?_
        rintro r1 w2 ⟨hr1, ew1⟩
        rw [ew1, List.append_nil]
        refine z_istore F dL_law_171 (by decide) ?_
        refine z_aload_n F dL_law_173 rfl ?_
        refine z_callVi (w1 := X9 ++ [(ou, .inl (cL, 1, .inr (.inl g)))]) (w2 := M9) (w3 := []) F (zwk_Mi hT) 0 hm8 rfl (zcwV F.2.2.2.2.1 kcX5_thrown kmL_71 kiX5_thrown ksX5_thrown knX5 hdX5_thrown rfl rfl ⟨(Nat.le_of_ble_eq_true rfl), (Nat.le_of_ble_eq_true rfl)⟩) dL_law_174 (by simp) rfl rfl (Nat.le_of_ble_eq_true rfl) ⟨(by omega : cells + mc + 0 + 0 ≤ 1072), (by omega : slots + ms + 0 + 0 ≤ 8864)⟩ ?_
        rintro r2 w2 ⟨er2, ew2⟩
        rw [er2, ew2, List.append_nil]
        refine z_iload F dL_law_177 rfl ?_
        refine z_icmp_eq (tgt := 184) F dL_law_179 (by decide) (fun c179 => ?_) (fun c179 => ?_)
        · refine z_iload F dL_law_184 rfl ?_
          refine z_if_ne (tgt := 201) F dL_law_186 (by decide) (fun c186 => ?_) (fun c186 => ?_)
          · refine z_goto (tgt := 954) F dL_law_201 (by decide) ?_
            refine z_iinc (v := nI (5 * (j + 1))) F dL_law_954 rfl (nI_add _ 5) (by decide) ?_
            refine z_goto (tgt := 23) F dL_law_957 (by decide) ?_
            exact z_lv rfl (ih (j + 1) (cells + mc + 0 + 0) (slots + ms + 0 + 0) X9 M9 g hI9 (by omega) (by omega) (by omega) (by omega) (by omega))
          · have k0 : kd = 0 := (zb_eq0 (by omega)).mp c186
            refine z_aload_n F dL_law_189 rfl ?_
            refine z_iconst (v := 0) F dL_law_190 (by decide) ?_
            refine z_lald F X9.length 1 (j := 0) dL_law_191 zout_get2 rfl rfl (by decide) (by decide) ?_
            refine z_iload F dL_law_192 rfl ?_
            refine z_i2l F dL_law_194 ?_
            refine z_lcmp F dL_law_195 ?_
            refine z_if_eq (tgt := 201) F dL_law_196 (by decide) (fun c196 => ?_) (fun c196 => ?_)
            · refine z_goto (tgt := 954) F dL_law_201 (by decide) ?_
              refine z_iinc (v := nI (5 * (j + 1))) F dL_law_954 rfl (nI_add _ 5) (by decide) ?_
              refine z_goto (tgt := 23) F dL_law_957 (by decide) ?_
              exact z_lv rfl (ih (j + 1) (cells + mc + 0 + 0) (slots + ms + 0 + 0) X9 M9 g hI9 (by omega) (by omega) (by omega) (by omega) (by omega))
            · exact absurd (by rw [hg k0, ← hr1 k0]; exact zlcmp _) c196
        · exact absurd rfl c179
      · have hstep := (hS9 X M hI0).2.2.2.1 (xs (5 * j + 1)) (xs (5 * j + 2)) (xs (5 * j + 3)) f
        obtain ⟨kd, v9, X9, M9, mc, ms, hk9, hmc, hms, hI9, hW, hB, hT⟩ := hstep
        obtain ⟨fs9, hm8⟩ := (hS9 X9 M9 hI9).2.1
        refine z_tableIn (off := 165) (tgt := 204) F dL_law_39 (by decide) (by decide) rfl (by decide) ?_
        refine z_aload_n F dL_law_204 rfl ?_
        refine z_aload_n F dL_law_205 rfl ?_
        refine z_iload F dL_law_206 rfl ?_
        refine z_iconst (v := 1) F dL_law_208 (by decide) ?_
        refine z_iadd F dL_law_209 ?_
        refine z_topi (y := nI (5 * j + 1)) (nI_add _ 1) ?_
        refine z_sld F hX hbl hbA (j := 5 * j + 1) rfl (by omega) (by omega) dL_law_210 ?_
        refine z_aload_n F dL_law_211 rfl ?_
        refine z_iload F dL_law_212 rfl ?_
        refine z_iconst (v := 2) F dL_law_214 (by decide) ?_
        refine z_iadd F dL_law_215 ?_
        refine z_topi (y := nI (5 * j + 2)) (nI_add _ 2) ?_
        refine z_sld F hX hbl hbA (j := 5 * j + 2) rfl (by omega) (by omega) dL_law_216 ?_
        refine z_aload_n F dL_law_217 rfl ?_
        refine z_iload F dL_law_218 rfl ?_
        refine z_iconst (v := 3) F dL_law_220 (by decide) ?_
        refine z_iadd F dL_law_221 ?_
        refine z_topi (y := nI (5 * j + 3)) (nI_add _ 3) ?_
        refine z_sld F hX hbl hbA (j := 5 * j + 3) rfl (by omega) (by omega) dL_law_222 ?_
        refine z_aload_n F dL_law_223 rfl ?_
        refine z_callSWi (w1 := []) (w2 := X ++ [(ou, .inl (cL, 1, .inr (.inl f)))]) (w3 := M) (rest := []) F hW (zcsW F.2.2.2.2.1 kcL_unit kmL_75 ktL_unit knL hdL_unit rfl rfl ⟨(Nat.le_of_ble_eq_true rfl), (Nat.le_of_ble_eq_true rfl)⟩) dL_law_224 rfl rfl rfl (Nat.le_of_ble_eq_true rfl) ⟨(by omega : cells + mc ≤ 1072), (by omega : slots + ms ≤ 8864)⟩ ?_
        rintro r w2 ⟨er, g, hg, ew⟩
        rw [er, ew, List.nil_append]
        refine z_istore F dL_law_227 (by decide) ?_
        refine z_aload_n F dL_law_229 rfl ?_
        refine z_aload_n F dL_law_230 rfl ?_
        refine z_iload F dL_law_231 rfl ?_
        refine z_iconst (v := 1) F dL_law_233 (by decide) ?_
        refine z_iadd F dL_law_234 ?_
        refine z_topi (y := nI (5 * j + 1)) (nI_add _ 1) ?_
        refine z_sld F hX hbl hbA (j := 5 * j + 1) rfl (by omega) (by omega) dL_law_235 ?_
        refine z_aload_n F dL_law_236 rfl ?_
        refine z_iload F dL_law_237 rfl ?_
        refine z_iconst (v := 2) F dL_law_239 (by decide) ?_
        refine z_iadd F dL_law_240 ?_
        refine z_topi (y := nI (5 * j + 2)) (nI_add _ 2) ?_
        refine z_sld F hX hbl hbA (j := 5 * j + 2) rfl (by omega) (by omega) dL_law_241 ?_
        refine z_aload_n F dL_law_242 rfl ?_
        refine z_iload F dL_law_243 rfl ?_
        refine z_iconst (v := 3) F dL_law_245 (by decide) ?_
        refine z_iadd F dL_law_246 ?_
        refine z_topi (y := nI (5 * j + 3)) (nI_add _ 3) ?_
        refine z_sld F hX hbl hbA (j := 5 * j + 3) rfl (by omega) (by omega) dL_law_247 ?_
        refine z_callVi (w1 := X9 ++ [(ou, .inl (cL, 1, .inr (.inl g)))]) (w2 := M) (w3 := []) F (zwk_Mi hB) 0 hm9 rfl (zcwV F.2.2.2.2.1 kcX5_unit kmL_78 kiX5_unit ksX5_unit knX5 hdX5_unit rfl rfl ⟨(Nat.le_of_ble_eq_true rfl), (Nat.le_of_ble_eq_true rfl)⟩) dL_law_248 (by simp) rfl rfl (Nat.le_of_ble_eq_true rfl) ⟨(by omega : cells + mc + 0 ≤ 1072), (by omega : slots + ms + 0 ≤ 8864)⟩ ?_
        rintro r1 w2 ⟨hr1, ew1⟩
        rw [ew1, List.append_nil]
        refine z_istore F dL_law_251 (by decide) ?_
        refine z_aload_n F dL_law_253 rfl ?_
        refine z_callVi (w1 := X9 ++ [(ou, .inl (cL, 1, .inr (.inl g)))]) (w2 := M9) (w3 := []) F (zwk_Mi hT) 0 hm8 rfl (zcwV F.2.2.2.2.1 kcX5_thrown kmL_71 kiX5_thrown ksX5_thrown knX5 hdX5_thrown rfl rfl ⟨(Nat.le_of_ble_eq_true rfl), (Nat.le_of_ble_eq_true rfl)⟩) dL_law_254 (by simp) rfl rfl (Nat.le_of_ble_eq_true rfl) ⟨(by omega : cells + mc + 0 + 0 ≤ 1072), (by omega : slots + ms + 0 + 0 ≤ 8864)⟩ ?_
        rintro r2 w2 ⟨er2, ew2⟩
        rw [er2, ew2, List.append_nil]
        refine z_iload F dL_law_257 rfl ?_
        refine z_icmp_eq (tgt := 264) F dL_law_259 (by decide) (fun c259 => ?_) (fun c259 => ?_)
        · refine z_iload F dL_law_264 rfl ?_
          refine z_if_ne (tgt := 281) F dL_law_266 (by decide) (fun c266 => ?_) (fun c266 => ?_)
          · refine z_goto (tgt := 954) F dL_law_281 (by decide) ?_
            refine z_iinc (v := nI (5 * (j + 1))) F dL_law_954 rfl (nI_add _ 5) (by decide) ?_
            refine z_goto (tgt := 23) F dL_law_957 (by decide) ?_
            exact z_lv rfl (ih (j + 1) (cells + mc + 0 + 0) (slots + ms + 0 + 0) X9 M9 g hI9 (by omega) (by omega) (by omega) (by omega) (by omega))
          · have k0 : kd = 0 := (zb_eq0 (by omega)).mp c266
            refine z_aload_n F dL_law_269 rfl ?_
            refine z_iconst (v := 0) F dL_law_270 (by decide) ?_
            refine z_lald F X9.length 1 (j := 0) dL_law_271 zout_get2 rfl rfl (by decide) (by decide) ?_
            refine z_iload F dL_law_272 rfl ?_
            refine z_i2l F dL_law_274 ?_
            refine z_lcmp F dL_law_275 ?_
            refine z_if_eq (tgt := 281) F dL_law_276 (by decide) (fun c276 => ?_) (fun c276 => ?_)
            · refine z_goto (tgt := 954) F dL_law_281 (by decide) ?_
              refine z_iinc (v := nI (5 * (j + 1))) F dL_law_954 rfl (nI_add _ 5) (by decide) ?_
              refine z_goto (tgt := 23) F dL_law_957 (by decide) ?_
              exact z_lv rfl (ih (j + 1) (cells + mc + 0 + 0) (slots + ms + 0 + 0) X9 M9 g hI9 (by omega) (by omega) (by omega) (by omega) (by omega))
            · exact absurd (by rw [hg k0, ← hr1 k0]; exact zlcmp _) c276
        · exact absurd rfl c259
      · have hstep := (hS9 X M hI0).2.2.2.2.1 (xs (5 * j + 1)) (xs (5 * j + 2)) (xs (5 * j + 3)) f
        obtain ⟨kd, v9, X9, M9, mc, ms, hk9, hmc, hms, hI9, hW, hB, hT⟩ := hstep
        obtain ⟨fs9, hm8⟩ := (hS9 X9 M9 hI9).2.1
        refine z_tableIn (off := 245) (tgt := 284) F dL_law_39 (by decide) (by decide) rfl (by decide) ?_
        refine z_aload_n F dL_law_284 rfl ?_
        refine z_aload_n F dL_law_285 rfl ?_
        refine z_iload F dL_law_286 rfl ?_
        refine z_iconst (v := 1) F dL_law_288 (by decide) ?_
        refine z_iadd F dL_law_289 ?_
        refine z_topi (y := nI (5 * j + 1)) (nI_add _ 1) ?_
        refine z_sld F hX hbl hbA (j := 5 * j + 1) rfl (by omega) (by omega) dL_law_290 ?_
        refine z_aload_n F dL_law_291 rfl ?_
        refine z_iload F dL_law_292 rfl ?_
        refine z_iconst (v := 2) F dL_law_294 (by decide) ?_
        refine z_iadd F dL_law_295 ?_
        refine z_topi (y := nI (5 * j + 2)) (nI_add _ 2) ?_
        refine z_sld F hX hbl hbA (j := 5 * j + 2) rfl (by omega) (by omega) dL_law_296 ?_
        refine z_aload_n F dL_law_297 rfl ?_
        refine z_iload F dL_law_298 rfl ?_
        refine z_iconst (v := 3) F dL_law_300 (by decide) ?_
        refine z_iadd F dL_law_301 ?_
        refine z_topi (y := nI (5 * j + 3)) (nI_add _ 3) ?_
        refine z_sld F hX hbl hbA (j := 5 * j + 3) rfl (by omega) (by omega) dL_law_302 ?_
        refine z_aload_n F dL_law_303 rfl ?_
        refine z_callSWi (w1 := []) (w2 := X ++ [(ou, .inl (cL, 1, .inr (.inl f)))]) (w3 := M) (rest := []) F hW (zcsW F.2.2.2.2.1 kcL_group kmL_79 ktL_group knL hdL_group rfl rfl ⟨(Nat.le_of_ble_eq_true rfl), (Nat.le_of_ble_eq_true rfl)⟩) dL_law_304 rfl rfl rfl (Nat.le_of_ble_eq_true rfl) ⟨(by omega : cells + mc ≤ 1072), (by omega : slots + ms ≤ 8864)⟩ ?_
        rintro r w2 ⟨er, g, hg, ew⟩
        rw [er, ew, List.nil_append]
        refine z_istore F dL_law_307 (by decide) ?_
        refine z_aload_n F dL_law_309 rfl ?_
        refine z_aload_n F dL_law_310 rfl ?_
        refine z_iload F dL_law_311 rfl ?_
        refine z_iconst (v := 1) F dL_law_313 (by decide) ?_
        refine z_iadd F dL_law_314 ?_
        refine z_topi (y := nI (5 * j + 1)) (nI_add _ 1) ?_
        refine z_sld F hX hbl hbA (j := 5 * j + 1) rfl (by omega) (by omega) dL_law_315 ?_
        refine z_aload_n F dL_law_316 rfl ?_
        refine z_iload F dL_law_317 rfl ?_
        refine z_iconst (v := 2) F dL_law_319 (by decide) ?_
        refine z_iadd F dL_law_320 ?_
        refine z_topi (y := nI (5 * j + 2)) (nI_add _ 2) ?_
        refine z_sld F hX hbl hbA (j := 5 * j + 2) rfl (by omega) (by omega) dL_law_321 ?_
        refine z_aload_n F dL_law_322 rfl ?_
        refine z_iload F dL_law_323 rfl ?_
        refine z_iconst (v := 3) F dL_law_325 (by decide) ?_
        refine z_iadd F dL_law_326 ?_
        refine z_topi (y := nI (5 * j + 3)) (nI_add _ 3) ?_
        refine z_sld F hX hbl hbA (j := 5 * j + 3) rfl (by omega) (by omega) dL_law_327 ?_
        refine z_callVi (w1 := X9 ++ [(ou, .inl (cL, 1, .inr (.inl g)))]) (w2 := M) (w3 := []) F (zwk_Mi hB) 0 hm9 rfl (zcwV F.2.2.2.2.1 kcX5_group kmL_81 kiX5_group ksX5_group knX5 hdX5_group rfl rfl ⟨(Nat.le_of_ble_eq_true rfl), (Nat.le_of_ble_eq_true rfl)⟩) dL_law_328 (by simp) rfl rfl (Nat.le_of_ble_eq_true rfl) ⟨(by omega : cells + mc + 0 ≤ 1072), (by omega : slots + ms + 0 ≤ 8864)⟩ ?_
        rintro r1 w2 ⟨hr1, ew1⟩
        rw [ew1, List.append_nil]
        refine z_istore F dL_law_331 (by decide) ?_
        refine z_aload_n F dL_law_333 rfl ?_
        refine z_callVi (w1 := X9 ++ [(ou, .inl (cL, 1, .inr (.inl g)))]) (w2 := M9) (w3 := []) F (zwk_Mi hT) 0 hm8 rfl (zcwV F.2.2.2.2.1 kcX5_thrown kmL_71 kiX5_thrown ksX5_thrown knX5 hdX5_thrown rfl rfl ⟨(Nat.le_of_ble_eq_true rfl), (Nat.le_of_ble_eq_true rfl)⟩) dL_law_334 (by simp) rfl rfl (Nat.le_of_ble_eq_true rfl) ⟨(by omega : cells + mc + 0 + 0 ≤ 1072), (by omega : slots + ms + 0 + 0 ≤ 8864)⟩ ?_
        rintro r2 w2 ⟨er2, ew2⟩
        rw [er2, ew2, List.append_nil]
        refine z_iload F dL_law_337 rfl ?_
        refine z_icmp_eq (tgt := 344) F dL_law_339 (by decide) (fun c339 => ?_) (fun c339 => ?_)
        · refine z_iload F dL_law_344 rfl ?_
          refine z_if_ne (tgt := 361) F dL_law_346 (by decide) (fun c346 => ?_) (fun c346 => ?_)
          · refine z_goto (tgt := 954) F dL_law_361 (by decide) ?_
            refine z_iinc (v := nI (5 * (j + 1))) F dL_law_954 rfl (nI_add _ 5) (by decide) ?_
            refine z_goto (tgt := 23) F dL_law_957 (by decide) ?_
            exact z_lv rfl (ih (j + 1) (cells + mc + 0 + 0) (slots + ms + 0 + 0) X9 M9 g hI9 (by omega) (by omega) (by omega) (by omega) (by omega))
          · have k0 : kd = 0 := (zb_eq0 (by omega)).mp c346
            refine z_aload_n F dL_law_349 rfl ?_
            refine z_iconst (v := 0) F dL_law_350 (by decide) ?_
            refine z_lald F X9.length 1 (j := 0) dL_law_351 zout_get2 rfl rfl (by decide) (by decide) ?_
            refine z_iload F dL_law_352 rfl ?_
            refine z_i2l F dL_law_354 ?_
            refine z_lcmp F dL_law_355 ?_
            refine z_if_eq (tgt := 361) F dL_law_356 (by decide) (fun c356 => ?_) (fun c356 => ?_)
            · refine z_goto (tgt := 954) F dL_law_361 (by decide) ?_
              refine z_iinc (v := nI (5 * (j + 1))) F dL_law_954 rfl (nI_add _ 5) (by decide) ?_
              refine z_goto (tgt := 23) F dL_law_957 (by decide) ?_
              exact z_lv rfl (ih (j + 1) (cells + mc + 0 + 0) (slots + ms + 0 + 0) X9 M9 g hI9 (by omega) (by omega) (by omega) (by omega) (by omega))
            · exact absurd (by rw [hg k0, ← hr1 k0]; exact zlcmp _) c356
        · exact absurd rfl c339
      · have hstep := (hS9 X M hI0).2.2.2.2.2.1 (xs (5 * j + 1)) (xs (5 * j + 2)) f
        obtain ⟨kd, v9, X9, M9, mc, ms, hk9, hmc, hms, hI9, hW, hB, hT⟩ := hstep
        obtain ⟨fs9, hm8⟩ := (hS9 X9 M9 hI9).2.1
        refine z_tableIn (off := 325) (tgt := 364) F dL_law_39 (by decide) (by decide) rfl (by decide) ?_
        refine z_aload_n F dL_law_364 rfl ?_
        refine z_aload_n F dL_law_365 rfl ?_
        refine z_iload F dL_law_366 rfl ?_
        refine z_iconst (v := 1) F dL_law_368 (by decide) ?_
        refine z_iadd F dL_law_369 ?_
        refine z_topi (y := nI (5 * j + 1)) (nI_add _ 1) ?_
        refine z_sld F hX hbl hbA (j := 5 * j + 1) rfl (by omega) (by omega) dL_law_370 ?_
        refine z_aload_n F dL_law_371 rfl ?_
        refine z_iload F dL_law_372 rfl ?_
        refine z_iconst (v := 2) F dL_law_374 (by decide) ?_
        refine z_iadd F dL_law_375 ?_
        refine z_topi (y := nI (5 * j + 2)) (nI_add _ 2) ?_
        refine z_sld F hX hbl hbA (j := 5 * j + 2) rfl (by omega) (by omega) dL_law_376 ?_
        refine z_aload_n F dL_law_377 rfl ?_
        refine z_callSWi (w1 := []) (w2 := X ++ [(ou, .inl (cL, 1, .inr (.inl f)))]) (w3 := M) (rest := []) F hW (zcsW F.2.2.2.2.1 kcL_change kmL_82 ktL_change knL hdL_change rfl rfl ⟨(Nat.le_of_ble_eq_true rfl), (Nat.le_of_ble_eq_true rfl)⟩) dL_law_378 rfl rfl rfl (Nat.le_of_ble_eq_true rfl) ⟨(by omega : cells + mc ≤ 1072), (by omega : slots + ms ≤ 8864)⟩ ?_
        rintro r w2 ⟨er, g, hg, ew⟩
        rw [er, ew, List.nil_append]
        refine z_istore F dL_law_381 (by decide) ?_
        refine z_aload_n F dL_law_383 rfl ?_
        refine z_aload_n F dL_law_384 rfl ?_
        refine z_iload F dL_law_385 rfl ?_
        refine z_iconst (v := 1) F dL_law_387 (by decide) ?_
        refine z_iadd F dL_law_388 ?_
        refine z_topi (y := nI (5 * j + 1)) (nI_add _ 1) ?_
        refine z_sld F hX hbl hbA (j := 5 * j + 1) rfl (by omega) (by omega) dL_law_389 ?_
        refine z_aload_n F dL_law_390 rfl ?_
        refine z_iload F dL_law_391 rfl ?_
        refine z_iconst (v := 2) F dL_law_393 (by decide) ?_
        refine z_iadd F dL_law_394 ?_
        refine z_topi (y := nI (5 * j + 2)) (nI_add _ 2) ?_
        refine z_sld F hX hbl hbA (j := 5 * j + 2) rfl (by omega) (by omega) dL_law_395 ?_
        refine z_callVi (w1 := X9 ++ [(ou, .inl (cL, 1, .inr (.inl g)))]) (w2 := M) (w3 := []) F (zwk_Mi hB) 0 hm9 rfl (zcwV F.2.2.2.2.1 kcX5_change kmL_85 kiX5_change ksX5_change knX5 hdX5_change rfl rfl ⟨(Nat.le_of_ble_eq_true rfl), (Nat.le_of_ble_eq_true rfl)⟩) dL_law_396 (by simp) rfl rfl (Nat.le_of_ble_eq_true rfl) ⟨(by omega : cells + mc + 0 ≤ 1072), (by omega : slots + ms + 0 ≤ 8864)⟩ ?_
        rintro r1 w2 ⟨hr1, ew1⟩
        rw [ew1, List.append_nil]
        refine z_istore F dL_law_399 (by decide) ?_
        refine z_aload_n F dL_law_401 rfl ?_
        refine z_callVi (w1 := X9 ++ [(ou, .inl (cL, 1, .inr (.inl g)))]) (w2 := M9) (w3 := []) F (zwk_Mi hT) 0 hm8 rfl (zcwV F.2.2.2.2.1 kcX5_thrown kmL_71 kiX5_thrown ksX5_thrown knX5 hdX5_thrown rfl rfl ⟨(Nat.le_of_ble_eq_true rfl), (Nat.le_of_ble_eq_true rfl)⟩) dL_law_402 (by simp) rfl rfl (Nat.le_of_ble_eq_true rfl) ⟨(by omega : cells + mc + 0 + 0 ≤ 1072), (by omega : slots + ms + 0 + 0 ≤ 8864)⟩ ?_
        rintro r2 w2 ⟨er2, ew2⟩
        rw [er2, ew2, List.append_nil]
        refine z_iload F dL_law_405 rfl ?_
        refine z_icmp_eq (tgt := 412) F dL_law_407 (by decide) (fun c407 => ?_) (fun c407 => ?_)
        · refine z_iload F dL_law_412 rfl ?_
          refine z_if_ne (tgt := 429) F dL_law_414 (by decide) (fun c414 => ?_) (fun c414 => ?_)
          · refine z_goto (tgt := 954) F dL_law_429 (by decide) ?_
            refine z_iinc (v := nI (5 * (j + 1))) F dL_law_954 rfl (nI_add _ 5) (by decide) ?_
            refine z_goto (tgt := 23) F dL_law_957 (by decide) ?_
            exact z_lv rfl (ih (j + 1) (cells + mc + 0 + 0) (slots + ms + 0 + 0) X9 M9 g hI9 (by omega) (by omega) (by omega) (by omega) (by omega))
          · have k0 : kd = 0 := (zb_eq0 (by omega)).mp c414
            refine z_aload_n F dL_law_417 rfl ?_
            refine z_iconst (v := 0) F dL_law_418 (by decide) ?_
            refine z_lald F X9.length 1 (j := 0) dL_law_419 zout_get2 rfl rfl (by decide) (by decide) ?_
            refine z_iload F dL_law_420 rfl ?_
            refine z_i2l F dL_law_422 ?_
            refine z_lcmp F dL_law_423 ?_
            refine z_if_eq (tgt := 429) F dL_law_424 (by decide) (fun c424 => ?_) (fun c424 => ?_)
            · refine z_goto (tgt := 954) F dL_law_429 (by decide) ?_
              refine z_iinc (v := nI (5 * (j + 1))) F dL_law_954 rfl (nI_add _ 5) (by decide) ?_
              refine z_goto (tgt := 23) F dL_law_957 (by decide) ?_
              exact z_lv rfl (ih (j + 1) (cells + mc + 0 + 0) (slots + ms + 0 + 0) X9 M9 g hI9 (by omega) (by omega) (by omega) (by omega) (by omega))
            · exact absurd (by rw [hg k0, ← hr1 k0]; exact zlcmp _) c424
        · exact absurd rfl c407
      · have hstep := (hS9 X M hI0).2.2.2.2.2.2.1 (xs (5 * j + 1))
        obtain ⟨kd, X9, M9, mc, ms, hk9, hmc, hms, hI9, hW, hB, hT⟩ := hstep
        obtain ⟨fs9, hm8⟩ := (hS9 X9 M9 hI9).2.1
        refine z_tableIn (off := 393) (tgt := 432) F dL_law_39 (by decide) (by decide) rfl (by decide) ?_
        refine z_aload_n F dL_law_432 rfl ?_
        refine z_aload_n F dL_law_433 rfl ?_
        refine z_iload F dL_law_434 rfl ?_
        refine z_iconst (v := 1) F dL_law_436 (by decide) ?_
        refine z_iadd F dL_law_437 ?_
        refine z_topi (y := nI (5 * j + 1)) (nI_add _ 1) ?_
        refine z_sld F hX hbl hbA (j := 5 * j + 1) rfl (by omega) (by omega) dL_law_438 ?_
        refine z_callSWi (w1 := []) (w2 := X) (w3 := [(ou, .inl (cL, 1, .inr (.inl f)))] ++ M) (rest := []) F hW (zcsW F.2.2.2.2.1 kcL_slack kmL_86 ktL_slack knL hdL_slack rfl rfl ⟨(Nat.le_of_ble_eq_true rfl), (Nat.le_of_ble_eq_true rfl)⟩) dL_law_439 (by simp) rfl rfl (Nat.le_of_ble_eq_true rfl) ⟨(by omega : cells + mc ≤ 1072), (by omega : slots + ms ≤ 8864)⟩ ?_
        rintro r w2 ⟨er, ew⟩
        rw [er, ew, List.nil_append, ← List.append_assoc]
        refine z_istore F dL_law_442 (by decide) ?_
        refine z_aload_n F dL_law_444 rfl ?_
        refine z_aload_n F dL_law_445 rfl ?_
        refine z_iload F dL_law_446 rfl ?_
        refine z_iconst (v := 1) F dL_law_448 (by decide) ?_
        refine z_iadd F dL_law_449 ?_
        refine z_topi (y := nI (5 * j + 1)) (nI_add _ 1) ?_
        refine z_sld F hX hbl hbA (j := 5 * j + 1) rfl (by omega) (by omega) dL_law_450 ?_
        refine z_callVv (w1 := X9 ++ [(ou, .inl (cL, 1, .inr (.inl f)))]) (w2 := M) (w3 := []) F (zwk_Mv hB) 0 hm9 rfl (zcwV F.2.2.2.2.1 kcX5_slack kmL_89 kiX5_slack ksX5_slack knX5 hdX5_slack rfl rfl ⟨(Nat.le_of_ble_eq_true rfl), (Nat.le_of_ble_eq_true rfl)⟩) dL_law_451 (by simp) rfl rfl (Nat.le_of_ble_eq_true rfl) ⟨(by omega : cells + mc + 0 ≤ 1072), (by omega : slots + ms + 0 ≤ 8864)⟩ ?_
        rintro w2 ew1
        rw [ew1, List.append_nil]
        refine z_aload_n F dL_law_454 rfl ?_
        refine z_callVi (w1 := X9 ++ [(ou, .inl (cL, 1, .inr (.inl f)))]) (w2 := M9) (w3 := []) F (zwk_Mi hT) 0 hm8 rfl (zcwV F.2.2.2.2.1 kcX5_thrown kmL_71 kiX5_thrown ksX5_thrown knX5 hdX5_thrown rfl rfl ⟨(Nat.le_of_ble_eq_true rfl), (Nat.le_of_ble_eq_true rfl)⟩) dL_law_455 (by simp) rfl rfl (Nat.le_of_ble_eq_true rfl) ⟨(by omega : cells + mc + 0 + 0 ≤ 1072), (by omega : slots + ms + 0 + 0 ≤ 8864)⟩ ?_
        rintro r2 w2 ⟨er2, ew2⟩
        rw [er2, ew2, List.append_nil]
        refine z_iload F dL_law_458 rfl ?_
        refine z_icmp_eq (tgt := 465) F dL_law_460 (by decide) (fun c460 => ?_) (fun c460 => ?_)
        · refine z_goto (tgt := 954) F dL_law_465 (by decide) ?_
          refine z_iinc (v := nI (5 * (j + 1))) F dL_law_954 rfl (nI_add _ 5) (by decide) ?_
          refine z_goto (tgt := 23) F dL_law_957 (by decide) ?_
          exact z_lv rfl (ih (j + 1) (cells + mc + 0 + 0) (slots + ms + 0 + 0) X9 M9 f hI9 (by omega) (by omega) (by omega) (by omega) (by omega))
        · exact absurd rfl c460
      · have hstep := (hS9 X M hI0).2.2.2.2.2.2.2.1 (xs (5 * j + 1)) f
        obtain ⟨kd, v9, X9, M9, mc, ms, hk9, hmc, hms, hI9, hW, hB, hT⟩ := hstep
        obtain ⟨fs9, hm8⟩ := (hS9 X9 M9 hI9).2.1
        refine z_tableIn (off := 429) (tgt := 468) F dL_law_39 (by decide) (by decide) rfl (by decide) ?_
        refine z_aload_n F dL_law_468 rfl ?_
        refine z_aload_n F dL_law_469 rfl ?_
        refine z_iload F dL_law_470 rfl ?_
        refine z_iconst (v := 1) F dL_law_472 (by decide) ?_
        refine z_iadd F dL_law_473 ?_
        refine z_topi (y := nI (5 * j + 1)) (nI_add _ 1) ?_
        refine z_sld F hX hbl hbA (j := 5 * j + 1) rfl (by omega) (by omega) dL_law_474 ?_
        refine z_aload_n F dL_law_475 rfl ?_
        refine z_callSWi (w1 := []) (w2 := X ++ [(ou, .inl (cL, 1, .inr (.inl f)))]) (w3 := M) (rest := []) F hW (zcsW F.2.2.2.2.1 kcL_choose kmL_90 ktL_choose knL hdL_choose rfl rfl ⟨(Nat.le_of_ble_eq_true rfl), (Nat.le_of_ble_eq_true rfl)⟩) dL_law_476 rfl rfl rfl (Nat.le_of_ble_eq_true rfl) ⟨(by omega : cells + mc ≤ 1072), (by omega : slots + ms ≤ 8864)⟩ ?_
        rintro r w2 ⟨er, g, hg, ew⟩
        rw [er, ew, List.nil_append]
        refine z_istore F dL_law_479 (by decide) ?_
        refine z_aload_n F dL_law_481 rfl ?_
        refine z_aload_n F dL_law_482 rfl ?_
        refine z_iload F dL_law_483 rfl ?_
        refine z_iconst (v := 1) F dL_law_485 (by decide) ?_
        refine z_iadd F dL_law_486 ?_
        refine z_topi (y := nI (5 * j + 1)) (nI_add _ 1) ?_
        refine z_sld F hX hbl hbA (j := 5 * j + 1) rfl (by omega) (by omega) dL_law_487 ?_
        refine z_callVi (w1 := X9 ++ [(ou, .inl (cL, 1, .inr (.inl g)))]) (w2 := M) (w3 := []) F (zwk_Mi hB) 0 hm9 rfl (zcwV F.2.2.2.2.1 kcX5_choose kmL_93 kiX5_choose ksX5_choose knX5 hdX5_choose rfl rfl ⟨(Nat.le_of_ble_eq_true rfl), (Nat.le_of_ble_eq_true rfl)⟩) dL_law_488 (by simp) rfl rfl (Nat.le_of_ble_eq_true rfl) ⟨(by omega : cells + mc + 0 ≤ 1072), (by omega : slots + ms + 0 ≤ 8864)⟩ ?_
        rintro r1 w2 ⟨hr1, ew1⟩
        rw [ew1, List.append_nil]
        refine z_istore F dL_law_491 (by decide) ?_
        refine z_aload_n F dL_law_493 rfl ?_
        refine z_callVi (w1 := X9 ++ [(ou, .inl (cL, 1, .inr (.inl g)))]) (w2 := M9) (w3 := []) F (zwk_Mi hT) 0 hm8 rfl (zcwV F.2.2.2.2.1 kcX5_thrown kmL_71 kiX5_thrown ksX5_thrown knX5 hdX5_thrown rfl rfl ⟨(Nat.le_of_ble_eq_true rfl), (Nat.le_of_ble_eq_true rfl)⟩) dL_law_494 (by simp) rfl rfl (Nat.le_of_ble_eq_true rfl) ⟨(by omega : cells + mc + 0 + 0 ≤ 1072), (by omega : slots + ms + 0 + 0 ≤ 8864)⟩ ?_
        rintro r2 w2 ⟨er2, ew2⟩
        rw [er2, ew2, List.append_nil]
        refine z_iload F dL_law_497 rfl ?_
        refine z_icmp_eq (tgt := 504) F dL_law_499 (by decide) (fun c499 => ?_) (fun c499 => ?_)
        · refine z_iload F dL_law_504 rfl ?_
          refine z_if_ne (tgt := 521) F dL_law_506 (by decide) (fun c506 => ?_) (fun c506 => ?_)
          · refine z_goto (tgt := 954) F dL_law_521 (by decide) ?_
            refine z_iinc (v := nI (5 * (j + 1))) F dL_law_954 rfl (nI_add _ 5) (by decide) ?_
            refine z_goto (tgt := 23) F dL_law_957 (by decide) ?_
            exact z_lv rfl (ih (j + 1) (cells + mc + 0 + 0) (slots + ms + 0 + 0) X9 M9 g hI9 (by omega) (by omega) (by omega) (by omega) (by omega))
          · have k0 : kd = 0 := (zb_eq0 (by omega)).mp c506
            refine z_aload_n F dL_law_509 rfl ?_
            refine z_iconst (v := 0) F dL_law_510 (by decide) ?_
            refine z_lald F X9.length 1 (j := 0) dL_law_511 zout_get2 rfl rfl (by decide) (by decide) ?_
            refine z_iload F dL_law_512 rfl ?_
            refine z_i2l F dL_law_514 ?_
            refine z_lcmp F dL_law_515 ?_
            refine z_if_eq (tgt := 521) F dL_law_516 (by decide) (fun c516 => ?_) (fun c516 => ?_)
            · refine z_goto (tgt := 954) F dL_law_521 (by decide) ?_
              refine z_iinc (v := nI (5 * (j + 1))) F dL_law_954 rfl (nI_add _ 5) (by decide) ?_
              refine z_goto (tgt := 23) F dL_law_957 (by decide) ?_
              exact z_lv rfl (ih (j + 1) (cells + mc + 0 + 0) (slots + ms + 0 + 0) X9 M9 g hI9 (by omega) (by omega) (by omega) (by omega) (by omega))
            · exact absurd (by rw [hg k0, ← hr1 k0]; exact zlcmp _) c516
        · exact absurd rfl c499
      · have hstep := (hS9 X M hI0).2.2.2.2.2.2.2.2.1 
        obtain ⟨v9, X9, M9, hI9, hW, hB⟩ := hstep
        refine z_tableIn (off := 485) (tgt := 524) F dL_law_39 (by decide) (by decide) rfl (by decide) ?_
        refine z_aload_n F dL_law_524 rfl ?_
        refine z_callVi (w1 := []) (w2 := X) (w3 := [(ou, .inl (cL, 1, .inr (.inl f)))] ++ M) F (zwk_Mi hW) 0 hx9 rfl (zcwV F.2.2.2.2.1 kcX4_exact kmL_94 kiX4_exact ksX4_exact knX4 hdX4_exact rfl rfl ⟨(Nat.le_of_ble_eq_true rfl), (Nat.le_of_ble_eq_true rfl)⟩) dL_law_525 (by simp) rfl rfl (Nat.le_of_ble_eq_true rfl) ⟨(by omega : cells + 0 ≤ 1072), (by omega : slots + 0 ≤ 8864)⟩ ?_
        rintro r w2 ⟨er, ew⟩
        rw [er, ew, List.nil_append, ← List.append_assoc]
        refine z_aload_n F dL_law_528 rfl ?_
        refine z_callVi (w1 := X9 ++ [(ou, .inl (cL, 1, .inr (.inl f)))]) (w2 := M) (w3 := []) F (zwk_Mi hB) 0 hm9 rfl (zcwV F.2.2.2.2.1 kcX5_exact kmL_98 kiX5_exact ksX5_exact knX5 hdX5_exact rfl rfl ⟨(Nat.le_of_ble_eq_true rfl), (Nat.le_of_ble_eq_true rfl)⟩) dL_law_529 (by simp) rfl rfl (Nat.le_of_ble_eq_true rfl) ⟨(by omega : cells + 0 + 0 ≤ 1072), (by omega : slots + 0 + 0 ≤ 8864)⟩ ?_
        rintro r w2 ⟨er1, ew1⟩
        rw [er1, ew1, List.append_nil]
        refine z_icmp_eq (tgt := 954) F dL_law_532 (by decide) (fun c532 => ?_) (fun c532 => ?_)
        · refine z_iinc (v := nI (5 * (j + 1))) F dL_law_954 rfl (nI_add _ 5) (by decide) ?_
          refine z_goto (tgt := 23) F dL_law_957 (by decide) ?_
          exact z_lv rfl (ih (j + 1) (cells + 0 + 0) (slots + 0 + 0) X9 M9 f hI9 (by omega) (by omega) (by omega) (by omega) (by omega))
        · exact absurd rfl c532
      · have hstep := (hS9 X M hI0).2.2.2.2.2.2.2.2.2.1 
        obtain ⟨v9, X9, M9, hI9, hW, hB⟩ := hstep
        refine z_tableIn (off := 498) (tgt := 537) F dL_law_39 (by decide) (by decide) rfl (by decide) ?_
        refine z_aload_n F dL_law_537 rfl ?_
        refine z_callVi (w1 := []) (w2 := X) (w3 := [(ou, .inl (cL, 1, .inr (.inl f)))] ++ M) F (zwk_Mi hW) 0 hx9 rfl (zcwV F.2.2.2.2.1 kcX4_boxes kmL_99 kiX4_boxes ksX4_boxes knX4 hdX4_boxes rfl rfl ⟨(Nat.le_of_ble_eq_true rfl), (Nat.le_of_ble_eq_true rfl)⟩) dL_law_538 (by simp) rfl rfl (Nat.le_of_ble_eq_true rfl) ⟨(by omega : cells + 0 ≤ 1072), (by omega : slots + 0 ≤ 8864)⟩ ?_
        rintro r w2 ⟨er, ew⟩
        rw [er, ew, List.nil_append, ← List.append_assoc]
        refine z_aload_n F dL_law_541 rfl ?_
        refine z_callVi (w1 := X9 ++ [(ou, .inl (cL, 1, .inr (.inl f)))]) (w2 := M) (w3 := []) F (zwk_Mi hB) 0 hm9 rfl (zcwV F.2.2.2.2.1 kcX5_boxes kmL_102 kiX5_boxes ksX5_boxes knX5 hdX5_boxes rfl rfl ⟨(Nat.le_of_ble_eq_true rfl), (Nat.le_of_ble_eq_true rfl)⟩) dL_law_542 (by simp) rfl rfl (Nat.le_of_ble_eq_true rfl) ⟨(by omega : cells + 0 + 0 ≤ 1072), (by omega : slots + 0 + 0 ≤ 8864)⟩ ?_
        rintro r w2 ⟨er1, ew1⟩
        rw [er1, ew1, List.append_nil]
        refine z_icmp_eq (tgt := 954) F dL_law_545 (by decide) (fun c545 => ?_) (fun c545 => ?_)
        · refine z_iinc (v := nI (5 * (j + 1))) F dL_law_954 rfl (nI_add _ 5) (by decide) ?_
          refine z_goto (tgt := 23) F dL_law_957 (by decide) ?_
          exact z_lv rfl (ih (j + 1) (cells + 0 + 0) (slots + 0 + 0) X9 M9 f hI9 (by omega) (by omega) (by omega) (by omega) (by omega))
        · exact absurd rfl c545
      · have hstep := (hS9 X M hI0).2.2.2.2.2.2.2.2.2.2.1 (xs (5 * j + 1)) (xs (5 * j + 2)) f
        obtain ⟨kd, v9, X9, M9, mc, ms, hk9, hmc, hms, hI9, hW, hB, hT⟩ := hstep
        obtain ⟨fs9, hm8⟩ := (hS9 X9 M9 hI9).2.1
        refine z_tableIn (off := 511) (tgt := 550) F dL_law_39 (by decide) (by decide) rfl (by decide) ?_
        refine z_aload_n F dL_law_550 rfl ?_
        refine z_aload_n F dL_law_551 rfl ?_
        refine z_iload F dL_law_552 rfl ?_
        refine z_iconst (v := 1) F dL_law_554 (by decide) ?_
        refine z_iadd F dL_law_555 ?_
        refine z_topi (y := nI (5 * j + 1)) (nI_add _ 1) ?_
        refine z_sld F hX hbl hbA (j := 5 * j + 1) rfl (by omega) (by omega) dL_law_556 ?_
        refine z_aload_n F dL_law_557 rfl ?_
        refine z_iload F dL_law_558 rfl ?_
        refine z_iconst (v := 2) F dL_law_560 (by decide) ?_
        refine z_iadd F dL_law_561 ?_
        refine z_topi (y := nI (5 * j + 2)) (nI_add _ 2) ?_
        refine z_sld F hX hbl hbA (j := 5 * j + 2) rfl (by omega) (by omega) dL_law_562 ?_
        refine z_aload_n F dL_law_563 rfl ?_
        refine z_callSWi (w1 := []) (w2 := X ++ [(ou, .inl (cL, 1, .inr (.inl f)))]) (w3 := M) (rest := []) F hW (zcsW F.2.2.2.2.1 kcL_chosen kmL_103 ktL_chosen knL hdL_chosen rfl rfl ⟨(Nat.le_of_ble_eq_true rfl), (Nat.le_of_ble_eq_true rfl)⟩) dL_law_564 rfl rfl rfl (Nat.le_of_ble_eq_true rfl) ⟨(by omega : cells + mc ≤ 1072), (by omega : slots + ms ≤ 8864)⟩ ?_
        rintro r w2 ⟨er, g, hg, ew⟩
        rw [er, ew, List.nil_append]
        refine z_istore F dL_law_567 (by decide) ?_
        refine z_aload_n F dL_law_569 rfl ?_
        refine z_aload_n F dL_law_570 rfl ?_
        refine z_iload F dL_law_571 rfl ?_
        refine z_iconst (v := 1) F dL_law_573 (by decide) ?_
        refine z_iadd F dL_law_574 ?_
        refine z_topi (y := nI (5 * j + 1)) (nI_add _ 1) ?_
        refine z_sld F hX hbl hbA (j := 5 * j + 1) rfl (by omega) (by omega) dL_law_575 ?_
        refine z_aload_n F dL_law_576 rfl ?_
        refine z_iload F dL_law_577 rfl ?_
        refine z_iconst (v := 2) F dL_law_579 (by decide) ?_
        refine z_iadd F dL_law_580 ?_
        refine z_topi (y := nI (5 * j + 2)) (nI_add _ 2) ?_
        refine z_sld F hX hbl hbA (j := 5 * j + 2) rfl (by omega) (by omega) dL_law_581 ?_
        refine z_callVi (w1 := X9 ++ [(ou, .inl (cL, 1, .inr (.inl g)))]) (w2 := M) (w3 := []) F (zwk_Mi hB) 0 hm9 rfl (zcwV F.2.2.2.2.1 kcX5_chosen kmL_105 kiX5_chosen ksX5_chosen knX5 hdX5_chosen rfl rfl ⟨(Nat.le_of_ble_eq_true rfl), (Nat.le_of_ble_eq_true rfl)⟩) dL_law_582 (by simp) rfl rfl (Nat.le_of_ble_eq_true rfl) ⟨(by omega : cells + mc + 0 ≤ 1072), (by omega : slots + ms + 0 ≤ 8864)⟩ ?_
        rintro r1 w2 ⟨hr1, ew1⟩
        rw [ew1, List.append_nil]
        refine z_istore F dL_law_585 (by decide) ?_
        refine z_aload_n F dL_law_587 rfl ?_
        refine z_callVi (w1 := X9 ++ [(ou, .inl (cL, 1, .inr (.inl g)))]) (w2 := M9) (w3 := []) F (zwk_Mi hT) 0 hm8 rfl (zcwV F.2.2.2.2.1 kcX5_thrown kmL_71 kiX5_thrown ksX5_thrown knX5 hdX5_thrown rfl rfl ⟨(Nat.le_of_ble_eq_true rfl), (Nat.le_of_ble_eq_true rfl)⟩) dL_law_588 (by simp) rfl rfl (Nat.le_of_ble_eq_true rfl) ⟨(by omega : cells + mc + 0 + 0 ≤ 1072), (by omega : slots + ms + 0 + 0 ≤ 8864)⟩ ?_
        rintro r2 w2 ⟨er2, ew2⟩
        rw [er2, ew2, List.append_nil]
        refine z_iload F dL_law_591 rfl ?_
        refine z_icmp_eq (tgt := 598) F dL_law_593 (by decide) (fun c593 => ?_) (fun c593 => ?_)
        · refine z_iload F dL_law_598 rfl ?_
          refine z_if_ne (tgt := 615) F dL_law_600 (by decide) (fun c600 => ?_) (fun c600 => ?_)
          · refine z_goto (tgt := 954) F dL_law_615 (by decide) ?_
            refine z_iinc (v := nI (5 * (j + 1))) F dL_law_954 rfl (nI_add _ 5) (by decide) ?_
            refine z_goto (tgt := 23) F dL_law_957 (by decide) ?_
            exact z_lv rfl (ih (j + 1) (cells + mc + 0 + 0) (slots + ms + 0 + 0) X9 M9 g hI9 (by omega) (by omega) (by omega) (by omega) (by omega))
          · have k0 : kd = 0 := (zb_eq0 (by omega)).mp c600
            refine z_aload_n F dL_law_603 rfl ?_
            refine z_iconst (v := 0) F dL_law_604 (by decide) ?_
            refine z_lald F X9.length 1 (j := 0) dL_law_605 zout_get2 rfl rfl (by decide) (by decide) ?_
            refine z_iload F dL_law_606 rfl ?_
            refine z_i2l F dL_law_608 ?_
            refine z_lcmp F dL_law_609 ?_
            refine z_if_eq (tgt := 615) F dL_law_610 (by decide) (fun c610 => ?_) (fun c610 => ?_)
            · refine z_goto (tgt := 954) F dL_law_615 (by decide) ?_
              refine z_iinc (v := nI (5 * (j + 1))) F dL_law_954 rfl (nI_add _ 5) (by decide) ?_
              refine z_goto (tgt := 23) F dL_law_957 (by decide) ?_
              exact z_lv rfl (ih (j + 1) (cells + mc + 0 + 0) (slots + ms + 0 + 0) X9 M9 g hI9 (by omega) (by omega) (by omega) (by omega) (by omega))
            · exact absurd (by rw [hg k0, ← hr1 k0]; exact zlcmp _) c610
        · exact absurd rfl c593
      · have hstep := (hS9 X M hI0).2.2.2.2.2.2.2.2.2.2.2.1 (xs (5 * j + 1)) f
        obtain ⟨kd, v9, X9, M9, mc, ms, hk9, hmc, hms, hI9, hW, hB, hT⟩ := hstep
        obtain ⟨fs9, hm8⟩ := (hS9 X9 M9 hI9).2.1
        refine z_tableIn (off := 579) (tgt := 618) F dL_law_39 (by decide) (by decide) rfl (by decide) ?_
        refine z_aload_n F dL_law_618 rfl ?_
        refine z_aload_n F dL_law_619 rfl ?_
        refine z_iload F dL_law_620 rfl ?_
        refine z_iconst (v := 1) F dL_law_622 (by decide) ?_
        refine z_iadd F dL_law_623 ?_
        refine z_topi (y := nI (5 * j + 1)) (nI_add _ 1) ?_
        refine z_sld F hX hbl hbA (j := 5 * j + 1) rfl (by omega) (by omega) dL_law_624 ?_
        refine z_aload_n F dL_law_625 rfl ?_
        refine z_callSWi (w1 := []) (w2 := X ++ [(ou, .inl (cL, 1, .inr (.inl f)))]) (w3 := M) (rest := []) F hW (zcsW F.2.2.2.2.1 kcL_where kmL_106 ktL_where knL hdL_where rfl rfl ⟨(Nat.le_of_ble_eq_true rfl), (Nat.le_of_ble_eq_true rfl)⟩) dL_law_626 rfl rfl rfl (Nat.le_of_ble_eq_true rfl) ⟨(by omega : cells + mc ≤ 1072), (by omega : slots + ms ≤ 8864)⟩ ?_
        rintro r w2 ⟨er, g, hg, ew⟩
        rw [er, ew, List.nil_append]
        refine z_istore F dL_law_629 (by decide) ?_
        refine z_aload_n F dL_law_631 rfl ?_
        refine z_aload_n F dL_law_632 rfl ?_
        refine z_iload F dL_law_633 rfl ?_
        refine z_iconst (v := 1) F dL_law_635 (by decide) ?_
        refine z_iadd F dL_law_636 ?_
        refine z_topi (y := nI (5 * j + 1)) (nI_add _ 1) ?_
        refine z_sld F hX hbl hbA (j := 5 * j + 1) rfl (by omega) (by omega) dL_law_637 ?_
        refine z_callVi (w1 := X9 ++ [(ou, .inl (cL, 1, .inr (.inl g)))]) (w2 := M) (w3 := []) F (zwk_Mi hB) 0 hm9 rfl (zcwV F.2.2.2.2.1 kcX5_where kmL_108 kiX5_where ksX5_where knX5 hdX5_where rfl rfl ⟨(Nat.le_of_ble_eq_true rfl), (Nat.le_of_ble_eq_true rfl)⟩) dL_law_638 (by simp) rfl rfl (Nat.le_of_ble_eq_true rfl) ⟨(by omega : cells + mc + 0 ≤ 1072), (by omega : slots + ms + 0 ≤ 8864)⟩ ?_
        rintro r1 w2 ⟨hr1, ew1⟩
        rw [ew1, List.append_nil]
        refine z_istore F dL_law_641 (by decide) ?_
        refine z_aload_n F dL_law_643 rfl ?_
        refine z_callVi (w1 := X9 ++ [(ou, .inl (cL, 1, .inr (.inl g)))]) (w2 := M9) (w3 := []) F (zwk_Mi hT) 0 hm8 rfl (zcwV F.2.2.2.2.1 kcX5_thrown kmL_71 kiX5_thrown ksX5_thrown knX5 hdX5_thrown rfl rfl ⟨(Nat.le_of_ble_eq_true rfl), (Nat.le_of_ble_eq_true rfl)⟩) dL_law_644 (by simp) rfl rfl (Nat.le_of_ble_eq_true rfl) ⟨(by omega : cells + mc + 0 + 0 ≤ 1072), (by omega : slots + ms + 0 + 0 ≤ 8864)⟩ ?_
        rintro r2 w2 ⟨er2, ew2⟩
        rw [er2, ew2, List.append_nil]
        refine z_iload F dL_law_647 rfl ?_
        refine z_icmp_eq (tgt := 654) F dL_law_649 (by decide) (fun c649 => ?_) (fun c649 => ?_)
        · refine z_iload F dL_law_654 rfl ?_
          refine z_if_ne (tgt := 671) F dL_law_656 (by decide) (fun c656 => ?_) (fun c656 => ?_)
          · refine z_goto (tgt := 954) F dL_law_671 (by decide) ?_
            refine z_iinc (v := nI (5 * (j + 1))) F dL_law_954 rfl (nI_add _ 5) (by decide) ?_
            refine z_goto (tgt := 23) F dL_law_957 (by decide) ?_
            exact z_lv rfl (ih (j + 1) (cells + mc + 0 + 0) (slots + ms + 0 + 0) X9 M9 g hI9 (by omega) (by omega) (by omega) (by omega) (by omega))
          · have k0 : kd = 0 := (zb_eq0 (by omega)).mp c656
            refine z_aload_n F dL_law_659 rfl ?_
            refine z_iconst (v := 0) F dL_law_660 (by decide) ?_
            refine z_lald F X9.length 1 (j := 0) dL_law_661 zout_get2 rfl rfl (by decide) (by decide) ?_
            refine z_iload F dL_law_662 rfl ?_
            refine z_i2l F dL_law_664 ?_
            refine z_lcmp F dL_law_665 ?_
            refine z_if_eq (tgt := 671) F dL_law_666 (by decide) (fun c666 => ?_) (fun c666 => ?_)
            · refine z_goto (tgt := 954) F dL_law_671 (by decide) ?_
              refine z_iinc (v := nI (5 * (j + 1))) F dL_law_954 rfl (nI_add _ 5) (by decide) ?_
              refine z_goto (tgt := 23) F dL_law_957 (by decide) ?_
              exact z_lv rfl (ih (j + 1) (cells + mc + 0 + 0) (slots + ms + 0 + 0) X9 M9 g hI9 (by omega) (by omega) (by omega) (by omega) (by omega))
            · exact absurd (by rw [hg k0, ← hr1 k0]; exact zlcmp _) c666
        · exact absurd rfl c649
      · have hstep := (hS9 X M hI0).2.2.2.2.2.2.2.2.2.2.2.2.1 (xs (5 * j + 1)) f
        obtain ⟨kd, v9, X9, M9, mc, ms, hk9, hmc, hms, hI9, hW, hB, hT⟩ := hstep
        obtain ⟨fs9, hm8⟩ := (hS9 X9 M9 hI9).2.1
        refine z_tableIn (off := 635) (tgt := 674) F dL_law_39 (by decide) (by decide) rfl (by decide) ?_
        refine z_aload_n F dL_law_674 rfl ?_
        refine z_aload_n F dL_law_675 rfl ?_
        refine z_iload F dL_law_676 rfl ?_
        refine z_iconst (v := 1) F dL_law_678 (by decide) ?_
        refine z_iadd F dL_law_679 ?_
        refine z_topi (y := nI (5 * j + 1)) (nI_add _ 1) ?_
        refine z_sld F hX hbl hbA (j := 5 * j + 1) rfl (by omega) (by omega) dL_law_680 ?_
        refine z_aload_n F dL_law_681 rfl ?_
        refine z_callSWi (w1 := []) (w2 := X ++ [(ou, .inl (cL, 1, .inr (.inl f)))]) (w3 := M) (rest := []) F hW (zcsW F.2.2.2.2.1 kcL_bar kmL_109 ktL_bar knL hdL_bar rfl rfl ⟨(Nat.le_of_ble_eq_true rfl), (Nat.le_of_ble_eq_true rfl)⟩) dL_law_682 rfl rfl rfl (Nat.le_of_ble_eq_true rfl) ⟨(by omega : cells + mc ≤ 1072), (by omega : slots + ms ≤ 8864)⟩ ?_
        rintro r w2 ⟨er, g, hg, ew⟩
        rw [er, ew, List.nil_append]
        refine z_istore F dL_law_685 (by decide) ?_
        refine z_aload_n F dL_law_687 rfl ?_
        refine z_aload_n F dL_law_688 rfl ?_
        refine z_iload F dL_law_689 rfl ?_
        refine z_iconst (v := 1) F dL_law_691 (by decide) ?_
        refine z_iadd F dL_law_692 ?_
        refine z_topi (y := nI (5 * j + 1)) (nI_add _ 1) ?_
        refine z_sld F hX hbl hbA (j := 5 * j + 1) rfl (by omega) (by omega) dL_law_693 ?_
        refine z_callVi (w1 := X9 ++ [(ou, .inl (cL, 1, .inr (.inl g)))]) (w2 := M) (w3 := []) F (zwk_Mi hB) 0 hm9 rfl (zcwV F.2.2.2.2.1 kcX5_bar kmL_111 kiX5_bar ksX5_bar knX5 hdX5_bar rfl rfl ⟨(Nat.le_of_ble_eq_true rfl), (Nat.le_of_ble_eq_true rfl)⟩) dL_law_694 (by simp) rfl rfl (Nat.le_of_ble_eq_true rfl) ⟨(by omega : cells + mc + 0 ≤ 1072), (by omega : slots + ms + 0 ≤ 8864)⟩ ?_
        rintro r1 w2 ⟨hr1, ew1⟩
        rw [ew1, List.append_nil]
        refine z_istore F dL_law_697 (by decide) ?_
        refine z_aload_n F dL_law_699 rfl ?_
        refine z_callVi (w1 := X9 ++ [(ou, .inl (cL, 1, .inr (.inl g)))]) (w2 := M9) (w3 := []) F (zwk_Mi hT) 0 hm8 rfl (zcwV F.2.2.2.2.1 kcX5_thrown kmL_71 kiX5_thrown ksX5_thrown knX5 hdX5_thrown rfl rfl ⟨(Nat.le_of_ble_eq_true rfl), (Nat.le_of_ble_eq_true rfl)⟩) dL_law_700 (by simp) rfl rfl (Nat.le_of_ble_eq_true rfl) ⟨(by omega : cells + mc + 0 + 0 ≤ 1072), (by omega : slots + ms + 0 + 0 ≤ 8864)⟩ ?_
        rintro r2 w2 ⟨er2, ew2⟩
        rw [er2, ew2, List.append_nil]
        refine z_iload F dL_law_703 rfl ?_
        refine z_icmp_eq (tgt := 710) F dL_law_705 (by decide) (fun c705 => ?_) (fun c705 => ?_)
        · refine z_iload F dL_law_710 rfl ?_
          refine z_if_ne (tgt := 727) F dL_law_712 (by decide) (fun c712 => ?_) (fun c712 => ?_)
          · refine z_goto (tgt := 954) F dL_law_727 (by decide) ?_
            refine z_iinc (v := nI (5 * (j + 1))) F dL_law_954 rfl (nI_add _ 5) (by decide) ?_
            refine z_goto (tgt := 23) F dL_law_957 (by decide) ?_
            exact z_lv rfl (ih (j + 1) (cells + mc + 0 + 0) (slots + ms + 0 + 0) X9 M9 g hI9 (by omega) (by omega) (by omega) (by omega) (by omega))
          · have k0 : kd = 0 := (zb_eq0 (by omega)).mp c712
            refine z_aload_n F dL_law_715 rfl ?_
            refine z_iconst (v := 0) F dL_law_716 (by decide) ?_
            refine z_lald F X9.length 1 (j := 0) dL_law_717 zout_get2 rfl rfl (by decide) (by decide) ?_
            refine z_iload F dL_law_718 rfl ?_
            refine z_i2l F dL_law_720 ?_
            refine z_lcmp F dL_law_721 ?_
            refine z_if_eq (tgt := 727) F dL_law_722 (by decide) (fun c722 => ?_) (fun c722 => ?_)
            · refine z_goto (tgt := 954) F dL_law_727 (by decide) ?_
              refine z_iinc (v := nI (5 * (j + 1))) F dL_law_954 rfl (nI_add _ 5) (by decide) ?_
              refine z_goto (tgt := 23) F dL_law_957 (by decide) ?_
              exact z_lv rfl (ih (j + 1) (cells + mc + 0 + 0) (slots + ms + 0 + 0) X9 M9 g hI9 (by omega) (by omega) (by omega) (by omega) (by omega))
            · exact absurd (by rw [hg k0, ← hr1 k0]; exact zlcmp _) c722
        · exact absurd rfl c705
      · have hstep := (hS9 X M hI0).2.2.2.2.2.2.2.2.2.2.2.2.2.1 (xs (5 * j + 1)) (xs (5 * j + 2)) f
        obtain ⟨kd, v9, X9, M9, mc, ms, hk9, hmc, hms, hI9, hW, hB, hT⟩ := hstep
        obtain ⟨fs9, hm8⟩ := (hS9 X9 M9 hI9).2.1
        refine z_tableIn (off := 691) (tgt := 730) F dL_law_39 (by decide) (by decide) rfl (by decide) ?_
        refine z_aload_n F dL_law_730 rfl ?_
        refine z_aload_n F dL_law_731 rfl ?_
        refine z_iload F dL_law_732 rfl ?_
        refine z_iconst (v := 1) F dL_law_734 (by decide) ?_
        refine z_iadd F dL_law_735 ?_
        refine z_topi (y := nI (5 * j + 1)) (nI_add _ 1) ?_
        refine z_sld F hX hbl hbA (j := 5 * j + 1) rfl (by omega) (by omega) dL_law_736 ?_
        refine z_aload_n F dL_law_737 rfl ?_
        refine z_iload F dL_law_738 rfl ?_
        refine z_iconst (v := 2) F dL_law_740 (by decide) ?_
        refine z_iadd F dL_law_741 ?_
        refine z_topi (y := nI (5 * j + 2)) (nI_add _ 2) ?_
        refine z_sld F hX hbl hbA (j := 5 * j + 2) rfl (by omega) (by omega) dL_law_742 ?_
        refine z_aload_n F dL_law_743 rfl ?_
        refine z_callSWi (w1 := []) (w2 := X ++ [(ou, .inl (cL, 1, .inr (.inl f)))]) (w3 := M) (rest := []) F hW (zcsW F.2.2.2.2.1 kcL_fits kmL_112 ktL_fits knL hdL_fits rfl rfl ⟨(Nat.le_of_ble_eq_true rfl), (Nat.le_of_ble_eq_true rfl)⟩) dL_law_744 rfl rfl rfl (Nat.le_of_ble_eq_true rfl) ⟨(by omega : cells + mc ≤ 1072), (by omega : slots + ms ≤ 8864)⟩ ?_
        rintro r w2 ⟨er, g, hg, ew⟩
        rw [er, ew, List.nil_append]
        refine z_istore F dL_law_747 (by decide) ?_
        refine z_aload_n F dL_law_749 rfl ?_
        refine z_aload_n F dL_law_750 rfl ?_
        refine z_iload F dL_law_751 rfl ?_
        refine z_iconst (v := 1) F dL_law_753 (by decide) ?_
        refine z_iadd F dL_law_754 ?_
        refine z_topi (y := nI (5 * j + 1)) (nI_add _ 1) ?_
        refine z_sld F hX hbl hbA (j := 5 * j + 1) rfl (by omega) (by omega) dL_law_755 ?_
        refine z_aload_n F dL_law_756 rfl ?_
        refine z_iload F dL_law_757 rfl ?_
        refine z_iconst (v := 2) F dL_law_759 (by decide) ?_
        refine z_iadd F dL_law_760 ?_
        refine z_topi (y := nI (5 * j + 2)) (nI_add _ 2) ?_
        refine z_sld F hX hbl hbA (j := 5 * j + 2) rfl (by omega) (by omega) dL_law_761 ?_
        refine z_callVi (w1 := X9 ++ [(ou, .inl (cL, 1, .inr (.inl g)))]) (w2 := M) (w3 := []) F (zwk_Mi hB) 0 hm9 rfl (zcwV F.2.2.2.2.1 kcX5_fits kmL_114 kiX5_fits ksX5_fits knX5 hdX5_fits rfl rfl ⟨(Nat.le_of_ble_eq_true rfl), (Nat.le_of_ble_eq_true rfl)⟩) dL_law_762 (by simp) rfl rfl (Nat.le_of_ble_eq_true rfl) ⟨(by omega : cells + mc + 0 ≤ 1072), (by omega : slots + ms + 0 ≤ 8864)⟩ ?_
        rintro r1 w2 ⟨hr1, ew1⟩
        rw [ew1, List.append_nil]
        refine z_istore F dL_law_765 (by decide) ?_
        refine z_aload_n F dL_law_767 rfl ?_
        refine z_callVi (w1 := X9 ++ [(ou, .inl (cL, 1, .inr (.inl g)))]) (w2 := M9) (w3 := []) F (zwk_Mi hT) 0 hm8 rfl (zcwV F.2.2.2.2.1 kcX5_thrown kmL_71 kiX5_thrown ksX5_thrown knX5 hdX5_thrown rfl rfl ⟨(Nat.le_of_ble_eq_true rfl), (Nat.le_of_ble_eq_true rfl)⟩) dL_law_768 (by simp) rfl rfl (Nat.le_of_ble_eq_true rfl) ⟨(by omega : cells + mc + 0 + 0 ≤ 1072), (by omega : slots + ms + 0 + 0 ≤ 8864)⟩ ?_
        rintro r2 w2 ⟨er2, ew2⟩
        rw [er2, ew2, List.append_nil]
        refine z_iload F dL_law_771 rfl ?_
        refine z_icmp_eq (tgt := 778) F dL_law_773 (by decide) (fun c773 => ?_) (fun c773 => ?_)
        · refine z_iload F dL_law_778 rfl ?_
          refine z_if_ne (tgt := 802) F dL_law_780 (by decide) (fun c780 => ?_) (fun c780 => ?_)
          · refine z_goto (tgt := 954) F dL_law_802 (by decide) ?_
            refine z_iinc (v := nI (5 * (j + 1))) F dL_law_954 rfl (nI_add _ 5) (by decide) ?_
            refine z_goto (tgt := 23) F dL_law_957 (by decide) ?_
            exact z_lv rfl (ih (j + 1) (cells + mc + 0 + 0) (slots + ms + 0 + 0) X9 M9 g hI9 (by omega) (by omega) (by omega) (by omega) (by omega))
          · have k0 : kd = 0 := (zb_eq0 (by omega)).mp c780
            refine z_aload_n F dL_law_783 rfl ?_
            refine z_iconst (v := 0) F dL_law_784 (by decide) ?_
            refine z_lald F X9.length 1 (j := 0) dL_law_785 zout_get2 rfl rfl (by decide) (by decide) ?_
            refine z_iload F dL_law_786 rfl ?_
            refine z_if_eq (tgt := 795) F dL_law_788 (by decide) (fun c788 => ?_) (fun c788 => ?_)
            · refine z_lconst (v := 0) F dL_law_795 (by decide) ?_
              refine z_lcmp F dL_law_796 ?_
              refine z_if_eq (tgt := 802) F dL_law_797 (by decide) (fun c797 => ?_) (fun c797 => ?_)
              · refine z_goto (tgt := 954) F dL_law_802 (by decide) ?_
                refine z_iinc (v := nI (5 * (j + 1))) F dL_law_954 rfl (nI_add _ 5) (by decide) ?_
                refine z_goto (tgt := 23) F dL_law_957 (by decide) ?_
                exact z_lv rfl (ih (j + 1) (cells + mc + 0 + 0) (slots + ms + 0 + 0) X9 M9 g hI9 (by omega) (by omega) (by omega) (by omega) (by omega))
              · exact absurd (by rw [hg k0, ← hr1 k0, show zl01 r1 = 0 from if_pos c788]; exact zlcmp _) c797
            · refine z_lconst (v := 1) F dL_law_791 (by decide) ?_
              refine z_goto (tgt := 796) F dL_law_792 (by decide) ?_
              refine z_lcmp F dL_law_796 ?_
              refine z_if_eq (tgt := 802) F dL_law_797 (by decide) (fun c797 => ?_) (fun c797 => ?_)
              · refine z_goto (tgt := 954) F dL_law_802 (by decide) ?_
                refine z_iinc (v := nI (5 * (j + 1))) F dL_law_954 rfl (nI_add _ 5) (by decide) ?_
                refine z_goto (tgt := 23) F dL_law_957 (by decide) ?_
                exact z_lv rfl (ih (j + 1) (cells + mc + 0 + 0) (slots + ms + 0 + 0) X9 M9 g hI9 (by omega) (by omega) (by omega) (by omega) (by omega))
              · exact absurd (by rw [hg k0, ← hr1 k0, show zl01 r1 = 1 from if_neg c788]; exact zlcmp _) c797
        · exact absurd rfl c773
      · have hstep := (hS9 X M hI0).2.2.2.2.2.2.2.2.2.2.2.2.2.2.1 (xs (5 * j + 1)) f
        obtain ⟨kd, v9, X9, M9, mc, ms, hk9, hmc, hms, hI9, hW, hB, hT⟩ := hstep
        obtain ⟨fs9, hm8⟩ := (hS9 X9 M9 hI9).2.1
        refine z_tableIn (off := 766) (tgt := 805) F dL_law_39 (by decide) (by decide) rfl (by decide) ?_
        refine z_aload_n F dL_law_805 rfl ?_
        refine z_aload_n F dL_law_806 rfl ?_
        refine z_iload F dL_law_807 rfl ?_
        refine z_iconst (v := 1) F dL_law_809 (by decide) ?_
        refine z_iadd F dL_law_810 ?_
        refine z_topi (y := nI (5 * j + 1)) (nI_add _ 1) ?_
        refine z_sld F hX hbl hbA (j := 5 * j + 1) rfl (by omega) (by omega) dL_law_811 ?_
        refine z_aload_n F dL_law_812 rfl ?_
        refine z_callSWi (w1 := []) (w2 := X ++ [(ou, .inl (cL, 1, .inr (.inl f)))]) (w3 := M) (rest := []) F hW (zcsW F.2.2.2.2.1 kcL_used kmL_115 ktL_used knL hdL_used rfl rfl ⟨(Nat.le_of_ble_eq_true rfl), (Nat.le_of_ble_eq_true rfl)⟩) dL_law_813 rfl rfl rfl (Nat.le_of_ble_eq_true rfl) ⟨(by omega : cells + mc ≤ 1072), (by omega : slots + ms ≤ 8864)⟩ ?_
        rintro r w2 ⟨er, g, hg, ew⟩
        rw [er, ew, List.nil_append]
        refine z_istore F dL_law_816 (by decide) ?_
        refine z_aload_n F dL_law_818 rfl ?_
        refine z_aload_n F dL_law_819 rfl ?_
        refine z_iload F dL_law_820 rfl ?_
        refine z_iconst (v := 1) F dL_law_822 (by decide) ?_
        refine z_iadd F dL_law_823 ?_
        refine z_topi (y := nI (5 * j + 1)) (nI_add _ 1) ?_
        refine z_sld F hX hbl hbA (j := 5 * j + 1) rfl (by omega) (by omega) dL_law_824 ?_
        refine z_callVi (w1 := X9 ++ [(ou, .inl (cL, 1, .inr (.inl g)))]) (w2 := M) (w3 := []) F (zwk_Mi hB) 0 hm9 rfl (zcwV F.2.2.2.2.1 kcX5_used kmL_117 kiX5_used ksX5_used knX5 hdX5_used rfl rfl ⟨(Nat.le_of_ble_eq_true rfl), (Nat.le_of_ble_eq_true rfl)⟩) dL_law_825 (by simp) rfl rfl (Nat.le_of_ble_eq_true rfl) ⟨(by omega : cells + mc + 0 ≤ 1072), (by omega : slots + ms + 0 ≤ 8864)⟩ ?_
        rintro r1 w2 ⟨hr1, ew1⟩
        rw [ew1, List.append_nil]
        refine z_istore F dL_law_828 (by decide) ?_
        refine z_aload_n F dL_law_830 rfl ?_
        refine z_callVi (w1 := X9 ++ [(ou, .inl (cL, 1, .inr (.inl g)))]) (w2 := M9) (w3 := []) F (zwk_Mi hT) 0 hm8 rfl (zcwV F.2.2.2.2.1 kcX5_thrown kmL_71 kiX5_thrown ksX5_thrown knX5 hdX5_thrown rfl rfl ⟨(Nat.le_of_ble_eq_true rfl), (Nat.le_of_ble_eq_true rfl)⟩) dL_law_831 (by simp) rfl rfl (Nat.le_of_ble_eq_true rfl) ⟨(by omega : cells + mc + 0 + 0 ≤ 1072), (by omega : slots + ms + 0 + 0 ≤ 8864)⟩ ?_
        rintro r2 w2 ⟨er2, ew2⟩
        rw [er2, ew2, List.append_nil]
        refine z_iload F dL_law_834 rfl ?_
        refine z_icmp_eq (tgt := 841) F dL_law_836 (by decide) (fun c836 => ?_) (fun c836 => ?_)
        · refine z_iload F dL_law_841 rfl ?_
          refine z_if_ne (tgt := 858) F dL_law_843 (by decide) (fun c843 => ?_) (fun c843 => ?_)
          · refine z_goto (tgt := 954) F dL_law_858 (by decide) ?_
            refine z_iinc (v := nI (5 * (j + 1))) F dL_law_954 rfl (nI_add _ 5) (by decide) ?_
            refine z_goto (tgt := 23) F dL_law_957 (by decide) ?_
            exact z_lv rfl (ih (j + 1) (cells + mc + 0 + 0) (slots + ms + 0 + 0) X9 M9 g hI9 (by omega) (by omega) (by omega) (by omega) (by omega))
          · have k0 : kd = 0 := (zb_eq0 (by omega)).mp c843
            refine z_aload_n F dL_law_846 rfl ?_
            refine z_iconst (v := 0) F dL_law_847 (by decide) ?_
            refine z_lald F X9.length 1 (j := 0) dL_law_848 zout_get2 rfl rfl (by decide) (by decide) ?_
            refine z_iload F dL_law_849 rfl ?_
            refine z_i2l F dL_law_851 ?_
            refine z_lcmp F dL_law_852 ?_
            refine z_if_eq (tgt := 858) F dL_law_853 (by decide) (fun c853 => ?_) (fun c853 => ?_)
            · refine z_goto (tgt := 954) F dL_law_858 (by decide) ?_
              refine z_iinc (v := nI (5 * (j + 1))) F dL_law_954 rfl (nI_add _ 5) (by decide) ?_
              refine z_goto (tgt := 23) F dL_law_957 (by decide) ?_
              exact z_lv rfl (ih (j + 1) (cells + mc + 0 + 0) (slots + ms + 0 + 0) X9 M9 g hI9 (by omega) (by omega) (by omega) (by omega) (by omega))
            · exact absurd (by rw [hg k0, ← hr1 k0]; exact zlcmp _) c853
        · exact absurd rfl c836
      · have hstep := (hS9 X M hI0).2.2.2.2.2.2.2.2.2.2.2.2.2.2.2.1 (xs (5 * j + 1)) (xs (5 * j + 2)) f
        obtain ⟨kd, v9, X9, M9, mc, ms, hk9, hmc, hms, hI9, hW, hB, hT⟩ := hstep
        obtain ⟨fs9, hm8⟩ := (hS9 X9 M9 hI9).2.1
        refine z_tableIn (off := 822) (tgt := 861) F dL_law_39 (by decide) (by decide) rfl (by decide) ?_
        refine z_aload_n F dL_law_861 rfl ?_
        refine z_aload_n F dL_law_862 rfl ?_
        refine z_iload F dL_law_863 rfl ?_
        refine z_iconst (v := 1) F dL_law_865 (by decide) ?_
        refine z_iadd F dL_law_866 ?_
        refine z_topi (y := nI (5 * j + 1)) (nI_add _ 1) ?_
        refine z_sld F hX hbl hbA (j := 5 * j + 1) rfl (by omega) (by omega) dL_law_867 ?_
        refine z_aload_n F dL_law_868 rfl ?_
        refine z_iload F dL_law_869 rfl ?_
        refine z_iconst (v := 2) F dL_law_871 (by decide) ?_
        refine z_iadd F dL_law_872 ?_
        refine z_topi (y := nI (5 * j + 2)) (nI_add _ 2) ?_
        refine z_sld F hX hbl hbA (j := 5 * j + 2) rfl (by omega) (by omega) dL_law_873 ?_
        refine z_aload_n F dL_law_874 rfl ?_
        refine z_callSWi (w1 := []) (w2 := X ++ [(ou, .inl (cL, 1, .inr (.inl f)))]) (w3 := M) (rest := []) F hW (zcsW F.2.2.2.2.1 kcL_dimensional kmL_118 ktL_dimensional knL hdL_dimensional rfl rfl ⟨(Nat.le_of_ble_eq_true rfl), (Nat.le_of_ble_eq_true rfl)⟩) dL_law_875 rfl rfl rfl (Nat.le_of_ble_eq_true rfl) ⟨(by omega : cells + mc ≤ 1072), (by omega : slots + ms ≤ 8864)⟩ ?_
        rintro r w2 ⟨er, g, hg, ew⟩
        rw [er, ew, List.nil_append]
        refine z_istore F dL_law_878 (by decide) ?_
        refine z_aload_n F dL_law_880 rfl ?_
        refine z_aload_n F dL_law_881 rfl ?_
        refine z_iload F dL_law_882 rfl ?_
        refine z_iconst (v := 1) F dL_law_884 (by decide) ?_
        refine z_iadd F dL_law_885 ?_
        refine z_topi (y := nI (5 * j + 1)) (nI_add _ 1) ?_
        refine z_sld F hX hbl hbA (j := 5 * j + 1) rfl (by omega) (by omega) dL_law_886 ?_
        refine z_aload_n F dL_law_887 rfl ?_
        refine z_iload F dL_law_888 rfl ?_
        refine z_iconst (v := 2) F dL_law_890 (by decide) ?_
        refine z_iadd F dL_law_891 ?_
        refine z_topi (y := nI (5 * j + 2)) (nI_add _ 2) ?_
        refine z_sld F hX hbl hbA (j := 5 * j + 2) rfl (by omega) (by omega) dL_law_892 ?_
        refine z_callVi (w1 := X9 ++ [(ou, .inl (cL, 1, .inr (.inl g)))]) (w2 := M) (w3 := []) F (zwk_Mi hB) 0 hm9 rfl (zcwV F.2.2.2.2.1 kcX5_dimensional kmL_120 kiX5_dimensional ksX5_dimensional knX5 hdX5_dimensional rfl rfl ⟨(Nat.le_of_ble_eq_true rfl), (Nat.le_of_ble_eq_true rfl)⟩) dL_law_893 (by simp) rfl rfl (Nat.le_of_ble_eq_true rfl) ⟨(by omega : cells + mc + 0 ≤ 1072), (by omega : slots + ms + 0 ≤ 8864)⟩ ?_
        rintro r1 w2 ⟨hr1, ew1⟩
        rw [ew1, List.append_nil]
        refine z_istore F dL_law_896 (by decide) ?_
        refine z_aload_n F dL_law_898 rfl ?_
        refine z_callVi (w1 := X9 ++ [(ou, .inl (cL, 1, .inr (.inl g)))]) (w2 := M9) (w3 := []) F (zwk_Mi hT) 0 hm8 rfl (zcwV F.2.2.2.2.1 kcX5_thrown kmL_71 kiX5_thrown ksX5_thrown knX5 hdX5_thrown rfl rfl ⟨(Nat.le_of_ble_eq_true rfl), (Nat.le_of_ble_eq_true rfl)⟩) dL_law_899 (by simp) rfl rfl (Nat.le_of_ble_eq_true rfl) ⟨(by omega : cells + mc + 0 + 0 ≤ 1072), (by omega : slots + ms + 0 + 0 ≤ 8864)⟩ ?_
        rintro r2 w2 ⟨er2, ew2⟩
        rw [er2, ew2, List.append_nil]
        refine z_iload F dL_law_902 rfl ?_
        refine z_icmp_eq (tgt := 909) F dL_law_904 (by decide) (fun c904 => ?_) (fun c904 => ?_)
        · refine z_iload F dL_law_909 rfl ?_
          refine z_if_ne (tgt := 926) F dL_law_911 (by decide) (fun c911 => ?_) (fun c911 => ?_)
          · refine z_goto (tgt := 954) F dL_law_926 (by decide) ?_
            refine z_iinc (v := nI (5 * (j + 1))) F dL_law_954 rfl (nI_add _ 5) (by decide) ?_
            refine z_goto (tgt := 23) F dL_law_957 (by decide) ?_
            exact z_lv rfl (ih (j + 1) (cells + mc + 0 + 0) (slots + ms + 0 + 0) X9 M9 g hI9 (by omega) (by omega) (by omega) (by omega) (by omega))
          · have k0 : kd = 0 := (zb_eq0 (by omega)).mp c911
            refine z_aload_n F dL_law_914 rfl ?_
            refine z_iconst (v := 0) F dL_law_915 (by decide) ?_
            refine z_lald F X9.length 1 (j := 0) dL_law_916 zout_get2 rfl rfl (by decide) (by decide) ?_
            refine z_iload F dL_law_917 rfl ?_
            refine z_i2l F dL_law_919 ?_
            refine z_lcmp F dL_law_920 ?_
            refine z_if_eq (tgt := 926) F dL_law_921 (by decide) (fun c921 => ?_) (fun c921 => ?_)
            · refine z_goto (tgt := 954) F dL_law_926 (by decide) ?_
              refine z_iinc (v := nI (5 * (j + 1))) F dL_law_954 rfl (nI_add _ 5) (by decide) ?_
              refine z_goto (tgt := 23) F dL_law_957 (by decide) ?_
              exact z_lv rfl (ih (j + 1) (cells + mc + 0 + 0) (slots + ms + 0 + 0) X9 M9 g hI9 (by omega) (by omega) (by omega) (by omega) (by omega))
            · exact absurd (by rw [hg k0, ← hr1 k0]; exact zlcmp _) c921
        · exact absurd rfl c904
      · have hstep := (hS9 X M hI0).2.2.2.2.2.2.2.2.2.2.2.2.2.2.2.2 (xs (5 * j + 1))
        obtain ⟨v9, X9, M9, hI9, hW, hB⟩ := hstep
        refine z_tableIn (off := 890) (tgt := 929) F dL_law_39 (by decide) (by decide) rfl (by decide) ?_
        refine z_aload_n F dL_law_929 rfl ?_
        refine z_aload_n F dL_law_930 rfl ?_
        refine z_iload F dL_law_931 rfl ?_
        refine z_iconst (v := 1) F dL_law_933 (by decide) ?_
        refine z_iadd F dL_law_934 ?_
        refine z_topi (y := nI (5 * j + 1)) (nI_add _ 1) ?_
        refine z_sld F hX hbl hbA (j := 5 * j + 1) rfl (by omega) (by omega) dL_law_935 ?_
        refine z_callVi (w1 := []) (w2 := X) (w3 := [(ou, .inl (cL, 1, .inr (.inl f)))] ++ M) F (zwk_Mi hW) 0 hx9 rfl (zcwV F.2.2.2.2.1 kcX4_count kmL_121 kiX4_count ksX4_count knX4 hdX4_count rfl rfl ⟨(Nat.le_of_ble_eq_true rfl), (Nat.le_of_ble_eq_true rfl)⟩) dL_law_936 (by simp) rfl rfl (Nat.le_of_ble_eq_true rfl) ⟨(by omega : cells + 0 ≤ 1072), (by omega : slots + 0 ≤ 8864)⟩ ?_
        rintro r w2 ⟨er, ew⟩
        rw [er, ew, List.nil_append, ← List.append_assoc]
        refine z_aload_n F dL_law_939 rfl ?_
        refine z_aload_n F dL_law_940 rfl ?_
        refine z_iload F dL_law_941 rfl ?_
        refine z_iconst (v := 1) F dL_law_943 (by decide) ?_
        refine z_iadd F dL_law_944 ?_
        refine z_topi (y := nI (5 * j + 1)) (nI_add _ 1) ?_
        refine z_sld F hX hbl hbA (j := 5 * j + 1) rfl (by omega) (by omega) dL_law_945 ?_
        refine z_callVi (w1 := X9 ++ [(ou, .inl (cL, 1, .inr (.inl f)))]) (w2 := M) (w3 := []) F (zwk_Mi hB) 0 hm9 rfl (zcwV F.2.2.2.2.1 kcX5_count kmL_124 kiX5_count ksX5_count knX5 hdX5_count rfl rfl ⟨(Nat.le_of_ble_eq_true rfl), (Nat.le_of_ble_eq_true rfl)⟩) dL_law_946 (by simp) rfl rfl (Nat.le_of_ble_eq_true rfl) ⟨(by omega : cells + 0 + 0 ≤ 1072), (by omega : slots + 0 + 0 ≤ 8864)⟩ ?_
        rintro r w2 ⟨er1, ew1⟩
        rw [er1, ew1, List.append_nil]
        refine z_icmp_eq (tgt := 954) F dL_law_949 (by decide) (fun c949 => ?_) (fun c949 => ?_)
        · refine z_iinc (v := nI (5 * (j + 1))) F dL_law_954 rfl (nI_add _ 5) (by decide) ?_
          refine z_goto (tgt := 23) F dL_law_957 (by decide) ?_
          exact z_lv rfl (ih (j + 1) (cells + 0 + 0) (slots + 0 + 0) X9 M9 f hI9 (by omega) (by omega) (by omega) (by omega) (by omega))
        · exact absurd rfl c949
      · refine z_tableOut (tgt := 954) F dL_law_39 (by decide) (by decide) ?_
        refine z_iinc (v := nI (5 * (j + 1))) F dL_law_954 rfl (nI_add _ 5) (by decide) ?_
        refine z_goto (tgt := 23) F dL_law_957 (by decide) ?_
        exact z_lv rfl (ih (j + 1) cells slots X M f hI0 (by omega) (by omega) (by omega) (by omega) (by omega))
