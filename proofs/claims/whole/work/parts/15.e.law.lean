theorem zarr {args : Array Value} {s : State} {ty : FieldType} (h : (Cond.arrayClass ty).before args s = true) : ∃ cA : ClassId, ArrOfT s cA ty ∧ s.vm.findClass ("[" ++ ty.toString) = some cA := by
  obtain ⟨c, k, comp, h1, h2, h3⟩ := Cond.arrayClass_spec h
  exact ⟨c, fun n z => ⟨fun k h => (by cases h), k, h2, comp, h3⟩, h1⟩
theorem law_zG {args : Array Value} {s : State} {own : ClassId} (hts : ∀ w ∈ lw_tbl, w.before args s = true) (hgv : (Jvm.Cond.and given_1 narrow_1).before args s = true) (hX4 : s.vm.findClass RX4 = some own) : zG2 s (fun q => s.heap.size ≤ q) := by
  have ht : ∀ w ∈ tables_1, w.before args s = true := fun w hw => hts w (List.mem_append_right _ hw)
  have hs := flat_of_before _ hgv
  refine ⟨⟨fun q hq => va_Nw.of rfl (ht _ (znf_in q hq)), fun q hq => va_Nw.of rfl (ht _ (znm_in q hq)), fun q hq => va_Nw.of rfl (ht _ (zcast_in q hq)), fun q hq => ?_, ?_, ?_⟩, ?_⟩
  · have h1 := ht _ (zstr_in q hq)
    obtain ⟨-, -, -, sa, -, -, -, -, -, hev⟩ := Cond.stringRef_spec hX4 h1
    exact ⟨sa, vk_R.of (A := args) h1 hev⟩
  · exact vx_Zqof (args := args) (ht _ (by decide +kernel)) (ht _ (by decide +kernel)) (hs _ (by decide +kernel)) (fun a ha h => by omega)
  · exact vx_Zqof (args := args) (ht _ (by decide +kernel)) (ht _ (by decide +kernel)) (hs _ (by decide +kernel)) (fun a ha h => by omega)
  · intro q hq
    have hn : ∀ q ∈ zncs, (Cond.not (.castable q.1 q.2)).before args s = true := by
      intro q hq
      exact hs _ ((by decide +kernel : ∀ q ∈ zncs, (Cond.not (.castable q.1 q.2)) ∈ _) q hq)
    exact va_Nc.of (hn q hq)

theorem law_K {args : Array Value} {s : State} (ht : ∀ w ∈ gtbl, w.before args s = true) : ∃ (D : va_G) (cA cL : ClassId), va_K D zcl ((cA, .int) :: (cL, .long) :: []) s := by
  obtain ⟨c0, i0, h0⟩ := u_known (args := args) ht inX0 (ht _ kaX0)
  obtain ⟨c1, i1, h1⟩ := u_known (args := args) ht inX1 (ht _ kaX1)
  obtain ⟨c2, i2, h2⟩ := u_known (args := args) ht inX2 (ht _ kaX2)
  obtain ⟨c3, i3, h3⟩ := u_known (args := args) ht inX3 (ht _ kaX3)
  obtain ⟨c4, i4, h4⟩ := u_known (args := args) ht inX4 (ht _ kaX4)
  obtain ⟨c5, i5, h5⟩ := u_known (args := args) ht inX5 (ht _ kaX5)
  obtain ⟨cA, a1, a2⟩ := zarr (ht _ kr_int)
  obtain ⟨cL, l1, l2⟩ := zarr (ht _ kr_long)
  refine ⟨(fun c => [c0, c1, c2, c3, c4, c5].getD c c0, fun c => [i0, i1, i2, i3, i4, i5].getD c i0), cA, cL, fun c q hq => ?_, fun k q hq => ?_⟩
  · have hc : c < 6 := (List.getElem?_eq_some_iff.mp hq).1
    rcases (show c = 0 ∨ c = 1 ∨ c = 2 ∨ c = 3 ∨ c = 4 ∨ c = 5 by omega) with rfl | rfl | rfl | rfl | rfl | rfl
    · cases hq; exact h0
    · cases hq; exact h1
    · cases hq; exact h2
    · cases hq; exact h3
    · cases hq; exact h4
    · cases hq; exact h5
  · have hc : k < 2 := (List.getElem?_eq_some_iff.mp hq).1
    rcases (show k = 0 ∨ k = 1 by omega) with rfl | rfl
    · cases hq; exact ⟨a1, a2⟩
    · cases hq; exact ⟨l1, l2⟩

set_option maxHeartbeats 4000000 in
set_option maxRecDepth 100000 in
/-- the law from its entry, over an invariant for any two new objects -/
theorem law_start {p : Program} {e : Env} {s : State} {m : MethodId} {below : List Frame} {meth : Method} {c : Code} (l : Launch) {b L : Nat} {xs : Nat → Int32} (hL : L ≤ 2560) (C0 : lw_At p s m meth c b L xs)
    (HS : ∀ (D : va_G) (cA cL : ClassId) (ad am : Nat → Nat) (ou : Nat), ∃ Inv : va_W → va_W → Prop, Inv (wX ad cA (fun _ => 0) (fun _ => 0) (fun _ => 0) (fun _ => 0) 0 0 (fun _ => 0) (fun _ => 0) (fun _ => 0) (fun _ => 0) (fun _ => 0) 0 (fun _ => 0) (fun _ => 0) 0 0 false false (fun _ => some 0) (fun _ => 0) (fun _ => some 0) (fun _ => 0) (fun _ => 0)) (wM am cA 0 0 (fun _ => 0) (fun _ => 0) (fun _ => 0) (fun _ => 0) 0 (fun _ => 0) (fun _ => 0) (fun _ => 0) (fun _ => 0) 0 none false (fun _ => some 0) (fun _ => 0) 0 (fun _ => some 0) (fun _ => 0) (fun _ => 0)) ∧ zSteps l D cA cL [] (ad 0) (am 0) ou Inv) :
    W p l e room_1 s m #[Value.ref b] below meth c s.heap [] 0 0 (lw_Z below #[Value.ref b] s) (entryFrame m ([Value.ref b] : List Value).toArray 7) := by
  obtain ⟨hx, hb, hr, hml, hown, hts, hX, hbl, hlk, hgv⟩ := C0
  have ht : ∀ w ∈ gtbl, w.before #[Value.ref b] s = true := fun w hw => hts w (List.mem_filter.mp hw).1
  obtain ⟨D, cA, cL, hK⟩ := law_K ht
  have hG := law_zG hts hgv (hK.1 4 _ rfl).2.1
  have F : zF p s m #[Value.ref b] c code 7 gtbl RL D zcl ((cA, .int) :: (cL, .long) :: []) (fun q => s.heap.size ≤ q) zG2 := ⟨hx, hb, hml, hown, ht, hK, fun q h => h, hG, zG2_ok⟩
  have K : zW p l e room_1 s m #[Value.ref b] below meth c 7 D zcl (fun q => s.heap.size ≤ q) 0 0 (lw_Z below #[Value.ref b] s) [] (lv_args 0 [Value.ref b]) 0 [] := by
    refine z_new (ci := 4) (C := RX4) (T := TX4) (N := 4) (fs := [.null, .null, .null, .null]) F tyX4 dL_law_0 inX4 tyX4_ok klL_8 kaX4 knX4 rfl (fun j hj => by rcases (show j = 0 ∨ j = 1 ∨ j = 2 ∨ j = 3 by omega) with rfl | rfl | rfl | rfl <;> rfl) (Nat.le_of_ble_eq_true rfl) (Nat.le_of_ble_eq_true rfl) (fun q1 => ?_)
    refine z_dup F dL_law_3 rfl ?_
    refine z_callIv (ret := none) (w1 := []) (w3 := []) F (zwk_Mv (c_X4_init_new q1)) (zcwI F.2.2.2.2.1 kcX4_init kmL_61 kiX4_init knX4 rfl hdX4_init rfl rfl ⟨(Nat.le_of_ble_eq_true rfl), (Nat.le_of_ble_eq_true rfl)⟩) dL_law_4 rfl rfl rfl (Nat.le_of_ble_eq_true rfl) ⟨(Nat.le_of_ble_eq_true rfl), (Nat.le_of_ble_eq_true rfl)⟩ ?_
    rintro w2 ⟨ad, rfl, rfl⟩
    rw [List.nil_append, List.append_nil]
    refine z_astore_n F dL_law_7 (by decide) ?_
    refine z_new (ci := 5) (C := RX5) (T := TX5) (N := 20) (fs := [.int 0, .int 0, .null, .null, .null, .null, .int 0, .null, .null, .null, .null, .int 0, .int 0, .int 0, .null, .null, .int 0, .null, .null, .null]) F tyX5 dL_law_8 inX5 tyX5_ok klL_62 kaX5 knX5 rfl (fun j hj => by rcases (show j = 0 ∨ j = 1 ∨ j = 2 ∨ j = 3 ∨ j = 4 ∨ j = 5 ∨ j = 6 ∨ j = 7 ∨ j = 8 ∨ j = 9 ∨ j = 10 ∨ j = 11 ∨ j = 12 ∨ j = 13 ∨ j = 14 ∨ j = 15 ∨ j = 16 ∨ j = 17 ∨ j = 18 ∨ j = 19 by omega) with rfl | rfl | rfl | rfl | rfl | rfl | rfl | rfl | rfl | rfl | rfl | rfl | rfl | rfl | rfl | rfl | rfl | rfl | rfl | rfl <;> rfl) (Nat.le_of_ble_eq_true rfl) (Nat.le_of_ble_eq_true rfl) (fun q2 => ?_)
    refine z_dup F dL_law_11 rfl ?_
    refine z_callIv (ret := none) (w1 := (wX ad cA (fun _ => 0) (fun _ => 0) (fun _ => 0) (fun _ => 0) 0 0 (fun _ => 0) (fun _ => 0) (fun _ => 0) (fun _ => 0) (fun _ => 0) 0 (fun _ => 0) (fun _ => 0) 0 0 false false (fun _ => some 0) (fun _ => 0) (fun _ => some 0) (fun _ => 0) (fun _ => 0))) (w3 := []) F (zwk_Mv (c_M_init_new q2)) (zcwI F.2.2.2.2.1 kcX5_init kmL_64 kiX5_init knX5 rfl hdX5_init rfl rfl ⟨(Nat.le_of_ble_eq_true rfl), (Nat.le_of_ble_eq_true rfl)⟩) dL_law_12 rfl rfl rfl (Nat.le_of_ble_eq_true rfl) ⟨(Nat.le_of_ble_eq_true rfl), (Nat.le_of_ble_eq_true rfl)⟩ ?_
    rintro w2 ⟨am, rfl, rfl⟩
    rw [List.append_nil]
    refine z_astore_n F dL_law_15 (by decide) ?_
    refine z_iconst (v := 1) F dL_law_16 (by decide) ?_
    refine z_newl (N := 1) F 1 dL_law_17 kr_long rfl rfl (by decide) (Nat.le_of_ble_eq_true rfl) (Nat.le_of_ble_eq_true rfl) (fun ou => ?_)
    refine z_astore_n F dL_law_19 (by decide) ?_
    refine z_iconst (v := 0) F dL_law_20 (by decide) ?_
    refine z_istore F dL_law_21 (by decide) ?_
    obtain ⟨Inv, hI, hSt⟩ := HS D cA cL ad am ou
    refine z_perm (ws' := (((wX ad cA (fun _ => 0) (fun _ => 0) (fun _ => 0) (fun _ => 0) 0 0 (fun _ => 0) (fun _ => 0) (fun _ => 0) (fun _ => 0) (fun _ => 0) 0 (fun _ => 0) (fun _ => 0) 0 0 false false (fun _ => some 0) (fun _ => 0) (fun _ => some 0) (fun _ => 0) (fun _ => 0)) ++ [(ou, .inl (cL, 1, .inr (.inl (fun _ => 0))))]) ++ (wM am cA 0 0 (fun _ => 0) (fun _ => 0) (fun _ => 0) (fun _ => 0) 0 (fun _ => 0) (fun _ => 0) (fun _ => 0) (fun _ => 0) 0 none false (fun _ => some 0) (fun _ => 0) 0 (fun _ => some 0) (fun _ => 0) (fun _ => 0)))) [0, 1, 2, 3, 4, 5, 6, 7, 8, 9, 10, 11, 12, 13, 14, 15, 16, 17, 18, 19, 20, 35, 21, 22, 23, 24, 25, 26, 27, 28, 29, 30, 31, 32, 33, 34] rfl (by decide) rfl ?_
    exact z_lv rfl (law_loop F hr hlk hX hbl (by omega) (fun q h => h) hL hSt 513 0 36 600 _ _ _ hI (by omega) (by omega) (by omega) (by omega) (by omega))
  rw [lg_entry_eq]
  exact K s.heap [] _ (fun k q h => (by cases h)) ⟨fun i j p q h => (by cases h), fun k q h => (by cases h)⟩ va_S.rf (lv_entry [Value.ref b] (n := 7) (Nat.le_of_ble_eq_true rfl))
