theorem zout_get {w : va_W} {x : Nat × va_E} : (w ++ [x])[w.length]? = some x := by simp
theorem zout_set {w : va_W} {x y : Nat × va_E} : (w ++ [x]).set w.length y = w ++ [y] := by simp
/-- a truth as a long -/
def zl01 (v : Int32) : Int64 := if v = 0 then 0 else 1

set_option maxHeartbeats 4000000 in
set_option maxRecDepth 100000 in
theorem w_box {l : Launch} {D : va_G} {tys : List (ClassId × FieldType)} {ad : Nat → Nat} {cA : ClassId} {ro lo co ks : Nat → Nat} {nb sl : Nat} {si we ki ap tg : Nat → Nat} {nu : Nat} {bn us : Nat → Nat} {nh ct : Nat} {mk ex : Bool} {ob : Nat → Option Nat} {oc : Nat → Nat} {lc : Nat → Option Nat} {fb fs : Nat → Nat} {cL : ClassId} {ou : Nat} {f : Nat → Int64} {post : Int32 → va_W → Prop} (p0 p1 p2 p3 : Int32) (hM : zMi l yX4_box (zws yX4_box cX4_box 5 (some .int)) { frames := 7, cells := 0, slots := 0, locals := 106 } D zcl ((cA, .int) :: (cL, .long) :: tys) zG [.ref (ad 0), .int p0, .int p1, .int p2, .int p3] (wX ad cA ro lo co ks nb sl si we ki ap tg nu bn us nh ct mk ex ob oc lc fb fs) post 0 0) : zMi l yL_box (zwsW yL_box cL_box 7 (some .int) [(0, 14, 17, 13), (0, 14, 21, 15)]) { frames := 8, cells := 0, slots := 0, locals := 130 } D zcl ((cA, .int) :: (cL, .long) :: tys) zG2 [.ref (ad 0), .int p0, .int p1, .int p2, .int p3, .ref ou] ((wX ad cA ro lo co ks nb sl si we ki ap tg nu bn us nh ct mk ex ob oc lc fb fs) ++ [(ou, .inl (cL, 1, .inr (.inl f)))]) (fun r w2 => r = 0 ∧ ∃ (v : Int32) (w9 : va_W) (g : Nat → Int64), post v w9 ∧ g 0 = v.toInt64 ∧ w2 = w9 ++ [(ou, .inl (cL, 1, .inr (.inl g)))]) 0 0 := by
  refine z_ofiH (cc := cL_box) (maxL := 7) (ret := (some .int)) (hh := [(0, 14, 17, 13), (0, 14, 21, 15)]) (by decide) rfl (Nat.le_of_ble_eq_true rfl) ?_
  intro p e s m below meth c A F hr hlk htb
  refine z_aload F dL_box_0 rfl ?_
  refine z_iconst (v := 0) F dL_box_2 (by decide) ?_
  refine z_aload_n F dL_box_3 rfl ?_
  refine z_iload_n F dL_box_4 rfl ?_
  refine z_iload_n F dL_box_5 rfl ?_
  refine z_iload_n F dL_box_6 rfl ?_
  refine z_iload F dL_box_7 rfl ?_
  refine z_callVi (w1 := []) (w3 := [(ou, .inl (cL, 1, .inr (.inl f)))]) F (zwk_Mi hM) 0 rfl rfl (zcwV F.2.2.2.2.1 kcX4_box kmL_7 kiX4_box ksX4_box knX4 hdX4_box rfl rfl ⟨(Nat.le_of_ble_eq_true rfl), (Nat.le_of_ble_eq_true rfl)⟩) dL_box_9 rfl rfl rfl (Nat.le_of_ble_eq_true rfl) ⟨(Nat.le_of_ble_eq_true rfl), (Nat.le_of_ble_eq_true rfl)⟩ ?_
  rintro v w2 hp
  refine z_i2l F dL_box_12 ?_
  refine z_last F (w2.length) 1 (j := 0) dL_box_13 zout_get rfl rfl (by decide) (by decide) ?_
  rw [List.nil_append, zout_set]
  refine z_goto (tgt := 25) F dL_box_14 (by decide) ?_
  refine z_iconst (v := 0) F dL_box_25 (by decide) ?_
  exact z_iret F hr rfl hlk dL_box_26 ⟨rfl, v, w2, _, hp, rfl, rfl⟩ (Nat.le_of_ble_eq_true rfl) (Nat.le_of_ble_eq_true rfl)

set_option maxHeartbeats 4000000 in
set_option maxRecDepth 100000 in
theorem w_box_x1 {l : Launch} {D : va_G} {tys : List (ClassId × FieldType)} {ad : Nat → Nat} {cA : ClassId} {ro lo co ks : Nat → Nat} {nb sl : Nat} {si we ki ap tg : Nat → Nat} {nu : Nat} {bn us : Nat → Nat} {nh ct : Nat} {mk ex : Bool} {ob : Nat → Option Nat} {oc : Nat → Nat} {lc : Nat → Option Nat} {fb fs : Nat → Nat} {cL : ClassId} {ou : Nat} {f : Nat → Int64} (p0 p1 p2 p3 : Int32) (hM : zXi l yX4_box (zws yX4_box cX4_box 5 (some .int)) { frames := 7, cells := 1, slots := 6, locals := 106 } D zcl ((cA, .int) :: (cL, .long) :: tys) zG [.ref (ad 0), .int p0, .int p1, .int p2, .int p3] (wX ad cA ro lo co ks nb sl si we ki ap tg nu bn us nh ct mk ex ob oc lc fb fs) (fun _ _ => False) (fun E w2 => E = "java/lang/IllegalArgumentException" ∧ w2 = (wX ad cA ro lo co ks nb sl si we ki ap tg nu bn us nh ct mk ex ob oc lc fb fs)) 1 6) : zMi l yL_box (zwsW yL_box cL_box 7 (some .int) [(0, 14, 17, 13), (0, 14, 21, 15)]) { frames := 8, cells := 1, slots := 6, locals := 130 } D zcl ((cA, .int) :: (cL, .long) :: tys) zG2 [.ref (ad 0), .int p0, .int p1, .int p2, .int p3, .ref ou] ((wX ad cA ro lo co ks nb sl si we ki ap tg nu bn us nh ct mk ex ob oc lc fb fs) ++ [(ou, .inl (cL, 1, .inr (.inl f)))]) (fun r w2 => r = 1 ∧ w2 = ((wX ad cA ro lo co ks nb sl si we ki ap tg nu bn us nh ct mk ex ob oc lc fb fs) ++ [(ou, .inl (cL, 1, .inr (.inl f)))])) 1 6 := by
  refine z_ofiH (cc := cL_box) (maxL := 7) (ret := (some .int)) (hh := [(0, 14, 17, 13), (0, 14, 21, 15)]) (by decide) rfl (Nat.le_of_ble_eq_true rfl) ?_
  intro p e s m below meth c A F hr hlk htb
  refine z_aload F dL_box_0 rfl ?_
  refine z_iconst (v := 0) F dL_box_2 (by decide) ?_
  refine z_aload_n F dL_box_3 rfl ?_
  refine z_iload_n F dL_box_4 rfl ?_
  refine z_iload_n F dL_box_5 rfl ?_
  refine z_iload_n F dL_box_6 rfl ?_
  refine z_iload F dL_box_7 rfl ?_
  refine zx_callVi (w1 := []) (w3 := [(ou, .inl (cL, 1, .inr (.inl f)))]) F (zwk_Xi hM) 0 rfl rfl (zcwV F.2.2.2.2.1 kcX4_box kmL_7 kiX4_box ksX4_box knX4 hdX4_box rfl rfl ⟨(Nat.le_of_ble_eq_true rfl), (Nat.le_of_ble_eq_true rfl)⟩) dL_box_9 rfl rfl rfl (Nat.le_of_ble_eq_true rfl) ⟨(Nat.le_of_ble_eq_true rfl), (Nat.le_of_ble_eq_true rfl)⟩ ?_ ?_
  · rintro _ _ ⟨rfl, rfl⟩
    refine zx_catch F (name := "java/lang/IllegalArgumentException") [] ⟨0, 14, 17, 13⟩ [⟨0, 14, 21, 15⟩] htb (fun z hz => by cases hz) rfl (by decide) (F.2.2.2.2.1 _ klL_13) (va_tabs rfl rfl (F.2.2.2.2.2.2.2.1.1.2.2.1 "java/lang/IllegalArgumentException" (List.mem_of_getElem? (i := 0) rfl))) (fun qe => ?_)
    refine z_astore F dL_box_17 (by decide) ?_
    refine z_iconst (v := 1) F dL_box_19 (by decide) ?_
    exact z_iret F hr rfl hlk dL_box_20 ⟨rfl, rfl⟩ (Nat.le_of_ble_eq_true rfl) (Nat.le_of_ble_eq_true rfl)
  rintro v w2 hp
  exact hp.elim

set_option maxHeartbeats 4000000 in
set_option maxRecDepth 100000 in
theorem w_box_x2 {l : Launch} {D : va_G} {tys : List (ClassId × FieldType)} {ad : Nat → Nat} {cA : ClassId} {ro lo co ks : Nat → Nat} {nb sl : Nat} {si we ki ap tg : Nat → Nat} {nu : Nat} {bn us : Nat → Nat} {nh ct : Nat} {mk ex : Bool} {ob : Nat → Option Nat} {oc : Nat → Nat} {lc : Nat → Option Nat} {fb fs : Nat → Nat} {cL : ClassId} {ou : Nat} {f : Nat → Int64} (p0 p1 p2 p3 : Int32) (hM : zXi l yX4_box (zws yX4_box cX4_box 5 (some .int)) { frames := 7, cells := 1, slots := 6, locals := 106 } D zcl ((cA, .int) :: (cL, .long) :: tys) zG [.ref (ad 0), .int p0, .int p1, .int p2, .int p3] (wX ad cA ro lo co ks nb sl si we ki ap tg nu bn us nh ct mk ex ob oc lc fb fs) (fun _ _ => False) (fun E w2 => E = "java/lang/UnsupportedOperationException" ∧ w2 = (wX ad cA ro lo co ks nb sl si we ki ap tg nu bn us nh ct mk ex ob oc lc fb fs)) 1 6) : zMi l yL_box (zwsW yL_box cL_box 7 (some .int) [(0, 14, 17, 13), (0, 14, 21, 15)]) { frames := 8, cells := 1, slots := 6, locals := 130 } D zcl ((cA, .int) :: (cL, .long) :: tys) zG2 [.ref (ad 0), .int p0, .int p1, .int p2, .int p3, .ref ou] ((wX ad cA ro lo co ks nb sl si we ki ap tg nu bn us nh ct mk ex ob oc lc fb fs) ++ [(ou, .inl (cL, 1, .inr (.inl f)))]) (fun r w2 => r = 2 ∧ w2 = ((wX ad cA ro lo co ks nb sl si we ki ap tg nu bn us nh ct mk ex ob oc lc fb fs) ++ [(ou, .inl (cL, 1, .inr (.inl f)))])) 1 6 := by
  refine z_ofiH (cc := cL_box) (maxL := 7) (ret := (some .int)) (hh := [(0, 14, 17, 13), (0, 14, 21, 15)]) (by decide) rfl (Nat.le_of_ble_eq_true rfl) ?_
  intro p e s m below meth c A F hr hlk htb
  refine z_aload F dL_box_0 rfl ?_
  refine z_iconst (v := 0) F dL_box_2 (by decide) ?_
  refine z_aload_n F dL_box_3 rfl ?_
  refine z_iload_n F dL_box_4 rfl ?_
  refine z_iload_n F dL_box_5 rfl ?_
  refine z_iload_n F dL_box_6 rfl ?_
  refine z_iload F dL_box_7 rfl ?_
  refine zx_callVi (w1 := []) (w3 := [(ou, .inl (cL, 1, .inr (.inl f)))]) F (zwk_Xi hM) 0 rfl rfl (zcwV F.2.2.2.2.1 kcX4_box kmL_7 kiX4_box ksX4_box knX4 hdX4_box rfl rfl ⟨(Nat.le_of_ble_eq_true rfl), (Nat.le_of_ble_eq_true rfl)⟩) dL_box_9 rfl rfl rfl (Nat.le_of_ble_eq_true rfl) ⟨(Nat.le_of_ble_eq_true rfl), (Nat.le_of_ble_eq_true rfl)⟩ ?_ ?_
  · rintro _ _ ⟨rfl, rfl⟩
    refine zx_catch F (name := "java/lang/UnsupportedOperationException") [⟨0, 14, 17, 13⟩] ⟨0, 14, 21, 15⟩ [] htb (fun z hz => by rcases List.mem_cons.mp hz with rfl | hz; (exact Or.inr ⟨by decide, "java/lang/IllegalArgumentException", F.2.2.2.2.1 _ klL_13, F.2.2.2.2.2.2.2.1.2 ("java/lang/UnsupportedOperationException", "java/lang/IllegalArgumentException") (List.mem_of_getElem? (i := 0) rfl)⟩); cases hz) rfl (by decide) (F.2.2.2.2.1 _ klL_15) (va_tabs rfl rfl (F.2.2.2.2.2.2.2.1.1.2.2.1 "java/lang/UnsupportedOperationException" (List.mem_of_getElem? (i := 1) rfl))) (fun qe => ?_)
    refine z_astore F dL_box_21 (by decide) ?_
    refine z_iconst (v := 2) F dL_box_23 (by decide) ?_
    exact z_iret F hr rfl hlk dL_box_24 ⟨rfl, rfl⟩ (Nat.le_of_ble_eq_true rfl) (Nat.le_of_ble_eq_true rfl)
  rintro v w2 hp
  exact hp.elim

set_option maxHeartbeats 4000000 in
set_option maxRecDepth 100000 in
theorem w_unit {l : Launch} {D : va_G} {tys : List (ClassId × FieldType)} {ad : Nat → Nat} {cA : ClassId} {ro lo co ks : Nat → Nat} {nb sl : Nat} {si we ki ap tg : Nat → Nat} {nu : Nat} {bn us : Nat → Nat} {nh ct : Nat} {mk ex : Bool} {ob : Nat → Option Nat} {oc : Nat → Nat} {lc : Nat → Option Nat} {fb fs : Nat → Nat} {cL : ClassId} {ou : Nat} {f : Nat → Int64} {post : Int32 → va_W → Prop} (p0 p1 p2 : Int32) (hM : zMi l yX4_unit (zws yX4_unit cX4_unit 4 (some .int)) { frames := 7, cells := 0, slots := 0, locals := 106 } D zcl ((cA, .int) :: (cL, .long) :: tys) zG [.ref (ad 0), .int p0, .int p1, .int p2] (wX ad cA ro lo co ks nb sl si we ki ap tg nu bn us nh ct mk ex ob oc lc fb fs) post 0 0) : zMi l yL_unit (zwsW yL_unit cL_unit 6 (some .int) [(0, 12, 15, 13), (0, 12, 19, 15)]) { frames := 8, cells := 0, slots := 0, locals := 129 } D zcl ((cA, .int) :: (cL, .long) :: tys) zG2 [.ref (ad 0), .int p0, .int p1, .int p2, .ref ou] ((wX ad cA ro lo co ks nb sl si we ki ap tg nu bn us nh ct mk ex ob oc lc fb fs) ++ [(ou, .inl (cL, 1, .inr (.inl f)))]) (fun r w2 => r = 0 ∧ ∃ (v : Int32) (w9 : va_W) (g : Nat → Int64), post v w9 ∧ g 0 = v.toInt64 ∧ w2 = w9 ++ [(ou, .inl (cL, 1, .inr (.inl g)))]) 0 0 := by
  refine z_ofiH (cc := cL_unit) (maxL := 6) (ret := (some .int)) (hh := [(0, 12, 15, 13), (0, 12, 19, 15)]) (by decide) rfl (Nat.le_of_ble_eq_true rfl) ?_
  intro p e s m below meth c A F hr hlk htb
  refine z_aload F dL_unit_0 rfl ?_
  refine z_iconst (v := 0) F dL_unit_2 (by decide) ?_
  refine z_aload_n F dL_unit_3 rfl ?_
  refine z_iload_n F dL_unit_4 rfl ?_
  refine z_iload_n F dL_unit_5 rfl ?_
  refine z_iload_n F dL_unit_6 rfl ?_
  refine z_callVi (w1 := []) (w3 := [(ou, .inl (cL, 1, .inr (.inl f)))]) F (zwk_Mi hM) 0 rfl rfl (zcwV F.2.2.2.2.1 kcX4_unit kmL_17 kiX4_unit ksX4_unit knX4 hdX4_unit rfl rfl ⟨(Nat.le_of_ble_eq_true rfl), (Nat.le_of_ble_eq_true rfl)⟩) dL_unit_7 rfl rfl rfl (Nat.le_of_ble_eq_true rfl) ⟨(Nat.le_of_ble_eq_true rfl), (Nat.le_of_ble_eq_true rfl)⟩ ?_
  rintro v w2 hp
  refine z_i2l F dL_unit_10 ?_
  refine z_last F (w2.length) 1 (j := 0) dL_unit_11 zout_get rfl rfl (by decide) (by decide) ?_
  rw [List.nil_append, zout_set]
  refine z_goto (tgt := 23) F dL_unit_12 (by decide) ?_
  refine z_iconst (v := 0) F dL_unit_23 (by decide) ?_
  exact z_iret F hr rfl hlk dL_unit_24 ⟨rfl, v, w2, _, hp, rfl, rfl⟩ (Nat.le_of_ble_eq_true rfl) (Nat.le_of_ble_eq_true rfl)

set_option maxHeartbeats 4000000 in
set_option maxRecDepth 100000 in
theorem w_unit_x1 {l : Launch} {D : va_G} {tys : List (ClassId × FieldType)} {ad : Nat → Nat} {cA : ClassId} {ro lo co ks : Nat → Nat} {nb sl : Nat} {si we ki ap tg : Nat → Nat} {nu : Nat} {bn us : Nat → Nat} {nh ct : Nat} {mk ex : Bool} {ob : Nat → Option Nat} {oc : Nat → Nat} {lc : Nat → Option Nat} {fb fs : Nat → Nat} {cL : ClassId} {ou : Nat} {f : Nat → Int64} (p0 p1 p2 : Int32) (hM : zXi l yX4_unit (zws yX4_unit cX4_unit 4 (some .int)) { frames := 7, cells := 1, slots := 6, locals := 106 } D zcl ((cA, .int) :: (cL, .long) :: tys) zG [.ref (ad 0), .int p0, .int p1, .int p2] (wX ad cA ro lo co ks nb sl si we ki ap tg nu bn us nh ct mk ex ob oc lc fb fs) (fun _ _ => False) (fun E w2 => E = "java/lang/IllegalArgumentException" ∧ w2 = (wX ad cA ro lo co ks nb sl si we ki ap tg nu bn us nh ct mk ex ob oc lc fb fs)) 1 6) : zMi l yL_unit (zwsW yL_unit cL_unit 6 (some .int) [(0, 12, 15, 13), (0, 12, 19, 15)]) { frames := 8, cells := 1, slots := 6, locals := 129 } D zcl ((cA, .int) :: (cL, .long) :: tys) zG2 [.ref (ad 0), .int p0, .int p1, .int p2, .ref ou] ((wX ad cA ro lo co ks nb sl si we ki ap tg nu bn us nh ct mk ex ob oc lc fb fs) ++ [(ou, .inl (cL, 1, .inr (.inl f)))]) (fun r w2 => r = 1 ∧ w2 = ((wX ad cA ro lo co ks nb sl si we ki ap tg nu bn us nh ct mk ex ob oc lc fb fs) ++ [(ou, .inl (cL, 1, .inr (.inl f)))])) 1 6 := by
  refine z_ofiH (cc := cL_unit) (maxL := 6) (ret := (some .int)) (hh := [(0, 12, 15, 13), (0, 12, 19, 15)]) (by decide) rfl (Nat.le_of_ble_eq_true rfl) ?_
  intro p e s m below meth c A F hr hlk htb
  refine z_aload F dL_unit_0 rfl ?_
  refine z_iconst (v := 0) F dL_unit_2 (by decide) ?_
  refine z_aload_n F dL_unit_3 rfl ?_
  refine z_iload_n F dL_unit_4 rfl ?_
  refine z_iload_n F dL_unit_5 rfl ?_
  refine z_iload_n F dL_unit_6 rfl ?_
  refine zx_callVi (w1 := []) (w3 := [(ou, .inl (cL, 1, .inr (.inl f)))]) F (zwk_Xi hM) 0 rfl rfl (zcwV F.2.2.2.2.1 kcX4_unit kmL_17 kiX4_unit ksX4_unit knX4 hdX4_unit rfl rfl ⟨(Nat.le_of_ble_eq_true rfl), (Nat.le_of_ble_eq_true rfl)⟩) dL_unit_7 rfl rfl rfl (Nat.le_of_ble_eq_true rfl) ⟨(Nat.le_of_ble_eq_true rfl), (Nat.le_of_ble_eq_true rfl)⟩ ?_ ?_
  · rintro _ _ ⟨rfl, rfl⟩
    refine zx_catch F (name := "java/lang/IllegalArgumentException") [] ⟨0, 12, 15, 13⟩ [⟨0, 12, 19, 15⟩] htb (fun z hz => by cases hz) rfl (by decide) (F.2.2.2.2.1 _ klL_13) (va_tabs rfl rfl (F.2.2.2.2.2.2.2.1.1.2.2.1 "java/lang/IllegalArgumentException" (List.mem_of_getElem? (i := 0) rfl))) (fun qe => ?_)
    refine z_astore F dL_unit_15 (by decide) ?_
    refine z_iconst (v := 1) F dL_unit_17 (by decide) ?_
    exact z_iret F hr rfl hlk dL_unit_18 ⟨rfl, rfl⟩ (Nat.le_of_ble_eq_true rfl) (Nat.le_of_ble_eq_true rfl)
  rintro v w2 hp
  exact hp.elim

set_option maxHeartbeats 4000000 in
set_option maxRecDepth 100000 in
theorem w_unit_x2 {l : Launch} {D : va_G} {tys : List (ClassId × FieldType)} {ad : Nat → Nat} {cA : ClassId} {ro lo co ks : Nat → Nat} {nb sl : Nat} {si we ki ap tg : Nat → Nat} {nu : Nat} {bn us : Nat → Nat} {nh ct : Nat} {mk ex : Bool} {ob : Nat → Option Nat} {oc : Nat → Nat} {lc : Nat → Option Nat} {fb fs : Nat → Nat} {cL : ClassId} {ou : Nat} {f : Nat → Int64} (p0 p1 p2 : Int32) (hM : zXi l yX4_unit (zws yX4_unit cX4_unit 4 (some .int)) { frames := 7, cells := 1, slots := 6, locals := 106 } D zcl ((cA, .int) :: (cL, .long) :: tys) zG [.ref (ad 0), .int p0, .int p1, .int p2] (wX ad cA ro lo co ks nb sl si we ki ap tg nu bn us nh ct mk ex ob oc lc fb fs) (fun _ _ => False) (fun E w2 => E = "java/lang/UnsupportedOperationException" ∧ w2 = (wX ad cA ro lo co ks nb sl si we ki ap tg nu bn us nh ct mk ex ob oc lc fb fs)) 1 6) : zMi l yL_unit (zwsW yL_unit cL_unit 6 (some .int) [(0, 12, 15, 13), (0, 12, 19, 15)]) { frames := 8, cells := 1, slots := 6, locals := 129 } D zcl ((cA, .int) :: (cL, .long) :: tys) zG2 [.ref (ad 0), .int p0, .int p1, .int p2, .ref ou] ((wX ad cA ro lo co ks nb sl si we ki ap tg nu bn us nh ct mk ex ob oc lc fb fs) ++ [(ou, .inl (cL, 1, .inr (.inl f)))]) (fun r w2 => r = 2 ∧ w2 = ((wX ad cA ro lo co ks nb sl si we ki ap tg nu bn us nh ct mk ex ob oc lc fb fs) ++ [(ou, .inl (cL, 1, .inr (.inl f)))])) 1 6 := by
  refine z_ofiH (cc := cL_unit) (maxL := 6) (ret := (some .int)) (hh := [(0, 12, 15, 13), (0, 12, 19, 15)]) (by decide) rfl (Nat.le_of_ble_eq_true rfl) ?_
  intro p e s m below meth c A F hr hlk htb
  refine z_aload F dL_unit_0 rfl ?_
  refine z_iconst (v := 0) F dL_unit_2 (by decide) ?_
  refine z_aload_n F dL_unit_3 rfl ?_
  refine z_iload_n F dL_unit_4 rfl ?_
  refine z_iload_n F dL_unit_5 rfl ?_
  refine z_iload_n F dL_unit_6 rfl ?_
  refine zx_callVi (w1 := []) (w3 := [(ou, .inl (cL, 1, .inr (.inl f)))]) F (zwk_Xi hM) 0 rfl rfl (zcwV F.2.2.2.2.1 kcX4_unit kmL_17 kiX4_unit ksX4_unit knX4 hdX4_unit rfl rfl ⟨(Nat.le_of_ble_eq_true rfl), (Nat.le_of_ble_eq_true rfl)⟩) dL_unit_7 rfl rfl rfl (Nat.le_of_ble_eq_true rfl) ⟨(Nat.le_of_ble_eq_true rfl), (Nat.le_of_ble_eq_true rfl)⟩ ?_ ?_
  · rintro _ _ ⟨rfl, rfl⟩
    refine zx_catch F (name := "java/lang/UnsupportedOperationException") [⟨0, 12, 15, 13⟩] ⟨0, 12, 19, 15⟩ [] htb (fun z hz => by rcases List.mem_cons.mp hz with rfl | hz; (exact Or.inr ⟨by decide, "java/lang/IllegalArgumentException", F.2.2.2.2.1 _ klL_13, F.2.2.2.2.2.2.2.1.2 ("java/lang/UnsupportedOperationException", "java/lang/IllegalArgumentException") (List.mem_of_getElem? (i := 0) rfl)⟩); cases hz) rfl (by decide) (F.2.2.2.2.1 _ klL_15) (va_tabs rfl rfl (F.2.2.2.2.2.2.2.1.1.2.2.1 "java/lang/UnsupportedOperationException" (List.mem_of_getElem? (i := 1) rfl))) (fun qe => ?_)
    refine z_astore F dL_unit_19 (by decide) ?_
    refine z_iconst (v := 2) F dL_unit_21 (by decide) ?_
    exact z_iret F hr rfl hlk dL_unit_22 ⟨rfl, rfl⟩ (Nat.le_of_ble_eq_true rfl) (Nat.le_of_ble_eq_true rfl)
  rintro v w2 hp
  exact hp.elim

set_option maxHeartbeats 4000000 in
set_option maxRecDepth 100000 in
theorem w_group {l : Launch} {D : va_G} {tys : List (ClassId × FieldType)} {ad : Nat → Nat} {cA : ClassId} {ro lo co ks : Nat → Nat} {nb sl : Nat} {si we ki ap tg : Nat → Nat} {nu : Nat} {bn us : Nat → Nat} {nh ct : Nat} {mk ex : Bool} {ob : Nat → Option Nat} {oc : Nat → Nat} {lc : Nat → Option Nat} {fb fs : Nat → Nat} {cL : ClassId} {ou : Nat} {f : Nat → Int64} {post : Int32 → va_W → Prop} (p0 p1 p2 : Int32) (hM : zMi l yX4_group (zws yX4_group cX4_group 5 (some .int)) { frames := 7, cells := 0, slots := 0, locals := 106 } D zcl ((cA, .int) :: (cL, .long) :: tys) zG [.ref (ad 0), .int p0, .int p1, .int p2] (wX ad cA ro lo co ks nb sl si we ki ap tg nu bn us nh ct mk ex ob oc lc fb fs) post 0 0) : zMi l yL_group (zwsW yL_group cL_group 6 (some .int) [(0, 12, 15, 24), (0, 12, 19, 13)]) { frames := 8, cells := 0, slots := 0, locals := 130 } D zcl ((cA, .int) :: (cL, .long) :: tys) zG2 [.ref (ad 0), .int p0, .int p1, .int p2, .ref ou] ((wX ad cA ro lo co ks nb sl si we ki ap tg nu bn us nh ct mk ex ob oc lc fb fs) ++ [(ou, .inl (cL, 1, .inr (.inl f)))]) (fun r w2 => r = 0 ∧ ∃ (v : Int32) (w9 : va_W) (g : Nat → Int64), post v w9 ∧ g 0 = v.toInt64 ∧ w2 = w9 ++ [(ou, .inl (cL, 1, .inr (.inl g)))]) 0 0 := by
  refine z_ofiH (cc := cL_group) (maxL := 6) (ret := (some .int)) (hh := [(0, 12, 15, 24), (0, 12, 19, 13)]) (by decide) rfl (Nat.le_of_ble_eq_true rfl) ?_
  intro p e s m below meth c A F hr hlk htb
  refine z_aload F dL_group_0 rfl ?_
  refine z_iconst (v := 0) F dL_group_2 (by decide) ?_
  refine z_aload_n F dL_group_3 rfl ?_
  refine z_iload_n F dL_group_4 rfl ?_
  refine z_iload_n F dL_group_5 rfl ?_
  refine z_iload_n F dL_group_6 rfl ?_
  refine z_callVi (w1 := []) (w3 := [(ou, .inl (cL, 1, .inr (.inl f)))]) F (zwk_Mi hM) 0 rfl rfl (zcwV F.2.2.2.2.1 kcX4_group kmL_21 kiX4_group ksX4_group knX4 hdX4_group rfl rfl ⟨(Nat.le_of_ble_eq_true rfl), (Nat.le_of_ble_eq_true rfl)⟩) dL_group_7 rfl rfl rfl (Nat.le_of_ble_eq_true rfl) ⟨(Nat.le_of_ble_eq_true rfl), (Nat.le_of_ble_eq_true rfl)⟩ ?_
  rintro v w2 hp
  refine z_i2l F dL_group_10 ?_
  refine z_last F (w2.length) 1 (j := 0) dL_group_11 zout_get rfl rfl (by decide) (by decide) ?_
  rw [List.nil_append, zout_set]
  refine z_goto (tgt := 23) F dL_group_12 (by decide) ?_
  refine z_iconst (v := 0) F dL_group_23 (by decide) ?_
  exact z_iret F hr rfl hlk dL_group_24 ⟨rfl, v, w2, _, hp, rfl, rfl⟩ (Nat.le_of_ble_eq_true rfl) (Nat.le_of_ble_eq_true rfl)

set_option maxHeartbeats 4000000 in
set_option maxRecDepth 100000 in
theorem w_group_x1 {l : Launch} {D : va_G} {tys : List (ClassId × FieldType)} {ad : Nat → Nat} {cA : ClassId} {ro lo co ks : Nat → Nat} {nb sl : Nat} {si we ki ap tg : Nat → Nat} {nu : Nat} {bn us : Nat → Nat} {nh ct : Nat} {mk ex : Bool} {ob : Nat → Option Nat} {oc : Nat → Nat} {lc : Nat → Option Nat} {fb fs : Nat → Nat} {cL : ClassId} {ou : Nat} {f : Nat → Int64} (p0 p1 p2 : Int32) (hM : zXi l yX4_group (zws yX4_group cX4_group 5 (some .int)) { frames := 7, cells := 1, slots := 6, locals := 106 } D zcl ((cA, .int) :: (cL, .long) :: tys) zG [.ref (ad 0), .int p0, .int p1, .int p2] (wX ad cA ro lo co ks nb sl si we ki ap tg nu bn us nh ct mk ex ob oc lc fb fs) (fun _ _ => False) (fun E w2 => E = "java/util/NoSuchElementException" ∧ w2 = (wX ad cA ro lo co ks nb sl si we ki ap tg nu bn us nh ct mk ex ob oc lc fb fs)) 1 6) : zMi l yL_group (zwsW yL_group cL_group 6 (some .int) [(0, 12, 15, 24), (0, 12, 19, 13)]) { frames := 8, cells := 1, slots := 6, locals := 130 } D zcl ((cA, .int) :: (cL, .long) :: tys) zG2 [.ref (ad 0), .int p0, .int p1, .int p2, .ref ou] ((wX ad cA ro lo co ks nb sl si we ki ap tg nu bn us nh ct mk ex ob oc lc fb fs) ++ [(ou, .inl (cL, 1, .inr (.inl f)))]) (fun r w2 => r = 1 ∧ w2 = ((wX ad cA ro lo co ks nb sl si we ki ap tg nu bn us nh ct mk ex ob oc lc fb fs) ++ [(ou, .inl (cL, 1, .inr (.inl f)))])) 1 6 := by
  refine z_ofiH (cc := cL_group) (maxL := 6) (ret := (some .int)) (hh := [(0, 12, 15, 24), (0, 12, 19, 13)]) (by decide) rfl (Nat.le_of_ble_eq_true rfl) ?_
  intro p e s m below meth c A F hr hlk htb
  refine z_aload F dL_group_0 rfl ?_
  refine z_iconst (v := 0) F dL_group_2 (by decide) ?_
  refine z_aload_n F dL_group_3 rfl ?_
  refine z_iload_n F dL_group_4 rfl ?_
  refine z_iload_n F dL_group_5 rfl ?_
  refine z_iload_n F dL_group_6 rfl ?_
  refine zx_callVi (w1 := []) (w3 := [(ou, .inl (cL, 1, .inr (.inl f)))]) F (zwk_Xi hM) 0 rfl rfl (zcwV F.2.2.2.2.1 kcX4_group kmL_21 kiX4_group ksX4_group knX4 hdX4_group rfl rfl ⟨(Nat.le_of_ble_eq_true rfl), (Nat.le_of_ble_eq_true rfl)⟩) dL_group_7 rfl rfl rfl (Nat.le_of_ble_eq_true rfl) ⟨(Nat.le_of_ble_eq_true rfl), (Nat.le_of_ble_eq_true rfl)⟩ ?_ ?_
  · rintro _ _ ⟨rfl, rfl⟩
    refine zx_catch F (name := "java/util/NoSuchElementException") [] ⟨0, 12, 15, 24⟩ [⟨0, 12, 19, 13⟩] htb (fun z hz => by cases hz) rfl (by decide) (F.2.2.2.2.1 _ klL_24) (va_tabs rfl rfl (F.2.2.2.2.2.2.2.1.1.2.2.1 "java/util/NoSuchElementException" (List.mem_of_getElem? (i := 2) rfl))) (fun qe => ?_)
    refine z_astore F dL_group_15 (by decide) ?_
    refine z_iconst (v := 1) F dL_group_17 (by decide) ?_
    exact z_iret F hr rfl hlk dL_group_18 ⟨rfl, rfl⟩ (Nat.le_of_ble_eq_true rfl) (Nat.le_of_ble_eq_true rfl)
  rintro v w2 hp
  exact hp.elim

set_option maxHeartbeats 4000000 in
set_option maxRecDepth 100000 in
theorem w_group_x2 {l : Launch} {D : va_G} {tys : List (ClassId × FieldType)} {ad : Nat → Nat} {cA : ClassId} {ro lo co ks : Nat → Nat} {nb sl : Nat} {si we ki ap tg : Nat → Nat} {nu : Nat} {bn us : Nat → Nat} {nh ct : Nat} {mk ex : Bool} {ob : Nat → Option Nat} {oc : Nat → Nat} {lc : Nat → Option Nat} {fb fs : Nat → Nat} {cL : ClassId} {ou : Nat} {f : Nat → Int64} (p0 p1 p2 : Int32) (hM : zXi l yX4_group (zws yX4_group cX4_group 5 (some .int)) { frames := 7, cells := 1, slots := 6, locals := 106 } D zcl ((cA, .int) :: (cL, .long) :: tys) zG [.ref (ad 0), .int p0, .int p1, .int p2] (wX ad cA ro lo co ks nb sl si we ki ap tg nu bn us nh ct mk ex ob oc lc fb fs) (fun _ _ => False) (fun E w2 => E = "java/lang/IllegalArgumentException" ∧ w2 = (wX ad cA ro lo co ks nb sl si we ki ap tg nu bn us nh ct mk ex ob oc lc fb fs)) 1 6) : zMi l yL_group (zwsW yL_group cL_group 6 (some .int) [(0, 12, 15, 24), (0, 12, 19, 13)]) { frames := 8, cells := 1, slots := 6, locals := 130 } D zcl ((cA, .int) :: (cL, .long) :: tys) zG2 [.ref (ad 0), .int p0, .int p1, .int p2, .ref ou] ((wX ad cA ro lo co ks nb sl si we ki ap tg nu bn us nh ct mk ex ob oc lc fb fs) ++ [(ou, .inl (cL, 1, .inr (.inl f)))]) (fun r w2 => r = 2 ∧ w2 = ((wX ad cA ro lo co ks nb sl si we ki ap tg nu bn us nh ct mk ex ob oc lc fb fs) ++ [(ou, .inl (cL, 1, .inr (.inl f)))])) 1 6 := by
  refine z_ofiH (cc := cL_group) (maxL := 6) (ret := (some .int)) (hh := [(0, 12, 15, 24), (0, 12, 19, 13)]) (by decide) rfl (Nat.le_of_ble_eq_true rfl) ?_
  intro p e s m below meth c A F hr hlk htb
  refine z_aload F dL_group_0 rfl ?_
  refine z_iconst (v := 0) F dL_group_2 (by decide) ?_
  refine z_aload_n F dL_group_3 rfl ?_
  refine z_iload_n F dL_group_4 rfl ?_
  refine z_iload_n F dL_group_5 rfl ?_
  refine z_iload_n F dL_group_6 rfl ?_
  refine zx_callVi (w1 := []) (w3 := [(ou, .inl (cL, 1, .inr (.inl f)))]) F (zwk_Xi hM) 0 rfl rfl (zcwV F.2.2.2.2.1 kcX4_group kmL_21 kiX4_group ksX4_group knX4 hdX4_group rfl rfl ⟨(Nat.le_of_ble_eq_true rfl), (Nat.le_of_ble_eq_true rfl)⟩) dL_group_7 rfl rfl rfl (Nat.le_of_ble_eq_true rfl) ⟨(Nat.le_of_ble_eq_true rfl), (Nat.le_of_ble_eq_true rfl)⟩ ?_ ?_
  · rintro _ _ ⟨rfl, rfl⟩
    refine zx_catch F (name := "java/lang/IllegalArgumentException") [⟨0, 12, 15, 24⟩] ⟨0, 12, 19, 13⟩ [] htb (fun z hz => by rcases List.mem_cons.mp hz with rfl | hz; (exact Or.inr ⟨by decide, "java/util/NoSuchElementException", F.2.2.2.2.1 _ klL_24, F.2.2.2.2.2.2.2.1.2 ("java/lang/IllegalArgumentException", "java/util/NoSuchElementException") (List.mem_of_getElem? (i := 1) rfl)⟩); cases hz) rfl (by decide) (F.2.2.2.2.1 _ klL_13) (va_tabs rfl rfl (F.2.2.2.2.2.2.2.1.1.2.2.1 "java/lang/IllegalArgumentException" (List.mem_of_getElem? (i := 0) rfl))) (fun qe => ?_)
    refine z_astore F dL_group_19 (by decide) ?_
    refine z_iconst (v := 2) F dL_group_21 (by decide) ?_
    exact z_iret F hr rfl hlk dL_group_22 ⟨rfl, rfl⟩ (Nat.le_of_ble_eq_true rfl) (Nat.le_of_ble_eq_true rfl)
  rintro v w2 hp
  exact hp.elim

set_option maxHeartbeats 4000000 in
set_option maxRecDepth 100000 in
theorem w_change {l : Launch} {D : va_G} {tys : List (ClassId × FieldType)} {ad : Nat → Nat} {cA : ClassId} {ro lo co ks : Nat → Nat} {nb sl : Nat} {si we ki ap tg : Nat → Nat} {nu : Nat} {bn us : Nat → Nat} {nh ct : Nat} {mk ex : Bool} {ob : Nat → Option Nat} {oc : Nat → Nat} {lc : Nat → Option Nat} {fb fs : Nat → Nat} {cL : ClassId} {ou : Nat} {f : Nat → Int64} {post : Int32 → va_W → Prop} (p0 p1 : Int32) (hM : zMi l yX4_change (zws yX4_change cX4_change 3 (some .int)) { frames := 7, cells := 0, slots := 0, locals := 106 } D zcl ((cA, .int) :: (cL, .long) :: tys) zG [.ref (ad 0), .int p0, .int p1] (wX ad cA ro lo co ks nb sl si we ki ap tg nu bn us nh ct mk ex ob oc lc fb fs) post 0 0) : zMi l yL_change (zwsW yL_change cL_change 5 (some .int) [(0, 10, 13, 24), (0, 10, 17, 13)]) { frames := 8, cells := 0, slots := 0, locals := 128 } D zcl ((cA, .int) :: (cL, .long) :: tys) zG2 [.ref (ad 0), .int p0, .int p1, .ref ou] ((wX ad cA ro lo co ks nb sl si we ki ap tg nu bn us nh ct mk ex ob oc lc fb fs) ++ [(ou, .inl (cL, 1, .inr (.inl f)))]) (fun r w2 => r = 0 ∧ ∃ (v : Int32) (w9 : va_W) (g : Nat → Int64), post v w9 ∧ g 0 = v.toInt64 ∧ w2 = w9 ++ [(ou, .inl (cL, 1, .inr (.inl g)))]) 0 0 := by
  refine z_ofiH (cc := cL_change) (maxL := 5) (ret := (some .int)) (hh := [(0, 10, 13, 24), (0, 10, 17, 13)]) (by decide) rfl (Nat.le_of_ble_eq_true rfl) ?_
  intro p e s m below meth c A F hr hlk htb
  refine z_aload_n F dL_change_0 rfl ?_
  refine z_iconst (v := 0) F dL_change_1 (by decide) ?_
  refine z_aload_n F dL_change_2 rfl ?_
  refine z_iload_n F dL_change_3 rfl ?_
  refine z_iload_n F dL_change_4 rfl ?_
  refine z_callVi (w1 := []) (w3 := [(ou, .inl (cL, 1, .inr (.inl f)))]) F (zwk_Mi hM) 0 rfl rfl (zcwV F.2.2.2.2.1 kcX4_change kmL_26 kiX4_change ksX4_change knX4 hdX4_change rfl rfl ⟨(Nat.le_of_ble_eq_true rfl), (Nat.le_of_ble_eq_true rfl)⟩) dL_change_5 rfl rfl rfl (Nat.le_of_ble_eq_true rfl) ⟨(Nat.le_of_ble_eq_true rfl), (Nat.le_of_ble_eq_true rfl)⟩ ?_
  rintro v w2 hp
  refine z_i2l F dL_change_8 ?_
  refine z_last F (w2.length) 1 (j := 0) dL_change_9 zout_get rfl rfl (by decide) (by decide) ?_
  rw [List.nil_append, zout_set]
  refine z_goto (tgt := 21) F dL_change_10 (by decide) ?_
  refine z_iconst (v := 0) F dL_change_21 (by decide) ?_
  exact z_iret F hr rfl hlk dL_change_22 ⟨rfl, v, w2, _, hp, rfl, rfl⟩ (Nat.le_of_ble_eq_true rfl) (Nat.le_of_ble_eq_true rfl)

set_option maxHeartbeats 4000000 in
set_option maxRecDepth 100000 in
theorem w_change_x1 {l : Launch} {D : va_G} {tys : List (ClassId × FieldType)} {ad : Nat → Nat} {cA : ClassId} {ro lo co ks : Nat → Nat} {nb sl : Nat} {si we ki ap tg : Nat → Nat} {nu : Nat} {bn us : Nat → Nat} {nh ct : Nat} {mk ex : Bool} {ob : Nat → Option Nat} {oc : Nat → Nat} {lc : Nat → Option Nat} {fb fs : Nat → Nat} {cL : ClassId} {ou : Nat} {f : Nat → Int64} (p0 p1 : Int32) (hM : zXi l yX4_change (zws yX4_change cX4_change 3 (some .int)) { frames := 7, cells := 1, slots := 6, locals := 106 } D zcl ((cA, .int) :: (cL, .long) :: tys) zG [.ref (ad 0), .int p0, .int p1] (wX ad cA ro lo co ks nb sl si we ki ap tg nu bn us nh ct mk ex ob oc lc fb fs) (fun _ _ => False) (fun E w2 => E = "java/util/NoSuchElementException" ∧ w2 = (wX ad cA ro lo co ks nb sl si we ki ap tg nu bn us nh ct mk ex ob oc lc fb fs)) 1 6) : zMi l yL_change (zwsW yL_change cL_change 5 (some .int) [(0, 10, 13, 24), (0, 10, 17, 13)]) { frames := 8, cells := 1, slots := 6, locals := 128 } D zcl ((cA, .int) :: (cL, .long) :: tys) zG2 [.ref (ad 0), .int p0, .int p1, .ref ou] ((wX ad cA ro lo co ks nb sl si we ki ap tg nu bn us nh ct mk ex ob oc lc fb fs) ++ [(ou, .inl (cL, 1, .inr (.inl f)))]) (fun r w2 => r = 1 ∧ w2 = ((wX ad cA ro lo co ks nb sl si we ki ap tg nu bn us nh ct mk ex ob oc lc fb fs) ++ [(ou, .inl (cL, 1, .inr (.inl f)))])) 1 6 := by
  refine z_ofiH (cc := cL_change) (maxL := 5) (ret := (some .int)) (hh := [(0, 10, 13, 24), (0, 10, 17, 13)]) (by decide) rfl (Nat.le_of_ble_eq_true rfl) ?_
  intro p e s m below meth c A F hr hlk htb
  refine z_aload_n F dL_change_0 rfl ?_
  refine z_iconst (v := 0) F dL_change_1 (by decide) ?_
  refine z_aload_n F dL_change_2 rfl ?_
  refine z_iload_n F dL_change_3 rfl ?_
  refine z_iload_n F dL_change_4 rfl ?_
  refine zx_callVi (w1 := []) (w3 := [(ou, .inl (cL, 1, .inr (.inl f)))]) F (zwk_Xi hM) 0 rfl rfl (zcwV F.2.2.2.2.1 kcX4_change kmL_26 kiX4_change ksX4_change knX4 hdX4_change rfl rfl ⟨(Nat.le_of_ble_eq_true rfl), (Nat.le_of_ble_eq_true rfl)⟩) dL_change_5 rfl rfl rfl (Nat.le_of_ble_eq_true rfl) ⟨(Nat.le_of_ble_eq_true rfl), (Nat.le_of_ble_eq_true rfl)⟩ ?_ ?_
  · rintro _ _ ⟨rfl, rfl⟩
    refine zx_catch F (name := "java/util/NoSuchElementException") [] ⟨0, 10, 13, 24⟩ [⟨0, 10, 17, 13⟩] htb (fun z hz => by cases hz) rfl (by decide) (F.2.2.2.2.1 _ klL_24) (va_tabs rfl rfl (F.2.2.2.2.2.2.2.1.1.2.2.1 "java/util/NoSuchElementException" (List.mem_of_getElem? (i := 2) rfl))) (fun qe => ?_)
    refine z_astore F dL_change_13 (by decide) ?_
    refine z_iconst (v := 1) F dL_change_15 (by decide) ?_
    exact z_iret F hr rfl hlk dL_change_16 ⟨rfl, rfl⟩ (Nat.le_of_ble_eq_true rfl) (Nat.le_of_ble_eq_true rfl)
  rintro v w2 hp
  exact hp.elim

set_option maxHeartbeats 4000000 in
set_option maxRecDepth 100000 in
theorem w_change_x2 {l : Launch} {D : va_G} {tys : List (ClassId × FieldType)} {ad : Nat → Nat} {cA : ClassId} {ro lo co ks : Nat → Nat} {nb sl : Nat} {si we ki ap tg : Nat → Nat} {nu : Nat} {bn us : Nat → Nat} {nh ct : Nat} {mk ex : Bool} {ob : Nat → Option Nat} {oc : Nat → Nat} {lc : Nat → Option Nat} {fb fs : Nat → Nat} {cL : ClassId} {ou : Nat} {f : Nat → Int64} (p0 p1 : Int32) (hM : zXi l yX4_change (zws yX4_change cX4_change 3 (some .int)) { frames := 7, cells := 1, slots := 6, locals := 106 } D zcl ((cA, .int) :: (cL, .long) :: tys) zG [.ref (ad 0), .int p0, .int p1] (wX ad cA ro lo co ks nb sl si we ki ap tg nu bn us nh ct mk ex ob oc lc fb fs) (fun _ _ => False) (fun E w2 => E = "java/lang/IllegalArgumentException" ∧ w2 = (wX ad cA ro lo co ks nb sl si we ki ap tg nu bn us nh ct mk ex ob oc lc fb fs)) 1 6) : zMi l yL_change (zwsW yL_change cL_change 5 (some .int) [(0, 10, 13, 24), (0, 10, 17, 13)]) { frames := 8, cells := 1, slots := 6, locals := 128 } D zcl ((cA, .int) :: (cL, .long) :: tys) zG2 [.ref (ad 0), .int p0, .int p1, .ref ou] ((wX ad cA ro lo co ks nb sl si we ki ap tg nu bn us nh ct mk ex ob oc lc fb fs) ++ [(ou, .inl (cL, 1, .inr (.inl f)))]) (fun r w2 => r = 2 ∧ w2 = ((wX ad cA ro lo co ks nb sl si we ki ap tg nu bn us nh ct mk ex ob oc lc fb fs) ++ [(ou, .inl (cL, 1, .inr (.inl f)))])) 1 6 := by
  refine z_ofiH (cc := cL_change) (maxL := 5) (ret := (some .int)) (hh := [(0, 10, 13, 24), (0, 10, 17, 13)]) (by decide) rfl (Nat.le_of_ble_eq_true rfl) ?_
  intro p e s m below meth c A F hr hlk htb
  refine z_aload_n F dL_change_0 rfl ?_
  refine z_iconst (v := 0) F dL_change_1 (by decide) ?_
  refine z_aload_n F dL_change_2 rfl ?_
  refine z_iload_n F dL_change_3 rfl ?_
  refine z_iload_n F dL_change_4 rfl ?_
  refine zx_callVi (w1 := []) (w3 := [(ou, .inl (cL, 1, .inr (.inl f)))]) F (zwk_Xi hM) 0 rfl rfl (zcwV F.2.2.2.2.1 kcX4_change kmL_26 kiX4_change ksX4_change knX4 hdX4_change rfl rfl ⟨(Nat.le_of_ble_eq_true rfl), (Nat.le_of_ble_eq_true rfl)⟩) dL_change_5 rfl rfl rfl (Nat.le_of_ble_eq_true rfl) ⟨(Nat.le_of_ble_eq_true rfl), (Nat.le_of_ble_eq_true rfl)⟩ ?_ ?_
  · rintro _ _ ⟨rfl, rfl⟩
    refine zx_catch F (name := "java/lang/IllegalArgumentException") [⟨0, 10, 13, 24⟩] ⟨0, 10, 17, 13⟩ [] htb (fun z hz => by rcases List.mem_cons.mp hz with rfl | hz; (exact Or.inr ⟨by decide, "java/util/NoSuchElementException", F.2.2.2.2.1 _ klL_24, F.2.2.2.2.2.2.2.1.2 ("java/lang/IllegalArgumentException", "java/util/NoSuchElementException") (List.mem_of_getElem? (i := 1) rfl)⟩); cases hz) rfl (by decide) (F.2.2.2.2.1 _ klL_13) (va_tabs rfl rfl (F.2.2.2.2.2.2.2.1.1.2.2.1 "java/lang/IllegalArgumentException" (List.mem_of_getElem? (i := 0) rfl))) (fun qe => ?_)
    refine z_astore F dL_change_17 (by decide) ?_
    refine z_iconst (v := 2) F dL_change_19 (by decide) ?_
    exact z_iret F hr rfl hlk dL_change_20 ⟨rfl, rfl⟩ (Nat.le_of_ble_eq_true rfl) (Nat.le_of_ble_eq_true rfl)
  rintro v w2 hp
  exact hp.elim

set_option maxHeartbeats 4000000 in
set_option maxRecDepth 100000 in
theorem w_slack {l : Launch} {D : va_G} {tys : List (ClassId × FieldType)} {ad : Nat → Nat} {cA : ClassId} {ro lo co ks : Nat → Nat} {nb sl : Nat} {si we ki ap tg : Nat → Nat} {nu : Nat} {bn us : Nat → Nat} {nh ct : Nat} {mk ex : Bool} {ob : Nat → Option Nat} {oc : Nat → Nat} {lc : Nat → Option Nat} {fb fs : Nat → Nat} {cL : ClassId} {ou : Nat} {f : Nat → Int64} {post : va_W → Prop} (p0 : Int32) (hM : zMv l yX4_slack (zws yX4_slack cX4_slack 2 none) { frames := 7, cells := 0, slots := 0, locals := 106 } D zcl ((cA, .int) :: (cL, .long) :: tys) zG [.ref (ad 0), .int p0] (wX ad cA ro lo co ks nb sl si we ki ap tg nu bn us nh ct mk ex ob oc lc fb fs) post 0 0) : zMi l yL_slack (zwsW yL_slack cL_slack 3 (some .int) [(0, 5, 8, 13)]) { frames := 8, cells := 0, slots := 0, locals := 127 } D zcl ((cA, .int) :: (cL, .long) :: tys) zG2 [.ref (ad 0), .int p0] (wX ad cA ro lo co ks nb sl si we ki ap tg nu bn us nh ct mk ex ob oc lc fb fs) (fun r w2 => r = 0 ∧ post w2) 0 0 := by
  refine z_ofiH (cc := cL_slack) (maxL := 3) (ret := (some .int)) (hh := [(0, 5, 8, 13)]) (by decide) rfl (Nat.le_of_ble_eq_true rfl) ?_
  intro p e s m below meth c A F hr hlk htb
  refine z_aload_n F dL_slack_0 rfl ?_
  refine z_iload_n F dL_slack_1 rfl ?_
  refine z_callVv (w1 := []) (w3 := []) F (zwk_Mv hM) 0 rfl rfl (zcwV F.2.2.2.2.1 kcX4_slack kmL_30 kiX4_slack ksX4_slack knX4 hdX4_slack rfl rfl ⟨(Nat.le_of_ble_eq_true rfl), (Nat.le_of_ble_eq_true rfl)⟩) dL_slack_2 rfl rfl rfl (Nat.le_of_ble_eq_true rfl) ⟨(Nat.le_of_ble_eq_true rfl), (Nat.le_of_ble_eq_true rfl)⟩ ?_
  rintro w2 hp
  rw [List.nil_append, List.append_nil]
  refine z_goto (tgt := 11) F dL_slack_5 (by decide) ?_
  refine z_iconst (v := 0) F dL_slack_11 (by decide) ?_
  exact z_iret F hr rfl hlk dL_slack_12 ⟨rfl, hp⟩ (Nat.le_of_ble_eq_true rfl) (Nat.le_of_ble_eq_true rfl)

set_option maxHeartbeats 4000000 in
set_option maxRecDepth 100000 in
theorem w_slack_x1 {l : Launch} {D : va_G} {tys : List (ClassId × FieldType)} {ad : Nat → Nat} {cA : ClassId} {ro lo co ks : Nat → Nat} {nb sl : Nat} {si we ki ap tg : Nat → Nat} {nu : Nat} {bn us : Nat → Nat} {nh ct : Nat} {mk ex : Bool} {ob : Nat → Option Nat} {oc : Nat → Nat} {lc : Nat → Option Nat} {fb fs : Nat → Nat} {cL : ClassId} {ou : Nat} {f : Nat → Int64} (p0 : Int32) (hM : zXv l yX4_slack (zws yX4_slack cX4_slack 2 none) { frames := 7, cells := 1, slots := 6, locals := 106 } D zcl ((cA, .int) :: (cL, .long) :: tys) zG [.ref (ad 0), .int p0] (wX ad cA ro lo co ks nb sl si we ki ap tg nu bn us nh ct mk ex ob oc lc fb fs) (fun _ => False) (fun E w2 => E = "java/lang/IllegalArgumentException" ∧ w2 = (wX ad cA ro lo co ks nb sl si we ki ap tg nu bn us nh ct mk ex ob oc lc fb fs)) 1 6) : zMi l yL_slack (zwsW yL_slack cL_slack 3 (some .int) [(0, 5, 8, 13)]) { frames := 8, cells := 1, slots := 6, locals := 127 } D zcl ((cA, .int) :: (cL, .long) :: tys) zG2 [.ref (ad 0), .int p0] (wX ad cA ro lo co ks nb sl si we ki ap tg nu bn us nh ct mk ex ob oc lc fb fs) (fun r w2 => r = 1 ∧ w2 = (wX ad cA ro lo co ks nb sl si we ki ap tg nu bn us nh ct mk ex ob oc lc fb fs)) 1 6 := by
  refine z_ofiH (cc := cL_slack) (maxL := 3) (ret := (some .int)) (hh := [(0, 5, 8, 13)]) (by decide) rfl (Nat.le_of_ble_eq_true rfl) ?_
  intro p e s m below meth c A F hr hlk htb
  refine z_aload_n F dL_slack_0 rfl ?_
  refine z_iload_n F dL_slack_1 rfl ?_
  refine zx_callVv (w1 := []) (w3 := []) F (zwk_Xv hM) 0 rfl rfl (zcwV F.2.2.2.2.1 kcX4_slack kmL_30 kiX4_slack ksX4_slack knX4 hdX4_slack rfl rfl ⟨(Nat.le_of_ble_eq_true rfl), (Nat.le_of_ble_eq_true rfl)⟩) dL_slack_2 rfl rfl rfl (Nat.le_of_ble_eq_true rfl) ⟨(Nat.le_of_ble_eq_true rfl), (Nat.le_of_ble_eq_true rfl)⟩ ?_ ?_
  · rintro _ _ ⟨rfl, rfl⟩
    refine zx_catch F (name := "java/lang/IllegalArgumentException") [] ⟨0, 5, 8, 13⟩ [] htb (fun z hz => by cases hz) rfl (by decide) (F.2.2.2.2.1 _ klL_13) (va_tabs rfl rfl (F.2.2.2.2.2.2.2.1.1.2.2.1 "java/lang/IllegalArgumentException" (List.mem_of_getElem? (i := 0) rfl))) (fun qe => ?_)
    rw [List.nil_append, List.append_nil]
    refine z_astore_n F dL_slack_8 (by decide) ?_
    refine z_iconst (v := 1) F dL_slack_9 (by decide) ?_
    exact z_iret F hr rfl hlk dL_slack_10 ⟨rfl, rfl⟩ (Nat.le_of_ble_eq_true rfl) (Nat.le_of_ble_eq_true rfl)
  rintro w2 hp
  exact hp.elim

set_option maxHeartbeats 4000000 in
set_option maxRecDepth 100000 in
theorem w_choose {l : Launch} {D : va_G} {tys : List (ClassId × FieldType)} {ad : Nat → Nat} {cA : ClassId} {ro lo co ks : Nat → Nat} {nb sl : Nat} {si we ki ap tg : Nat → Nat} {nu : Nat} {bn us : Nat → Nat} {nh ct : Nat} {mk ex : Bool} {ob : Nat → Option Nat} {oc : Nat → Nat} {lc : Nat → Option Nat} {fb fs : Nat → Nat} {cL : ClassId} {ou : Nat} {f : Nat → Int64} {post : Int32 → va_W → Prop} (p0 : Int32) (hM : zMi l yX4_choose (zws yX4_choose cX4_choose 4 (some .int)) { frames := 7, cells := 0, slots := 0, locals := 154 } D zcl ((cA, .int) :: (cL, .long) :: tys) zG [.ref (ad 0), .int p0] (wX ad cA ro lo co ks nb sl si we ki ap tg nu bn us nh ct mk ex ob oc lc fb fs) post 0 0) : zMi l yL_choose (zwsW yL_choose cL_choose 4 (some .int) [(0, 9, 12, 13)]) { frames := 8, cells := 0, slots := 0, locals := 177 } D zcl ((cA, .int) :: (cL, .long) :: tys) zG2 [.ref (ad 0), .int p0, .ref ou] ((wX ad cA ro lo co ks nb sl si we ki ap tg nu bn us nh ct mk ex ob oc lc fb fs) ++ [(ou, .inl (cL, 1, .inr (.inl f)))]) (fun r w2 => r = 0 ∧ ∃ (v : Int32) (w9 : va_W) (g : Nat → Int64), post v w9 ∧ g 0 = v.toInt64 ∧ w2 = w9 ++ [(ou, .inl (cL, 1, .inr (.inl g)))]) 0 0 := by
  refine z_ofiH (cc := cL_choose) (maxL := 4) (ret := (some .int)) (hh := [(0, 9, 12, 13)]) (by decide) rfl (Nat.le_of_ble_eq_true rfl) ?_
  intro p e s m below meth c A F hr hlk htb
  refine z_aload_n F dL_choose_0 rfl ?_
  refine z_iconst (v := 0) F dL_choose_1 (by decide) ?_
  refine z_aload_n F dL_choose_2 rfl ?_
  refine z_iload_n F dL_choose_3 rfl ?_
  refine z_callVi (w1 := []) (w3 := [(ou, .inl (cL, 1, .inr (.inl f)))]) F (zwk_Mi hM) 0 rfl rfl (zcwV F.2.2.2.2.1 kcX4_choose kmL_34 kiX4_choose ksX4_choose knX4 hdX4_choose rfl rfl ⟨(Nat.le_of_ble_eq_true rfl), (Nat.le_of_ble_eq_true rfl)⟩) dL_choose_4 rfl rfl rfl (Nat.le_of_ble_eq_true rfl) ⟨(Nat.le_of_ble_eq_true rfl), (Nat.le_of_ble_eq_true rfl)⟩ ?_
  rintro v w2 hp
  refine z_i2l F dL_choose_7 ?_
  refine z_last F (w2.length) 1 (j := 0) dL_choose_8 zout_get rfl rfl (by decide) (by decide) ?_
  rw [List.nil_append, zout_set]
  refine z_goto (tgt := 15) F dL_choose_9 (by decide) ?_
  refine z_iconst (v := 0) F dL_choose_15 (by decide) ?_
  exact z_iret F hr rfl hlk dL_choose_16 ⟨rfl, v, w2, _, hp, rfl, rfl⟩ (Nat.le_of_ble_eq_true rfl) (Nat.le_of_ble_eq_true rfl)

set_option maxHeartbeats 4000000 in
set_option maxRecDepth 100000 in
theorem w_choose_x1 {l : Launch} {D : va_G} {tys : List (ClassId × FieldType)} {ad : Nat → Nat} {cA : ClassId} {ro lo co ks : Nat → Nat} {nb sl : Nat} {si we ki ap tg : Nat → Nat} {nu : Nat} {bn us : Nat → Nat} {nh ct : Nat} {mk ex : Bool} {ob : Nat → Option Nat} {oc : Nat → Nat} {lc : Nat → Option Nat} {fb fs : Nat → Nat} {cL : ClassId} {ou : Nat} {f : Nat → Int64} (p0 : Int32) (hM : zXi l yX4_choose (zws yX4_choose cX4_choose 4 (some .int)) { frames := 7, cells := 1, slots := 6, locals := 154 } D zcl ((cA, .int) :: (cL, .long) :: tys) zG [.ref (ad 0), .int p0] (wX ad cA ro lo co ks nb sl si we ki ap tg nu bn us nh ct mk ex ob oc lc fb fs) (fun _ _ => False) (fun E w2 => E = "java/lang/IllegalArgumentException" ∧ w2 = (wX ad cA ro lo co ks nb sl si we ki ap tg nu bn us nh ct mk ex ob oc lc fb fs)) 1 6) : zMi l yL_choose (zwsW yL_choose cL_choose 4 (some .int) [(0, 9, 12, 13)]) { frames := 8, cells := 1, slots := 6, locals := 177 } D zcl ((cA, .int) :: (cL, .long) :: tys) zG2 [.ref (ad 0), .int p0, .ref ou] ((wX ad cA ro lo co ks nb sl si we ki ap tg nu bn us nh ct mk ex ob oc lc fb fs) ++ [(ou, .inl (cL, 1, .inr (.inl f)))]) (fun r w2 => r = 1 ∧ w2 = ((wX ad cA ro lo co ks nb sl si we ki ap tg nu bn us nh ct mk ex ob oc lc fb fs) ++ [(ou, .inl (cL, 1, .inr (.inl f)))])) 1 6 := by
  refine z_ofiH (cc := cL_choose) (maxL := 4) (ret := (some .int)) (hh := [(0, 9, 12, 13)]) (by decide) rfl (Nat.le_of_ble_eq_true rfl) ?_
  intro p e s m below meth c A F hr hlk htb
  refine z_aload_n F dL_choose_0 rfl ?_
  refine z_iconst (v := 0) F dL_choose_1 (by decide) ?_
  refine z_aload_n F dL_choose_2 rfl ?_
  refine z_iload_n F dL_choose_3 rfl ?_
  refine zx_callVi (w1 := []) (w3 := [(ou, .inl (cL, 1, .inr (.inl f)))]) F (zwk_Xi hM) 0 rfl rfl (zcwV F.2.2.2.2.1 kcX4_choose kmL_34 kiX4_choose ksX4_choose knX4 hdX4_choose rfl rfl ⟨(Nat.le_of_ble_eq_true rfl), (Nat.le_of_ble_eq_true rfl)⟩) dL_choose_4 rfl rfl rfl (Nat.le_of_ble_eq_true rfl) ⟨(Nat.le_of_ble_eq_true rfl), (Nat.le_of_ble_eq_true rfl)⟩ ?_ ?_
  · rintro _ _ ⟨rfl, rfl⟩
    refine zx_catch F (name := "java/lang/IllegalArgumentException") [] ⟨0, 9, 12, 13⟩ [] htb (fun z hz => by cases hz) rfl (by decide) (F.2.2.2.2.1 _ klL_13) (va_tabs rfl rfl (F.2.2.2.2.2.2.2.1.1.2.2.1 "java/lang/IllegalArgumentException" (List.mem_of_getElem? (i := 0) rfl))) (fun qe => ?_)
    refine z_astore_n F dL_choose_12 (by decide) ?_
    refine z_iconst (v := 1) F dL_choose_13 (by decide) ?_
    exact z_iret F hr rfl hlk dL_choose_14 ⟨rfl, rfl⟩ (Nat.le_of_ble_eq_true rfl) (Nat.le_of_ble_eq_true rfl)
  rintro v w2 hp
  exact hp.elim

set_option maxHeartbeats 4000000 in
set_option maxRecDepth 100000 in
theorem w_chosen {l : Launch} {D : va_G} {tys : List (ClassId × FieldType)} {ad : Nat → Nat} {cA : ClassId} {ro lo co ks : Nat → Nat} {nb sl : Nat} {si we ki ap tg : Nat → Nat} {nu : Nat} {bn us : Nat → Nat} {nh ct : Nat} {mk ex : Bool} {ob : Nat → Option Nat} {oc : Nat → Nat} {lc : Nat → Option Nat} {fb fs : Nat → Nat} {cL : ClassId} {ou : Nat} {f : Nat → Int64} {post : Int32 → va_W → Prop} (p0 p1 : Int32) (hM : zMi l yX4_chosen (zws yX4_chosen cX4_chosen 3 (some .int)) { frames := 6, cells := 0, slots := 0, locals := 84 } D zcl ((cA, .int) :: (cL, .long) :: tys) zG [.ref (ad 0), .int p0, .int p1] (wX ad cA ro lo co ks nb sl si we ki ap tg nu bn us nh ct mk ex ob oc lc fb fs) post 0 0) : zMi l yL_chosen (zwsW yL_chosen cL_chosen 5 (some .int) [(0, 10, 13, 24), (0, 10, 17, 13)]) { frames := 7, cells := 0, slots := 0, locals := 106 } D zcl ((cA, .int) :: (cL, .long) :: tys) zG2 [.ref (ad 0), .int p0, .int p1, .ref ou] ((wX ad cA ro lo co ks nb sl si we ki ap tg nu bn us nh ct mk ex ob oc lc fb fs) ++ [(ou, .inl (cL, 1, .inr (.inl f)))]) (fun r w2 => r = 0 ∧ ∃ (v : Int32) (w9 : va_W) (g : Nat → Int64), post v w9 ∧ g 0 = v.toInt64 ∧ w2 = w9 ++ [(ou, .inl (cL, 1, .inr (.inl g)))]) 0 0 := by
  refine z_ofiH (cc := cL_chosen) (maxL := 5) (ret := (some .int)) (hh := [(0, 10, 13, 24), (0, 10, 17, 13)]) (by decide) rfl (Nat.le_of_ble_eq_true rfl) ?_
  intro p e s m below meth c A F hr hlk htb
  refine z_aload_n F dL_chosen_0 rfl ?_
  refine z_iconst (v := 0) F dL_chosen_1 (by decide) ?_
  refine z_aload_n F dL_chosen_2 rfl ?_
  refine z_iload_n F dL_chosen_3 rfl ?_
  refine z_iload_n F dL_chosen_4 rfl ?_
  refine z_callVi (w1 := []) (w3 := [(ou, .inl (cL, 1, .inr (.inl f)))]) F (zwk_Mi hM) 0 rfl rfl (zcwV F.2.2.2.2.1 kcX4_chosen kmL_38 kiX4_chosen ksX4_chosen knX4 hdX4_chosen rfl rfl ⟨(Nat.le_of_ble_eq_true rfl), (Nat.le_of_ble_eq_true rfl)⟩) dL_chosen_5 rfl rfl rfl (Nat.le_of_ble_eq_true rfl) ⟨(Nat.le_of_ble_eq_true rfl), (Nat.le_of_ble_eq_true rfl)⟩ ?_
  rintro v w2 hp
  refine z_i2l F dL_chosen_8 ?_
  refine z_last F (w2.length) 1 (j := 0) dL_chosen_9 zout_get rfl rfl (by decide) (by decide) ?_
  rw [List.nil_append, zout_set]
  refine z_goto (tgt := 21) F dL_chosen_10 (by decide) ?_
  refine z_iconst (v := 0) F dL_chosen_21 (by decide) ?_
  exact z_iret F hr rfl hlk dL_chosen_22 ⟨rfl, v, w2, _, hp, rfl, rfl⟩ (Nat.le_of_ble_eq_true rfl) (Nat.le_of_ble_eq_true rfl)

set_option maxHeartbeats 4000000 in
set_option maxRecDepth 100000 in
theorem w_chosen_x1 {l : Launch} {D : va_G} {tys : List (ClassId × FieldType)} {ad : Nat → Nat} {cA : ClassId} {ro lo co ks : Nat → Nat} {nb sl : Nat} {si we ki ap tg : Nat → Nat} {nu : Nat} {bn us : Nat → Nat} {nh ct : Nat} {mk ex : Bool} {ob : Nat → Option Nat} {oc : Nat → Nat} {lc : Nat → Option Nat} {fb fs : Nat → Nat} {cL : ClassId} {ou : Nat} {f : Nat → Int64} (p0 p1 : Int32) (hM : zXi l yX4_chosen (zws yX4_chosen cX4_chosen 3 (some .int)) { frames := 6, cells := 1, slots := 6, locals := 84 } D zcl ((cA, .int) :: (cL, .long) :: tys) zG [.ref (ad 0), .int p0, .int p1] (wX ad cA ro lo co ks nb sl si we ki ap tg nu bn us nh ct mk ex ob oc lc fb fs) (fun _ _ => False) (fun E w2 => E = "java/util/NoSuchElementException" ∧ w2 = (wX ad cA ro lo co ks nb sl si we ki ap tg nu bn us nh ct mk ex ob oc lc fb fs)) 1 6) : zMi l yL_chosen (zwsW yL_chosen cL_chosen 5 (some .int) [(0, 10, 13, 24), (0, 10, 17, 13)]) { frames := 7, cells := 1, slots := 6, locals := 106 } D zcl ((cA, .int) :: (cL, .long) :: tys) zG2 [.ref (ad 0), .int p0, .int p1, .ref ou] ((wX ad cA ro lo co ks nb sl si we ki ap tg nu bn us nh ct mk ex ob oc lc fb fs) ++ [(ou, .inl (cL, 1, .inr (.inl f)))]) (fun r w2 => r = 1 ∧ w2 = ((wX ad cA ro lo co ks nb sl si we ki ap tg nu bn us nh ct mk ex ob oc lc fb fs) ++ [(ou, .inl (cL, 1, .inr (.inl f)))])) 1 6 := by
  refine z_ofiH (cc := cL_chosen) (maxL := 5) (ret := (some .int)) (hh := [(0, 10, 13, 24), (0, 10, 17, 13)]) (by decide) rfl (Nat.le_of_ble_eq_true rfl) ?_
  intro p e s m below meth c A F hr hlk htb
  refine z_aload_n F dL_chosen_0 rfl ?_
  refine z_iconst (v := 0) F dL_chosen_1 (by decide) ?_
  refine z_aload_n F dL_chosen_2 rfl ?_
  refine z_iload_n F dL_chosen_3 rfl ?_
  refine z_iload_n F dL_chosen_4 rfl ?_
  refine zx_callVi (w1 := []) (w3 := [(ou, .inl (cL, 1, .inr (.inl f)))]) F (zwk_Xi hM) 0 rfl rfl (zcwV F.2.2.2.2.1 kcX4_chosen kmL_38 kiX4_chosen ksX4_chosen knX4 hdX4_chosen rfl rfl ⟨(Nat.le_of_ble_eq_true rfl), (Nat.le_of_ble_eq_true rfl)⟩) dL_chosen_5 rfl rfl rfl (Nat.le_of_ble_eq_true rfl) ⟨(Nat.le_of_ble_eq_true rfl), (Nat.le_of_ble_eq_true rfl)⟩ ?_ ?_
  · rintro _ _ ⟨rfl, rfl⟩
    refine zx_catch F (name := "java/util/NoSuchElementException") [] ⟨0, 10, 13, 24⟩ [⟨0, 10, 17, 13⟩] htb (fun z hz => by cases hz) rfl (by decide) (F.2.2.2.2.1 _ klL_24) (va_tabs rfl rfl (F.2.2.2.2.2.2.2.1.1.2.2.1 "java/util/NoSuchElementException" (List.mem_of_getElem? (i := 2) rfl))) (fun qe => ?_)
    refine z_astore F dL_chosen_13 (by decide) ?_
    refine z_iconst (v := 1) F dL_chosen_15 (by decide) ?_
    exact z_iret F hr rfl hlk dL_chosen_16 ⟨rfl, rfl⟩ (Nat.le_of_ble_eq_true rfl) (Nat.le_of_ble_eq_true rfl)
  rintro v w2 hp
  exact hp.elim

set_option maxHeartbeats 4000000 in
set_option maxRecDepth 100000 in
theorem w_chosen_x2 {l : Launch} {D : va_G} {tys : List (ClassId × FieldType)} {ad : Nat → Nat} {cA : ClassId} {ro lo co ks : Nat → Nat} {nb sl : Nat} {si we ki ap tg : Nat → Nat} {nu : Nat} {bn us : Nat → Nat} {nh ct : Nat} {mk ex : Bool} {ob : Nat → Option Nat} {oc : Nat → Nat} {lc : Nat → Option Nat} {fb fs : Nat → Nat} {cL : ClassId} {ou : Nat} {f : Nat → Int64} (p0 p1 : Int32) (hM : zXi l yX4_chosen (zws yX4_chosen cX4_chosen 3 (some .int)) { frames := 6, cells := 1, slots := 6, locals := 84 } D zcl ((cA, .int) :: (cL, .long) :: tys) zG [.ref (ad 0), .int p0, .int p1] (wX ad cA ro lo co ks nb sl si we ki ap tg nu bn us nh ct mk ex ob oc lc fb fs) (fun _ _ => False) (fun E w2 => E = "java/lang/IllegalArgumentException" ∧ w2 = (wX ad cA ro lo co ks nb sl si we ki ap tg nu bn us nh ct mk ex ob oc lc fb fs)) 1 6) : zMi l yL_chosen (zwsW yL_chosen cL_chosen 5 (some .int) [(0, 10, 13, 24), (0, 10, 17, 13)]) { frames := 7, cells := 1, slots := 6, locals := 106 } D zcl ((cA, .int) :: (cL, .long) :: tys) zG2 [.ref (ad 0), .int p0, .int p1, .ref ou] ((wX ad cA ro lo co ks nb sl si we ki ap tg nu bn us nh ct mk ex ob oc lc fb fs) ++ [(ou, .inl (cL, 1, .inr (.inl f)))]) (fun r w2 => r = 2 ∧ w2 = ((wX ad cA ro lo co ks nb sl si we ki ap tg nu bn us nh ct mk ex ob oc lc fb fs) ++ [(ou, .inl (cL, 1, .inr (.inl f)))])) 1 6 := by
  refine z_ofiH (cc := cL_chosen) (maxL := 5) (ret := (some .int)) (hh := [(0, 10, 13, 24), (0, 10, 17, 13)]) (by decide) rfl (Nat.le_of_ble_eq_true rfl) ?_
  intro p e s m below meth c A F hr hlk htb
  refine z_aload_n F dL_chosen_0 rfl ?_
  refine z_iconst (v := 0) F dL_chosen_1 (by decide) ?_
  refine z_aload_n F dL_chosen_2 rfl ?_
  refine z_iload_n F dL_chosen_3 rfl ?_
  refine z_iload_n F dL_chosen_4 rfl ?_
  refine zx_callVi (w1 := []) (w3 := [(ou, .inl (cL, 1, .inr (.inl f)))]) F (zwk_Xi hM) 0 rfl rfl (zcwV F.2.2.2.2.1 kcX4_chosen kmL_38 kiX4_chosen ksX4_chosen knX4 hdX4_chosen rfl rfl ⟨(Nat.le_of_ble_eq_true rfl), (Nat.le_of_ble_eq_true rfl)⟩) dL_chosen_5 rfl rfl rfl (Nat.le_of_ble_eq_true rfl) ⟨(Nat.le_of_ble_eq_true rfl), (Nat.le_of_ble_eq_true rfl)⟩ ?_ ?_
  · rintro _ _ ⟨rfl, rfl⟩
    refine zx_catch F (name := "java/lang/IllegalArgumentException") [⟨0, 10, 13, 24⟩] ⟨0, 10, 17, 13⟩ [] htb (fun z hz => by rcases List.mem_cons.mp hz with rfl | hz; (exact Or.inr ⟨by decide, "java/util/NoSuchElementException", F.2.2.2.2.1 _ klL_24, F.2.2.2.2.2.2.2.1.2 ("java/lang/IllegalArgumentException", "java/util/NoSuchElementException") (List.mem_of_getElem? (i := 1) rfl)⟩); cases hz) rfl (by decide) (F.2.2.2.2.1 _ klL_13) (va_tabs rfl rfl (F.2.2.2.2.2.2.2.1.1.2.2.1 "java/lang/IllegalArgumentException" (List.mem_of_getElem? (i := 0) rfl))) (fun qe => ?_)
    refine z_astore F dL_chosen_17 (by decide) ?_
    refine z_iconst (v := 2) F dL_chosen_19 (by decide) ?_
    exact z_iret F hr rfl hlk dL_chosen_20 ⟨rfl, rfl⟩ (Nat.le_of_ble_eq_true rfl) (Nat.le_of_ble_eq_true rfl)
  rintro v w2 hp
  exact hp.elim

set_option maxHeartbeats 4000000 in
set_option maxRecDepth 100000 in
theorem w_where {l : Launch} {D : va_G} {tys : List (ClassId × FieldType)} {ad : Nat → Nat} {cA : ClassId} {ro lo co ks : Nat → Nat} {nb sl : Nat} {si we ki ap tg : Nat → Nat} {nu : Nat} {bn us : Nat → Nat} {nh ct : Nat} {mk ex : Bool} {ob : Nat → Option Nat} {oc : Nat → Nat} {lc : Nat → Option Nat} {fb fs : Nat → Nat} {cL : ClassId} {ou : Nat} {f : Nat → Int64} {post : Int32 → va_W → Prop} (p0 : Int32) (hM : zMi l yX4_where (zws yX4_where cX4_where 2 (some .int)) { frames := 7, cells := 0, slots := 0, locals := 105 } D zcl ((cA, .int) :: (cL, .long) :: tys) zG [.ref (ad 0), .int p0] (wX ad cA ro lo co ks nb sl si we ki ap tg nu bn us nh ct mk ex ob oc lc fb fs) post 0 0) : zMi l yL_where (zwsW yL_where cL_where 4 (some .int) [(0, 9, 12, 24)]) { frames := 8, cells := 0, slots := 0, locals := 126 } D zcl ((cA, .int) :: (cL, .long) :: tys) zG2 [.ref (ad 0), .int p0, .ref ou] ((wX ad cA ro lo co ks nb sl si we ki ap tg nu bn us nh ct mk ex ob oc lc fb fs) ++ [(ou, .inl (cL, 1, .inr (.inl f)))]) (fun r w2 => r = 0 ∧ ∃ (v : Int32) (w9 : va_W) (g : Nat → Int64), post v w9 ∧ g 0 = v.toInt64 ∧ w2 = w9 ++ [(ou, .inl (cL, 1, .inr (.inl g)))]) 0 0 := by
  refine z_ofiH (cc := cL_where) (maxL := 4) (ret := (some .int)) (hh := [(0, 9, 12, 24)]) (by decide) rfl (Nat.le_of_ble_eq_true rfl) ?_
  intro p e s m below meth c A F hr hlk htb
  refine z_aload_n F dL_where_0 rfl ?_
  refine z_iconst (v := 0) F dL_where_1 (by decide) ?_
  refine z_aload_n F dL_where_2 rfl ?_
  refine z_iload_n F dL_where_3 rfl ?_
  refine z_callVi (w1 := []) (w3 := [(ou, .inl (cL, 1, .inr (.inl f)))]) F (zwk_Mi hM) 0 rfl rfl (zcwV F.2.2.2.2.1 kcX4_where kmL_41 kiX4_where ksX4_where knX4 hdX4_where rfl rfl ⟨(Nat.le_of_ble_eq_true rfl), (Nat.le_of_ble_eq_true rfl)⟩) dL_where_4 rfl rfl rfl (Nat.le_of_ble_eq_true rfl) ⟨(Nat.le_of_ble_eq_true rfl), (Nat.le_of_ble_eq_true rfl)⟩ ?_
  rintro v w2 hp
  refine z_i2l F dL_where_7 ?_
  refine z_last F (w2.length) 1 (j := 0) dL_where_8 zout_get rfl rfl (by decide) (by decide) ?_
  rw [List.nil_append, zout_set]
  refine z_goto (tgt := 15) F dL_where_9 (by decide) ?_
  refine z_iconst (v := 0) F dL_where_15 (by decide) ?_
  exact z_iret F hr rfl hlk dL_where_16 ⟨rfl, v, w2, _, hp, rfl, rfl⟩ (Nat.le_of_ble_eq_true rfl) (Nat.le_of_ble_eq_true rfl)

set_option maxHeartbeats 4000000 in
set_option maxRecDepth 100000 in
theorem w_where_x1 {l : Launch} {D : va_G} {tys : List (ClassId × FieldType)} {ad : Nat → Nat} {cA : ClassId} {ro lo co ks : Nat → Nat} {nb sl : Nat} {si we ki ap tg : Nat → Nat} {nu : Nat} {bn us : Nat → Nat} {nh ct : Nat} {mk ex : Bool} {ob : Nat → Option Nat} {oc : Nat → Nat} {lc : Nat → Option Nat} {fb fs : Nat → Nat} {cL : ClassId} {ou : Nat} {f : Nat → Int64} (p0 : Int32) (hM : zXi l yX4_where (zws yX4_where cX4_where 2 (some .int)) { frames := 7, cells := 1, slots := 6, locals := 105 } D zcl ((cA, .int) :: (cL, .long) :: tys) zG [.ref (ad 0), .int p0] (wX ad cA ro lo co ks nb sl si we ki ap tg nu bn us nh ct mk ex ob oc lc fb fs) (fun _ _ => False) (fun E w2 => E = "java/util/NoSuchElementException" ∧ w2 = (wX ad cA ro lo co ks nb sl si we ki ap tg nu bn us nh ct mk ex ob oc lc fb fs)) 1 6) : zMi l yL_where (zwsW yL_where cL_where 4 (some .int) [(0, 9, 12, 24)]) { frames := 8, cells := 1, slots := 6, locals := 126 } D zcl ((cA, .int) :: (cL, .long) :: tys) zG2 [.ref (ad 0), .int p0, .ref ou] ((wX ad cA ro lo co ks nb sl si we ki ap tg nu bn us nh ct mk ex ob oc lc fb fs) ++ [(ou, .inl (cL, 1, .inr (.inl f)))]) (fun r w2 => r = 1 ∧ w2 = ((wX ad cA ro lo co ks nb sl si we ki ap tg nu bn us nh ct mk ex ob oc lc fb fs) ++ [(ou, .inl (cL, 1, .inr (.inl f)))])) 1 6 := by
  refine z_ofiH (cc := cL_where) (maxL := 4) (ret := (some .int)) (hh := [(0, 9, 12, 24)]) (by decide) rfl (Nat.le_of_ble_eq_true rfl) ?_
  intro p e s m below meth c A F hr hlk htb
  refine z_aload_n F dL_where_0 rfl ?_
  refine z_iconst (v := 0) F dL_where_1 (by decide) ?_
  refine z_aload_n F dL_where_2 rfl ?_
  refine z_iload_n F dL_where_3 rfl ?_
  refine zx_callVi (w1 := []) (w3 := [(ou, .inl (cL, 1, .inr (.inl f)))]) F (zwk_Xi hM) 0 rfl rfl (zcwV F.2.2.2.2.1 kcX4_where kmL_41 kiX4_where ksX4_where knX4 hdX4_where rfl rfl ⟨(Nat.le_of_ble_eq_true rfl), (Nat.le_of_ble_eq_true rfl)⟩) dL_where_4 rfl rfl rfl (Nat.le_of_ble_eq_true rfl) ⟨(Nat.le_of_ble_eq_true rfl), (Nat.le_of_ble_eq_true rfl)⟩ ?_ ?_
  · rintro _ _ ⟨rfl, rfl⟩
    refine zx_catch F (name := "java/util/NoSuchElementException") [] ⟨0, 9, 12, 24⟩ [] htb (fun z hz => by cases hz) rfl (by decide) (F.2.2.2.2.1 _ klL_24) (va_tabs rfl rfl (F.2.2.2.2.2.2.2.1.1.2.2.1 "java/util/NoSuchElementException" (List.mem_of_getElem? (i := 2) rfl))) (fun qe => ?_)
    refine z_astore_n F dL_where_12 (by decide) ?_
    refine z_iconst (v := 1) F dL_where_13 (by decide) ?_
    exact z_iret F hr rfl hlk dL_where_14 ⟨rfl, rfl⟩ (Nat.le_of_ble_eq_true rfl) (Nat.le_of_ble_eq_true rfl)
  rintro v w2 hp
  exact hp.elim

set_option maxHeartbeats 4000000 in
set_option maxRecDepth 100000 in
theorem w_bar {l : Launch} {D : va_G} {tys : List (ClassId × FieldType)} {ad : Nat → Nat} {cA : ClassId} {ro lo co ks : Nat → Nat} {nb sl : Nat} {si we ki ap tg : Nat → Nat} {nu : Nat} {bn us : Nat → Nat} {nh ct : Nat} {mk ex : Bool} {ob : Nat → Option Nat} {oc : Nat → Nat} {lc : Nat → Option Nat} {fb fs : Nat → Nat} {cL : ClassId} {ou : Nat} {f : Nat → Int64} {post : Int32 → va_W → Prop} (p0 : Int32) (hM : zMi l yX4_bar (zws yX4_bar cX4_bar 4 (some .int)) { frames := 7, cells := 0, slots := 0, locals := 105 } D zcl ((cA, .int) :: (cL, .long) :: tys) zG [.ref (ad 0), .int p0] (wX ad cA ro lo co ks nb sl si we ki ap tg nu bn us nh ct mk ex ob oc lc fb fs) post 0 0) : zMi l yL_bar (zwsW yL_bar cL_bar 4 (some .int) [(0, 9, 12, 24)]) { frames := 8, cells := 0, slots := 0, locals := 128 } D zcl ((cA, .int) :: (cL, .long) :: tys) zG2 [.ref (ad 0), .int p0, .ref ou] ((wX ad cA ro lo co ks nb sl si we ki ap tg nu bn us nh ct mk ex ob oc lc fb fs) ++ [(ou, .inl (cL, 1, .inr (.inl f)))]) (fun r w2 => r = 0 ∧ ∃ (v : Int32) (w9 : va_W) (g : Nat → Int64), post v w9 ∧ g 0 = v.toInt64 ∧ w2 = w9 ++ [(ou, .inl (cL, 1, .inr (.inl g)))]) 0 0 := by
  refine z_ofiH (cc := cL_bar) (maxL := 4) (ret := (some .int)) (hh := [(0, 9, 12, 24)]) (by decide) rfl (Nat.le_of_ble_eq_true rfl) ?_
  intro p e s m below meth c A F hr hlk htb
  refine z_aload_n F dL_bar_0 rfl ?_
  refine z_iconst (v := 0) F dL_bar_1 (by decide) ?_
  refine z_aload_n F dL_bar_2 rfl ?_
  refine z_iload_n F dL_bar_3 rfl ?_
  refine z_callVi (w1 := []) (w3 := [(ou, .inl (cL, 1, .inr (.inl f)))]) F (zwk_Mi hM) 0 rfl rfl (zcwV F.2.2.2.2.1 kcX4_bar kmL_44 kiX4_bar ksX4_bar knX4 hdX4_bar rfl rfl ⟨(Nat.le_of_ble_eq_true rfl), (Nat.le_of_ble_eq_true rfl)⟩) dL_bar_4 rfl rfl rfl (Nat.le_of_ble_eq_true rfl) ⟨(Nat.le_of_ble_eq_true rfl), (Nat.le_of_ble_eq_true rfl)⟩ ?_
  rintro v w2 hp
  refine z_i2l F dL_bar_7 ?_
  refine z_last F (w2.length) 1 (j := 0) dL_bar_8 zout_get rfl rfl (by decide) (by decide) ?_
  rw [List.nil_append, zout_set]
  refine z_goto (tgt := 15) F dL_bar_9 (by decide) ?_
  refine z_iconst (v := 0) F dL_bar_15 (by decide) ?_
  exact z_iret F hr rfl hlk dL_bar_16 ⟨rfl, v, w2, _, hp, rfl, rfl⟩ (Nat.le_of_ble_eq_true rfl) (Nat.le_of_ble_eq_true rfl)

set_option maxHeartbeats 4000000 in
set_option maxRecDepth 100000 in
theorem w_bar_x1 {l : Launch} {D : va_G} {tys : List (ClassId × FieldType)} {ad : Nat → Nat} {cA : ClassId} {ro lo co ks : Nat → Nat} {nb sl : Nat} {si we ki ap tg : Nat → Nat} {nu : Nat} {bn us : Nat → Nat} {nh ct : Nat} {mk ex : Bool} {ob : Nat → Option Nat} {oc : Nat → Nat} {lc : Nat → Option Nat} {fb fs : Nat → Nat} {cL : ClassId} {ou : Nat} {f : Nat → Int64} (p0 : Int32) (hM : zXi l yX4_bar (zws yX4_bar cX4_bar 4 (some .int)) { frames := 7, cells := 1, slots := 6, locals := 105 } D zcl ((cA, .int) :: (cL, .long) :: tys) zG [.ref (ad 0), .int p0] (wX ad cA ro lo co ks nb sl si we ki ap tg nu bn us nh ct mk ex ob oc lc fb fs) (fun _ _ => False) (fun E w2 => E = "java/util/NoSuchElementException" ∧ w2 = (wX ad cA ro lo co ks nb sl si we ki ap tg nu bn us nh ct mk ex ob oc lc fb fs)) 1 6) : zMi l yL_bar (zwsW yL_bar cL_bar 4 (some .int) [(0, 9, 12, 24)]) { frames := 8, cells := 1, slots := 6, locals := 128 } D zcl ((cA, .int) :: (cL, .long) :: tys) zG2 [.ref (ad 0), .int p0, .ref ou] ((wX ad cA ro lo co ks nb sl si we ki ap tg nu bn us nh ct mk ex ob oc lc fb fs) ++ [(ou, .inl (cL, 1, .inr (.inl f)))]) (fun r w2 => r = 1 ∧ w2 = ((wX ad cA ro lo co ks nb sl si we ki ap tg nu bn us nh ct mk ex ob oc lc fb fs) ++ [(ou, .inl (cL, 1, .inr (.inl f)))])) 1 6 := by
  refine z_ofiH (cc := cL_bar) (maxL := 4) (ret := (some .int)) (hh := [(0, 9, 12, 24)]) (by decide) rfl (Nat.le_of_ble_eq_true rfl) ?_
  intro p e s m below meth c A F hr hlk htb
  refine z_aload_n F dL_bar_0 rfl ?_
  refine z_iconst (v := 0) F dL_bar_1 (by decide) ?_
  refine z_aload_n F dL_bar_2 rfl ?_
  refine z_iload_n F dL_bar_3 rfl ?_
  refine zx_callVi (w1 := []) (w3 := [(ou, .inl (cL, 1, .inr (.inl f)))]) F (zwk_Xi hM) 0 rfl rfl (zcwV F.2.2.2.2.1 kcX4_bar kmL_44 kiX4_bar ksX4_bar knX4 hdX4_bar rfl rfl ⟨(Nat.le_of_ble_eq_true rfl), (Nat.le_of_ble_eq_true rfl)⟩) dL_bar_4 rfl rfl rfl (Nat.le_of_ble_eq_true rfl) ⟨(Nat.le_of_ble_eq_true rfl), (Nat.le_of_ble_eq_true rfl)⟩ ?_ ?_
  · rintro _ _ ⟨rfl, rfl⟩
    refine zx_catch F (name := "java/util/NoSuchElementException") [] ⟨0, 9, 12, 24⟩ [] htb (fun z hz => by cases hz) rfl (by decide) (F.2.2.2.2.1 _ klL_24) (va_tabs rfl rfl (F.2.2.2.2.2.2.2.1.1.2.2.1 "java/util/NoSuchElementException" (List.mem_of_getElem? (i := 2) rfl))) (fun qe => ?_)
    refine z_astore_n F dL_bar_12 (by decide) ?_
    refine z_iconst (v := 1) F dL_bar_13 (by decide) ?_
    exact z_iret F hr rfl hlk dL_bar_14 ⟨rfl, rfl⟩ (Nat.le_of_ble_eq_true rfl) (Nat.le_of_ble_eq_true rfl)
  rintro v w2 hp
  exact hp.elim

set_option maxHeartbeats 4000000 in
set_option maxRecDepth 100000 in
theorem w_fits {l : Launch} {D : va_G} {tys : List (ClassId × FieldType)} {ad : Nat → Nat} {cA : ClassId} {ro lo co ks : Nat → Nat} {nb sl : Nat} {si we ki ap tg : Nat → Nat} {nu : Nat} {bn us : Nat → Nat} {nh ct : Nat} {mk ex : Bool} {ob : Nat → Option Nat} {oc : Nat → Nat} {lc : Nat → Option Nat} {fb fs : Nat → Nat} {cL : ClassId} {ou : Nat} {f : Nat → Int64} {post : Int32 → va_W → Prop} (p0 p1 : Int32) (hM : zMi l yX4_fits (zws yX4_fits cX4_fits 3 (some .boolean)) { frames := 7, cells := 0, slots := 0, locals := 105 } D zcl ((cA, .int) :: (cL, .long) :: tys) zG [.ref (ad 0), .int p0, .int p1] (wX ad cA ro lo co ks nb sl si we ki ap tg nu bn us nh ct mk ex ob oc lc fb fs) post 0 0) : zMi l yL_fits (zwsW yL_fits cL_fits 5 (some .int) [(0, 17, 20, 24)]) { frames := 8, cells := 0, slots := 0, locals := 127 } D zcl ((cA, .int) :: (cL, .long) :: tys) zG2 [.ref (ad 0), .int p0, .int p1, .ref ou] ((wX ad cA ro lo co ks nb sl si we ki ap tg nu bn us nh ct mk ex ob oc lc fb fs) ++ [(ou, .inl (cL, 1, .inr (.inl f)))]) (fun r w2 => r = 0 ∧ ∃ (v : Int32) (w9 : va_W) (g : Nat → Int64), post v w9 ∧ g 0 = zl01 v ∧ w2 = w9 ++ [(ou, .inl (cL, 1, .inr (.inl g)))]) 0 0 := by
  refine z_ofiH (cc := cL_fits) (maxL := 5) (ret := (some .int)) (hh := [(0, 17, 20, 24)]) (by decide) rfl (Nat.le_of_ble_eq_true rfl) ?_
  intro p e s m below meth c A F hr hlk htb
  refine z_aload_n F dL_fits_0 rfl ?_
  refine z_iconst (v := 0) F dL_fits_1 (by decide) ?_
  refine z_aload_n F dL_fits_2 rfl ?_
  refine z_iload_n F dL_fits_3 rfl ?_
  refine z_iload_n F dL_fits_4 rfl ?_
  refine z_callVi (w1 := []) (w3 := [(ou, .inl (cL, 1, .inr (.inl f)))]) F (zwk_Mi hM) 0 rfl rfl (zcwV F.2.2.2.2.1 kcX4_fits kmL_47 kiX4_fits ksX4_fits knX4 hdX4_fits rfl rfl ⟨(Nat.le_of_ble_eq_true rfl), (Nat.le_of_ble_eq_true rfl)⟩) dL_fits_5 rfl rfl rfl (Nat.le_of_ble_eq_true rfl) ⟨(Nat.le_of_ble_eq_true rfl), (Nat.le_of_ble_eq_true rfl)⟩ ?_
  rintro v w2 hp
  refine z_if_eq (tgt := 15) F dL_fits_8 (by decide) (fun c8 => ?_) (fun c8 => ?_)
  · refine z_lconst (v := 0) F dL_fits_15 (by decide) ?_
    refine z_last F (w2.length) 1 (j := 0) dL_fits_16 zout_get rfl rfl (by decide) (by decide) ?_
    rw [List.nil_append, zout_set]
    refine z_goto (tgt := 24) F dL_fits_17 (by decide) ?_
    refine z_iconst (v := 0) F dL_fits_24 (by decide) ?_
    exact z_iret F hr rfl hlk dL_fits_25 ⟨rfl, v, w2, _, hp, by rw [show zl01 v = 0 from if_pos c8]; rfl, rfl⟩ (Nat.le_of_ble_eq_true rfl) (Nat.le_of_ble_eq_true rfl)
  · refine z_lconst (v := 1) F dL_fits_11 (by decide) ?_
    refine z_goto (tgt := 16) F dL_fits_12 (by decide) ?_
    refine z_last F (w2.length) 1 (j := 0) dL_fits_16 zout_get rfl rfl (by decide) (by decide) ?_
    rw [List.nil_append, zout_set]
    refine z_goto (tgt := 24) F dL_fits_17 (by decide) ?_
    refine z_iconst (v := 0) F dL_fits_24 (by decide) ?_
    exact z_iret F hr rfl hlk dL_fits_25 ⟨rfl, v, w2, _, hp, by rw [show zl01 v = 1 from if_neg c8]; rfl, rfl⟩ (Nat.le_of_ble_eq_true rfl) (Nat.le_of_ble_eq_true rfl)

set_option maxHeartbeats 4000000 in
set_option maxRecDepth 100000 in
theorem w_fits_x1 {l : Launch} {D : va_G} {tys : List (ClassId × FieldType)} {ad : Nat → Nat} {cA : ClassId} {ro lo co ks : Nat → Nat} {nb sl : Nat} {si we ki ap tg : Nat → Nat} {nu : Nat} {bn us : Nat → Nat} {nh ct : Nat} {mk ex : Bool} {ob : Nat → Option Nat} {oc : Nat → Nat} {lc : Nat → Option Nat} {fb fs : Nat → Nat} {cL : ClassId} {ou : Nat} {f : Nat → Int64} (p0 p1 : Int32) (hM : zXi l yX4_fits (zws yX4_fits cX4_fits 3 (some .boolean)) { frames := 7, cells := 1, slots := 6, locals := 105 } D zcl ((cA, .int) :: (cL, .long) :: tys) zG [.ref (ad 0), .int p0, .int p1] (wX ad cA ro lo co ks nb sl si we ki ap tg nu bn us nh ct mk ex ob oc lc fb fs) (fun _ _ => False) (fun E w2 => E = "java/util/NoSuchElementException" ∧ w2 = (wX ad cA ro lo co ks nb sl si we ki ap tg nu bn us nh ct mk ex ob oc lc fb fs)) 1 6) : zMi l yL_fits (zwsW yL_fits cL_fits 5 (some .int) [(0, 17, 20, 24)]) { frames := 8, cells := 1, slots := 6, locals := 127 } D zcl ((cA, .int) :: (cL, .long) :: tys) zG2 [.ref (ad 0), .int p0, .int p1, .ref ou] ((wX ad cA ro lo co ks nb sl si we ki ap tg nu bn us nh ct mk ex ob oc lc fb fs) ++ [(ou, .inl (cL, 1, .inr (.inl f)))]) (fun r w2 => r = 1 ∧ w2 = ((wX ad cA ro lo co ks nb sl si we ki ap tg nu bn us nh ct mk ex ob oc lc fb fs) ++ [(ou, .inl (cL, 1, .inr (.inl f)))])) 1 6 := by
  refine z_ofiH (cc := cL_fits) (maxL := 5) (ret := (some .int)) (hh := [(0, 17, 20, 24)]) (by decide) rfl (Nat.le_of_ble_eq_true rfl) ?_
  intro p e s m below meth c A F hr hlk htb
  refine z_aload_n F dL_fits_0 rfl ?_
  refine z_iconst (v := 0) F dL_fits_1 (by decide) ?_
  refine z_aload_n F dL_fits_2 rfl ?_
  refine z_iload_n F dL_fits_3 rfl ?_
  refine z_iload_n F dL_fits_4 rfl ?_
  refine zx_callVi (w1 := []) (w3 := [(ou, .inl (cL, 1, .inr (.inl f)))]) F (zwk_Xi hM) 0 rfl rfl (zcwV F.2.2.2.2.1 kcX4_fits kmL_47 kiX4_fits ksX4_fits knX4 hdX4_fits rfl rfl ⟨(Nat.le_of_ble_eq_true rfl), (Nat.le_of_ble_eq_true rfl)⟩) dL_fits_5 rfl rfl rfl (Nat.le_of_ble_eq_true rfl) ⟨(Nat.le_of_ble_eq_true rfl), (Nat.le_of_ble_eq_true rfl)⟩ ?_ ?_
  · rintro _ _ ⟨rfl, rfl⟩
    refine zx_catch F (name := "java/util/NoSuchElementException") [] ⟨0, 17, 20, 24⟩ [] htb (fun z hz => by cases hz) rfl (by decide) (F.2.2.2.2.1 _ klL_24) (va_tabs rfl rfl (F.2.2.2.2.2.2.2.1.1.2.2.1 "java/util/NoSuchElementException" (List.mem_of_getElem? (i := 2) rfl))) (fun qe => ?_)
    refine z_astore F dL_fits_20 (by decide) ?_
    refine z_iconst (v := 1) F dL_fits_22 (by decide) ?_
    exact z_iret F hr rfl hlk dL_fits_23 ⟨rfl, rfl⟩ (Nat.le_of_ble_eq_true rfl) (Nat.le_of_ble_eq_true rfl)
  rintro v w2 hp
  exact hp.elim

set_option maxHeartbeats 4000000 in
set_option maxRecDepth 100000 in
theorem w_used {l : Launch} {D : va_G} {tys : List (ClassId × FieldType)} {ad : Nat → Nat} {cA : ClassId} {ro lo co ks : Nat → Nat} {nb sl : Nat} {si we ki ap tg : Nat → Nat} {nu : Nat} {bn us : Nat → Nat} {nh ct : Nat} {mk ex : Bool} {ob : Nat → Option Nat} {oc : Nat → Nat} {lc : Nat → Option Nat} {fb fs : Nat → Nat} {cL : ClassId} {ou : Nat} {f : Nat → Int64} {post : Int32 → va_W → Prop} (p0 : Int32) (hM : zMi l yX4_used (zws yX4_used cX4_used 5 (some .int)) { frames := 7, cells := 0, slots := 0, locals := 106 } D zcl ((cA, .int) :: (cL, .long) :: tys) zG [.ref (ad 0), .int p0] (wX ad cA ro lo co ks nb sl si we ki ap tg nu bn us nh ct mk ex ob oc lc fb fs) post 0 0) : zMi l yL_used (zwsW yL_used cL_used 4 (some .int) [(0, 9, 12, 13), (0, 9, 15, 54), (0, 9, 18, 56)]) { frames := 8, cells := 0, slots := 0, locals := 130 } D zcl ((cA, .int) :: (cL, .long) :: tys) zG2 [.ref (ad 0), .int p0, .ref ou] ((wX ad cA ro lo co ks nb sl si we ki ap tg nu bn us nh ct mk ex ob oc lc fb fs) ++ [(ou, .inl (cL, 1, .inr (.inl f)))]) (fun r w2 => r = 0 ∧ ∃ (v : Int32) (w9 : va_W) (g : Nat → Int64), post v w9 ∧ g 0 = v.toInt64 ∧ w2 = w9 ++ [(ou, .inl (cL, 1, .inr (.inl g)))]) 0 0 := by
  refine z_ofiH (cc := cL_used) (maxL := 4) (ret := (some .int)) (hh := [(0, 9, 12, 13), (0, 9, 15, 54), (0, 9, 18, 56)]) (by decide) rfl (Nat.le_of_ble_eq_true rfl) ?_
  intro p e s m below meth c A F hr hlk htb
  refine z_aload_n F dL_used_0 rfl ?_
  refine z_iconst (v := 0) F dL_used_1 (by decide) ?_
  refine z_aload_n F dL_used_2 rfl ?_
  refine z_iload_n F dL_used_3 rfl ?_
  refine z_callVi (w1 := []) (w3 := [(ou, .inl (cL, 1, .inr (.inl f)))]) F (zwk_Mi hM) 0 rfl rfl (zcwV F.2.2.2.2.1 kcX4_used kmL_51 kiX4_used ksX4_used knX4 hdX4_used rfl rfl ⟨(Nat.le_of_ble_eq_true rfl), (Nat.le_of_ble_eq_true rfl)⟩) dL_used_4 rfl rfl rfl (Nat.le_of_ble_eq_true rfl) ⟨(Nat.le_of_ble_eq_true rfl), (Nat.le_of_ble_eq_true rfl)⟩ ?_
  rintro v w2 hp
  refine z_i2l F dL_used_7 ?_
  refine z_last F (w2.length) 1 (j := 0) dL_used_8 zout_get rfl rfl (by decide) (by decide) ?_
  rw [List.nil_append, zout_set]
  refine z_goto (tgt := 21) F dL_used_9 (by decide) ?_
  refine z_iconst (v := 0) F dL_used_21 (by decide) ?_
  exact z_iret F hr rfl hlk dL_used_22 ⟨rfl, v, w2, _, hp, rfl, rfl⟩ (Nat.le_of_ble_eq_true rfl) (Nat.le_of_ble_eq_true rfl)

set_option maxHeartbeats 4000000 in
set_option maxRecDepth 100000 in
theorem w_used_x1 {l : Launch} {D : va_G} {tys : List (ClassId × FieldType)} {ad : Nat → Nat} {cA : ClassId} {ro lo co ks : Nat → Nat} {nb sl : Nat} {si we ki ap tg : Nat → Nat} {nu : Nat} {bn us : Nat → Nat} {nh ct : Nat} {mk ex : Bool} {ob : Nat → Option Nat} {oc : Nat → Nat} {lc : Nat → Option Nat} {fb fs : Nat → Nat} {cL : ClassId} {ou : Nat} {f : Nat → Int64} (p0 : Int32) (hM : zXi l yX4_used (zws yX4_used cX4_used 5 (some .int)) { frames := 7, cells := 1, slots := 6, locals := 106 } D zcl ((cA, .int) :: (cL, .long) :: tys) zG [.ref (ad 0), .int p0] (wX ad cA ro lo co ks nb sl si we ki ap tg nu bn us nh ct mk ex ob oc lc fb fs) (fun _ _ => False) (fun E w2 => E = "java/lang/IllegalArgumentException" ∧ w2 = (wX ad cA ro lo co ks nb sl si we ki ap tg nu bn us nh ct mk ex ob oc lc fb fs)) 1 6) : zMi l yL_used (zwsW yL_used cL_used 4 (some .int) [(0, 9, 12, 13), (0, 9, 15, 54), (0, 9, 18, 56)]) { frames := 8, cells := 1, slots := 6, locals := 130 } D zcl ((cA, .int) :: (cL, .long) :: tys) zG2 [.ref (ad 0), .int p0, .ref ou] ((wX ad cA ro lo co ks nb sl si we ki ap tg nu bn us nh ct mk ex ob oc lc fb fs) ++ [(ou, .inl (cL, 1, .inr (.inl f)))]) (fun r w2 => r = 1 ∧ w2 = ((wX ad cA ro lo co ks nb sl si we ki ap tg nu bn us nh ct mk ex ob oc lc fb fs) ++ [(ou, .inl (cL, 1, .inr (.inl f)))])) 1 6 := by
  refine z_ofiH (cc := cL_used) (maxL := 4) (ret := (some .int)) (hh := [(0, 9, 12, 13), (0, 9, 15, 54), (0, 9, 18, 56)]) (by decide) rfl (Nat.le_of_ble_eq_true rfl) ?_
  intro p e s m below meth c A F hr hlk htb
  refine z_aload_n F dL_used_0 rfl ?_
  refine z_iconst (v := 0) F dL_used_1 (by decide) ?_
  refine z_aload_n F dL_used_2 rfl ?_
  refine z_iload_n F dL_used_3 rfl ?_
  refine zx_callVi (w1 := []) (w3 := [(ou, .inl (cL, 1, .inr (.inl f)))]) F (zwk_Xi hM) 0 rfl rfl (zcwV F.2.2.2.2.1 kcX4_used kmL_51 kiX4_used ksX4_used knX4 hdX4_used rfl rfl ⟨(Nat.le_of_ble_eq_true rfl), (Nat.le_of_ble_eq_true rfl)⟩) dL_used_4 rfl rfl rfl (Nat.le_of_ble_eq_true rfl) ⟨(Nat.le_of_ble_eq_true rfl), (Nat.le_of_ble_eq_true rfl)⟩ ?_ ?_
  · rintro _ _ ⟨rfl, rfl⟩
    refine zx_catch F (name := "java/lang/IllegalArgumentException") [] ⟨0, 9, 12, 13⟩ [⟨0, 9, 15, 54⟩, ⟨0, 9, 18, 56⟩] htb (fun z hz => by cases hz) rfl (by decide) (F.2.2.2.2.1 _ klL_13) (va_tabs rfl rfl (F.2.2.2.2.2.2.2.1.1.2.2.1 "java/lang/IllegalArgumentException" (List.mem_of_getElem? (i := 0) rfl))) (fun qe => ?_)
    refine z_astore_n F dL_used_12 (by decide) ?_
    refine z_iconst (v := 1) F dL_used_13 (by decide) ?_
    exact z_iret F hr rfl hlk dL_used_14 ⟨rfl, rfl⟩ (Nat.le_of_ble_eq_true rfl) (Nat.le_of_ble_eq_true rfl)
  rintro v w2 hp
  exact hp.elim

set_option maxHeartbeats 4000000 in
set_option maxRecDepth 100000 in
theorem w_used_x2 {l : Launch} {D : va_G} {tys : List (ClassId × FieldType)} {ad : Nat → Nat} {cA : ClassId} {ro lo co ks : Nat → Nat} {nb sl : Nat} {si we ki ap tg : Nat → Nat} {nu : Nat} {bn us : Nat → Nat} {nh ct : Nat} {mk ex : Bool} {ob : Nat → Option Nat} {oc : Nat → Nat} {lc : Nat → Option Nat} {fb fs : Nat → Nat} {cL : ClassId} {ou : Nat} {f : Nat → Int64} (p0 : Int32) (hM : zXi l yX4_used (zws yX4_used cX4_used 5 (some .int)) { frames := 7, cells := 1, slots := 6, locals := 106 } D zcl ((cA, .int) :: (cL, .long) :: tys) zG [.ref (ad 0), .int p0] (wX ad cA ro lo co ks nb sl si we ki ap tg nu bn us nh ct mk ex ob oc lc fb fs) (fun _ _ => False) (fun E w2 => E = "java/lang/IllegalStateException" ∧ w2 = (wX ad cA ro lo co ks nb sl si we ki ap tg nu bn us nh ct mk ex ob oc lc fb fs)) 1 6) : zMi l yL_used (zwsW yL_used cL_used 4 (some .int) [(0, 9, 12, 13), (0, 9, 15, 54), (0, 9, 18, 56)]) { frames := 8, cells := 1, slots := 6, locals := 130 } D zcl ((cA, .int) :: (cL, .long) :: tys) zG2 [.ref (ad 0), .int p0, .ref ou] ((wX ad cA ro lo co ks nb sl si we ki ap tg nu bn us nh ct mk ex ob oc lc fb fs) ++ [(ou, .inl (cL, 1, .inr (.inl f)))]) (fun r w2 => r = 2 ∧ w2 = ((wX ad cA ro lo co ks nb sl si we ki ap tg nu bn us nh ct mk ex ob oc lc fb fs) ++ [(ou, .inl (cL, 1, .inr (.inl f)))])) 1 6 := by
  refine z_ofiH (cc := cL_used) (maxL := 4) (ret := (some .int)) (hh := [(0, 9, 12, 13), (0, 9, 15, 54), (0, 9, 18, 56)]) (by decide) rfl (Nat.le_of_ble_eq_true rfl) ?_
  intro p e s m below meth c A F hr hlk htb
  refine z_aload_n F dL_used_0 rfl ?_
  refine z_iconst (v := 0) F dL_used_1 (by decide) ?_
  refine z_aload_n F dL_used_2 rfl ?_
  refine z_iload_n F dL_used_3 rfl ?_
  refine zx_callVi (w1 := []) (w3 := [(ou, .inl (cL, 1, .inr (.inl f)))]) F (zwk_Xi hM) 0 rfl rfl (zcwV F.2.2.2.2.1 kcX4_used kmL_51 kiX4_used ksX4_used knX4 hdX4_used rfl rfl ⟨(Nat.le_of_ble_eq_true rfl), (Nat.le_of_ble_eq_true rfl)⟩) dL_used_4 rfl rfl rfl (Nat.le_of_ble_eq_true rfl) ⟨(Nat.le_of_ble_eq_true rfl), (Nat.le_of_ble_eq_true rfl)⟩ ?_ ?_
  · rintro _ _ ⟨rfl, rfl⟩
    refine zx_catch F (name := "java/lang/IllegalStateException") [⟨0, 9, 12, 13⟩] ⟨0, 9, 15, 54⟩ [⟨0, 9, 18, 56⟩] htb (fun z hz => by rcases List.mem_cons.mp hz with rfl | hz; (exact Or.inr ⟨by decide, "java/lang/IllegalArgumentException", F.2.2.2.2.1 _ klL_13, F.2.2.2.2.2.2.2.1.2 ("java/lang/IllegalStateException", "java/lang/IllegalArgumentException") (List.mem_of_getElem? (i := 2) rfl)⟩); cases hz) rfl (by decide) (F.2.2.2.2.1 _ klL_54) (va_tabs rfl rfl (F.2.2.2.2.2.2.2.1.1.2.2.1 "java/lang/IllegalStateException" (List.mem_of_getElem? (i := 3) rfl))) (fun qe => ?_)
    refine z_astore_n F dL_used_15 (by decide) ?_
    refine z_iconst (v := 2) F dL_used_16 (by decide) ?_
    exact z_iret F hr rfl hlk dL_used_17 ⟨rfl, rfl⟩ (Nat.le_of_ble_eq_true rfl) (Nat.le_of_ble_eq_true rfl)
  rintro v w2 hp
  exact hp.elim

set_option maxHeartbeats 4000000 in
set_option maxRecDepth 100000 in
theorem w_used_x3 {l : Launch} {D : va_G} {tys : List (ClassId × FieldType)} {ad : Nat → Nat} {cA : ClassId} {ro lo co ks : Nat → Nat} {nb sl : Nat} {si we ki ap tg : Nat → Nat} {nu : Nat} {bn us : Nat → Nat} {nh ct : Nat} {mk ex : Bool} {ob : Nat → Option Nat} {oc : Nat → Nat} {lc : Nat → Option Nat} {fb fs : Nat → Nat} {cL : ClassId} {ou : Nat} {f : Nat → Int64} (p0 : Int32) (hM : zXi l yX4_used (zws yX4_used cX4_used 5 (some .int)) { frames := 7, cells := 1, slots := 6, locals := 106 } D zcl ((cA, .int) :: (cL, .long) :: tys) zG [.ref (ad 0), .int p0] (wX ad cA ro lo co ks nb sl si we ki ap tg nu bn us nh ct mk ex ob oc lc fb fs) (fun _ _ => False) (fun E w2 => E = "java/lang/ArithmeticException" ∧ w2 = (wX ad cA ro lo co ks nb sl si we ki ap tg nu bn us nh ct mk ex ob oc lc fb fs)) 1 6) : zMi l yL_used (zwsW yL_used cL_used 4 (some .int) [(0, 9, 12, 13), (0, 9, 15, 54), (0, 9, 18, 56)]) { frames := 8, cells := 1, slots := 6, locals := 130 } D zcl ((cA, .int) :: (cL, .long) :: tys) zG2 [.ref (ad 0), .int p0, .ref ou] ((wX ad cA ro lo co ks nb sl si we ki ap tg nu bn us nh ct mk ex ob oc lc fb fs) ++ [(ou, .inl (cL, 1, .inr (.inl f)))]) (fun r w2 => r = 3 ∧ w2 = ((wX ad cA ro lo co ks nb sl si we ki ap tg nu bn us nh ct mk ex ob oc lc fb fs) ++ [(ou, .inl (cL, 1, .inr (.inl f)))])) 1 6 := by
  refine z_ofiH (cc := cL_used) (maxL := 4) (ret := (some .int)) (hh := [(0, 9, 12, 13), (0, 9, 15, 54), (0, 9, 18, 56)]) (by decide) rfl (Nat.le_of_ble_eq_true rfl) ?_
  intro p e s m below meth c A F hr hlk htb
  refine z_aload_n F dL_used_0 rfl ?_
  refine z_iconst (v := 0) F dL_used_1 (by decide) ?_
  refine z_aload_n F dL_used_2 rfl ?_
  refine z_iload_n F dL_used_3 rfl ?_
  refine zx_callVi (w1 := []) (w3 := [(ou, .inl (cL, 1, .inr (.inl f)))]) F (zwk_Xi hM) 0 rfl rfl (zcwV F.2.2.2.2.1 kcX4_used kmL_51 kiX4_used ksX4_used knX4 hdX4_used rfl rfl ⟨(Nat.le_of_ble_eq_true rfl), (Nat.le_of_ble_eq_true rfl)⟩) dL_used_4 rfl rfl rfl (Nat.le_of_ble_eq_true rfl) ⟨(Nat.le_of_ble_eq_true rfl), (Nat.le_of_ble_eq_true rfl)⟩ ?_ ?_
  · rintro _ _ ⟨rfl, rfl⟩
    refine zx_catch F (name := "java/lang/ArithmeticException") [⟨0, 9, 12, 13⟩, ⟨0, 9, 15, 54⟩] ⟨0, 9, 18, 56⟩ [] htb (fun z hz => by rcases List.mem_cons.mp hz with rfl | hz; (exact Or.inr ⟨by decide, "java/lang/IllegalArgumentException", F.2.2.2.2.1 _ klL_13, F.2.2.2.2.2.2.2.1.2 ("java/lang/ArithmeticException", "java/lang/IllegalArgumentException") (List.mem_of_getElem? (i := 3) rfl)⟩); rcases List.mem_cons.mp hz with rfl | hz; (exact Or.inr ⟨by decide, "java/lang/IllegalStateException", F.2.2.2.2.1 _ klL_54, F.2.2.2.2.2.2.2.1.2 ("java/lang/ArithmeticException", "java/lang/IllegalStateException") (List.mem_of_getElem? (i := 4) rfl)⟩); cases hz) rfl (by decide) (F.2.2.2.2.1 _ klL_56) (va_tabs rfl rfl (F.2.2.2.2.2.2.2.1.1.2.2.1 "java/lang/ArithmeticException" (List.mem_of_getElem? (i := 4) rfl))) (fun qe => ?_)
    refine z_astore_n F dL_used_18 (by decide) ?_
    refine z_iconst (v := 3) F dL_used_19 (by decide) ?_
    exact z_iret F hr rfl hlk dL_used_20 ⟨rfl, rfl⟩ (Nat.le_of_ble_eq_true rfl) (Nat.le_of_ble_eq_true rfl)
  rintro v w2 hp
  exact hp.elim

set_option maxHeartbeats 4000000 in
set_option maxRecDepth 100000 in
theorem w_dimensional {l : Launch} {D : va_G} {tys : List (ClassId × FieldType)} {ad : Nat → Nat} {cA : ClassId} {ro lo co ks : Nat → Nat} {nb sl : Nat} {si we ki ap tg : Nat → Nat} {nu : Nat} {bn us : Nat → Nat} {nh ct : Nat} {mk ex : Bool} {ob : Nat → Option Nat} {oc : Nat → Nat} {lc : Nat → Option Nat} {fb fs : Nat → Nat} {cL : ClassId} {ou : Nat} {f : Nat → Int64} {post : Int32 → va_W → Prop} (p0 p1 : Int32) (hM : zMi l yX4_dimensional (zws yX4_dimensional cX4_dimensional 3 (some .int)) { frames := 7, cells := 0, slots := 0, locals := 105 } D zcl ((cA, .int) :: (cL, .long) :: tys) zG [.ref (ad 0), .int p0, .int p1] (wX ad cA ro lo co ks nb sl si we ki ap tg nu bn us nh ct mk ex ob oc lc fb fs) post 0 0) : zMi l yL_dimensional (zwsW yL_dimensional cL_dimensional 5 (some .int) [(0, 10, 13, 24), (0, 10, 17, 13), (0, 10, 21, 56)]) { frames := 8, cells := 0, slots := 0, locals := 127 } D zcl ((cA, .int) :: (cL, .long) :: tys) zG2 [.ref (ad 0), .int p0, .int p1, .ref ou] ((wX ad cA ro lo co ks nb sl si we ki ap tg nu bn us nh ct mk ex ob oc lc fb fs) ++ [(ou, .inl (cL, 1, .inr (.inl f)))]) (fun r w2 => r = 0 ∧ ∃ (v : Int32) (w9 : va_W) (g : Nat → Int64), post v w9 ∧ g 0 = v.toInt64 ∧ w2 = w9 ++ [(ou, .inl (cL, 1, .inr (.inl g)))]) 0 0 := by
  refine z_ofiH (cc := cL_dimensional) (maxL := 5) (ret := (some .int)) (hh := [(0, 10, 13, 24), (0, 10, 17, 13), (0, 10, 21, 56)]) (by decide) rfl (Nat.le_of_ble_eq_true rfl) ?_
  intro p e s m below meth c A F hr hlk htb
  refine z_aload_n F dL_dimensional_0 rfl ?_
  refine z_iconst (v := 0) F dL_dimensional_1 (by decide) ?_
  refine z_aload_n F dL_dimensional_2 rfl ?_
  refine z_iload_n F dL_dimensional_3 rfl ?_
  refine z_iload_n F dL_dimensional_4 rfl ?_
  refine z_callVi (w1 := []) (w3 := [(ou, .inl (cL, 1, .inr (.inl f)))]) F (zwk_Mi hM) 0 rfl rfl (zcwV F.2.2.2.2.1 kcX4_dimensional kmL_58 kiX4_dimensional ksX4_dimensional knX4 hdX4_dimensional rfl rfl ⟨(Nat.le_of_ble_eq_true rfl), (Nat.le_of_ble_eq_true rfl)⟩) dL_dimensional_5 rfl rfl rfl (Nat.le_of_ble_eq_true rfl) ⟨(Nat.le_of_ble_eq_true rfl), (Nat.le_of_ble_eq_true rfl)⟩ ?_
  rintro v w2 hp
  refine z_i2l F dL_dimensional_8 ?_
  refine z_last F (w2.length) 1 (j := 0) dL_dimensional_9 zout_get rfl rfl (by decide) (by decide) ?_
  rw [List.nil_append, zout_set]
  refine z_goto (tgt := 25) F dL_dimensional_10 (by decide) ?_
  refine z_iconst (v := 0) F dL_dimensional_25 (by decide) ?_
  exact z_iret F hr rfl hlk dL_dimensional_26 ⟨rfl, v, w2, _, hp, rfl, rfl⟩ (Nat.le_of_ble_eq_true rfl) (Nat.le_of_ble_eq_true rfl)

set_option maxHeartbeats 4000000 in
set_option maxRecDepth 100000 in
theorem w_dimensional_x1 {l : Launch} {D : va_G} {tys : List (ClassId × FieldType)} {ad : Nat → Nat} {cA : ClassId} {ro lo co ks : Nat → Nat} {nb sl : Nat} {si we ki ap tg : Nat → Nat} {nu : Nat} {bn us : Nat → Nat} {nh ct : Nat} {mk ex : Bool} {ob : Nat → Option Nat} {oc : Nat → Nat} {lc : Nat → Option Nat} {fb fs : Nat → Nat} {cL : ClassId} {ou : Nat} {f : Nat → Int64} (p0 p1 : Int32) (hM : zXi l yX4_dimensional (zws yX4_dimensional cX4_dimensional 3 (some .int)) { frames := 7, cells := 1, slots := 6, locals := 105 } D zcl ((cA, .int) :: (cL, .long) :: tys) zG [.ref (ad 0), .int p0, .int p1] (wX ad cA ro lo co ks nb sl si we ki ap tg nu bn us nh ct mk ex ob oc lc fb fs) (fun _ _ => False) (fun E w2 => E = "java/util/NoSuchElementException" ∧ w2 = (wX ad cA ro lo co ks nb sl si we ki ap tg nu bn us nh ct mk ex ob oc lc fb fs)) 1 6) : zMi l yL_dimensional (zwsW yL_dimensional cL_dimensional 5 (some .int) [(0, 10, 13, 24), (0, 10, 17, 13), (0, 10, 21, 56)]) { frames := 8, cells := 1, slots := 6, locals := 127 } D zcl ((cA, .int) :: (cL, .long) :: tys) zG2 [.ref (ad 0), .int p0, .int p1, .ref ou] ((wX ad cA ro lo co ks nb sl si we ki ap tg nu bn us nh ct mk ex ob oc lc fb fs) ++ [(ou, .inl (cL, 1, .inr (.inl f)))]) (fun r w2 => r = 1 ∧ w2 = ((wX ad cA ro lo co ks nb sl si we ki ap tg nu bn us nh ct mk ex ob oc lc fb fs) ++ [(ou, .inl (cL, 1, .inr (.inl f)))])) 1 6 := by
  refine z_ofiH (cc := cL_dimensional) (maxL := 5) (ret := (some .int)) (hh := [(0, 10, 13, 24), (0, 10, 17, 13), (0, 10, 21, 56)]) (by decide) rfl (Nat.le_of_ble_eq_true rfl) ?_
  intro p e s m below meth c A F hr hlk htb
  refine z_aload_n F dL_dimensional_0 rfl ?_
  refine z_iconst (v := 0) F dL_dimensional_1 (by decide) ?_
  refine z_aload_n F dL_dimensional_2 rfl ?_
  refine z_iload_n F dL_dimensional_3 rfl ?_
  refine z_iload_n F dL_dimensional_4 rfl ?_
  refine zx_callVi (w1 := []) (w3 := [(ou, .inl (cL, 1, .inr (.inl f)))]) F (zwk_Xi hM) 0 rfl rfl (zcwV F.2.2.2.2.1 kcX4_dimensional kmL_58 kiX4_dimensional ksX4_dimensional knX4 hdX4_dimensional rfl rfl ⟨(Nat.le_of_ble_eq_true rfl), (Nat.le_of_ble_eq_true rfl)⟩) dL_dimensional_5 rfl rfl rfl (Nat.le_of_ble_eq_true rfl) ⟨(Nat.le_of_ble_eq_true rfl), (Nat.le_of_ble_eq_true rfl)⟩ ?_ ?_
  · rintro _ _ ⟨rfl, rfl⟩
    refine zx_catch F (name := "java/util/NoSuchElementException") [] ⟨0, 10, 13, 24⟩ [⟨0, 10, 17, 13⟩, ⟨0, 10, 21, 56⟩] htb (fun z hz => by cases hz) rfl (by decide) (F.2.2.2.2.1 _ klL_24) (va_tabs rfl rfl (F.2.2.2.2.2.2.2.1.1.2.2.1 "java/util/NoSuchElementException" (List.mem_of_getElem? (i := 2) rfl))) (fun qe => ?_)
    refine z_astore F dL_dimensional_13 (by decide) ?_
    refine z_iconst (v := 1) F dL_dimensional_15 (by decide) ?_
    exact z_iret F hr rfl hlk dL_dimensional_16 ⟨rfl, rfl⟩ (Nat.le_of_ble_eq_true rfl) (Nat.le_of_ble_eq_true rfl)
  rintro v w2 hp
  exact hp.elim

set_option maxHeartbeats 4000000 in
set_option maxRecDepth 100000 in
theorem w_dimensional_x2 {l : Launch} {D : va_G} {tys : List (ClassId × FieldType)} {ad : Nat → Nat} {cA : ClassId} {ro lo co ks : Nat → Nat} {nb sl : Nat} {si we ki ap tg : Nat → Nat} {nu : Nat} {bn us : Nat → Nat} {nh ct : Nat} {mk ex : Bool} {ob : Nat → Option Nat} {oc : Nat → Nat} {lc : Nat → Option Nat} {fb fs : Nat → Nat} {cL : ClassId} {ou : Nat} {f : Nat → Int64} (p0 p1 : Int32) (hM : zXi l yX4_dimensional (zws yX4_dimensional cX4_dimensional 3 (some .int)) { frames := 7, cells := 1, slots := 6, locals := 105 } D zcl ((cA, .int) :: (cL, .long) :: tys) zG [.ref (ad 0), .int p0, .int p1] (wX ad cA ro lo co ks nb sl si we ki ap tg nu bn us nh ct mk ex ob oc lc fb fs) (fun _ _ => False) (fun E w2 => E = "java/lang/IllegalArgumentException" ∧ w2 = (wX ad cA ro lo co ks nb sl si we ki ap tg nu bn us nh ct mk ex ob oc lc fb fs)) 1 6) : zMi l yL_dimensional (zwsW yL_dimensional cL_dimensional 5 (some .int) [(0, 10, 13, 24), (0, 10, 17, 13), (0, 10, 21, 56)]) { frames := 8, cells := 1, slots := 6, locals := 127 } D zcl ((cA, .int) :: (cL, .long) :: tys) zG2 [.ref (ad 0), .int p0, .int p1, .ref ou] ((wX ad cA ro lo co ks nb sl si we ki ap tg nu bn us nh ct mk ex ob oc lc fb fs) ++ [(ou, .inl (cL, 1, .inr (.inl f)))]) (fun r w2 => r = 2 ∧ w2 = ((wX ad cA ro lo co ks nb sl si we ki ap tg nu bn us nh ct mk ex ob oc lc fb fs) ++ [(ou, .inl (cL, 1, .inr (.inl f)))])) 1 6 := by
  refine z_ofiH (cc := cL_dimensional) (maxL := 5) (ret := (some .int)) (hh := [(0, 10, 13, 24), (0, 10, 17, 13), (0, 10, 21, 56)]) (by decide) rfl (Nat.le_of_ble_eq_true rfl) ?_
  intro p e s m below meth c A F hr hlk htb
  refine z_aload_n F dL_dimensional_0 rfl ?_
  refine z_iconst (v := 0) F dL_dimensional_1 (by decide) ?_
  refine z_aload_n F dL_dimensional_2 rfl ?_
  refine z_iload_n F dL_dimensional_3 rfl ?_
  refine z_iload_n F dL_dimensional_4 rfl ?_
  refine zx_callVi (w1 := []) (w3 := [(ou, .inl (cL, 1, .inr (.inl f)))]) F (zwk_Xi hM) 0 rfl rfl (zcwV F.2.2.2.2.1 kcX4_dimensional kmL_58 kiX4_dimensional ksX4_dimensional knX4 hdX4_dimensional rfl rfl ⟨(Nat.le_of_ble_eq_true rfl), (Nat.le_of_ble_eq_true rfl)⟩) dL_dimensional_5 rfl rfl rfl (Nat.le_of_ble_eq_true rfl) ⟨(Nat.le_of_ble_eq_true rfl), (Nat.le_of_ble_eq_true rfl)⟩ ?_ ?_
  · rintro _ _ ⟨rfl, rfl⟩
    refine zx_catch F (name := "java/lang/IllegalArgumentException") [⟨0, 10, 13, 24⟩] ⟨0, 10, 17, 13⟩ [⟨0, 10, 21, 56⟩] htb (fun z hz => by rcases List.mem_cons.mp hz with rfl | hz; (exact Or.inr ⟨by decide, "java/util/NoSuchElementException", F.2.2.2.2.1 _ klL_24, F.2.2.2.2.2.2.2.1.2 ("java/lang/IllegalArgumentException", "java/util/NoSuchElementException") (List.mem_of_getElem? (i := 1) rfl)⟩); cases hz) rfl (by decide) (F.2.2.2.2.1 _ klL_13) (va_tabs rfl rfl (F.2.2.2.2.2.2.2.1.1.2.2.1 "java/lang/IllegalArgumentException" (List.mem_of_getElem? (i := 0) rfl))) (fun qe => ?_)
    refine z_astore F dL_dimensional_17 (by decide) ?_
    refine z_iconst (v := 2) F dL_dimensional_19 (by decide) ?_
    exact z_iret F hr rfl hlk dL_dimensional_20 ⟨rfl, rfl⟩ (Nat.le_of_ble_eq_true rfl) (Nat.le_of_ble_eq_true rfl)
  rintro v w2 hp
  exact hp.elim

set_option maxHeartbeats 4000000 in
set_option maxRecDepth 100000 in
theorem w_dimensional_x3 {l : Launch} {D : va_G} {tys : List (ClassId × FieldType)} {ad : Nat → Nat} {cA : ClassId} {ro lo co ks : Nat → Nat} {nb sl : Nat} {si we ki ap tg : Nat → Nat} {nu : Nat} {bn us : Nat → Nat} {nh ct : Nat} {mk ex : Bool} {ob : Nat → Option Nat} {oc : Nat → Nat} {lc : Nat → Option Nat} {fb fs : Nat → Nat} {cL : ClassId} {ou : Nat} {f : Nat → Int64} (p0 p1 : Int32) (hM : zXi l yX4_dimensional (zws yX4_dimensional cX4_dimensional 3 (some .int)) { frames := 7, cells := 1, slots := 6, locals := 105 } D zcl ((cA, .int) :: (cL, .long) :: tys) zG [.ref (ad 0), .int p0, .int p1] (wX ad cA ro lo co ks nb sl si we ki ap tg nu bn us nh ct mk ex ob oc lc fb fs) (fun _ _ => False) (fun E w2 => E = "java/lang/ArithmeticException" ∧ w2 = (wX ad cA ro lo co ks nb sl si we ki ap tg nu bn us nh ct mk ex ob oc lc fb fs)) 1 6) : zMi l yL_dimensional (zwsW yL_dimensional cL_dimensional 5 (some .int) [(0, 10, 13, 24), (0, 10, 17, 13), (0, 10, 21, 56)]) { frames := 8, cells := 1, slots := 6, locals := 127 } D zcl ((cA, .int) :: (cL, .long) :: tys) zG2 [.ref (ad 0), .int p0, .int p1, .ref ou] ((wX ad cA ro lo co ks nb sl si we ki ap tg nu bn us nh ct mk ex ob oc lc fb fs) ++ [(ou, .inl (cL, 1, .inr (.inl f)))]) (fun r w2 => r = 3 ∧ w2 = ((wX ad cA ro lo co ks nb sl si we ki ap tg nu bn us nh ct mk ex ob oc lc fb fs) ++ [(ou, .inl (cL, 1, .inr (.inl f)))])) 1 6 := by
  refine z_ofiH (cc := cL_dimensional) (maxL := 5) (ret := (some .int)) (hh := [(0, 10, 13, 24), (0, 10, 17, 13), (0, 10, 21, 56)]) (by decide) rfl (Nat.le_of_ble_eq_true rfl) ?_
  intro p e s m below meth c A F hr hlk htb
  refine z_aload_n F dL_dimensional_0 rfl ?_
  refine z_iconst (v := 0) F dL_dimensional_1 (by decide) ?_
  refine z_aload_n F dL_dimensional_2 rfl ?_
  refine z_iload_n F dL_dimensional_3 rfl ?_
  refine z_iload_n F dL_dimensional_4 rfl ?_
  refine zx_callVi (w1 := []) (w3 := [(ou, .inl (cL, 1, .inr (.inl f)))]) F (zwk_Xi hM) 0 rfl rfl (zcwV F.2.2.2.2.1 kcX4_dimensional kmL_58 kiX4_dimensional ksX4_dimensional knX4 hdX4_dimensional rfl rfl ⟨(Nat.le_of_ble_eq_true rfl), (Nat.le_of_ble_eq_true rfl)⟩) dL_dimensional_5 rfl rfl rfl (Nat.le_of_ble_eq_true rfl) ⟨(Nat.le_of_ble_eq_true rfl), (Nat.le_of_ble_eq_true rfl)⟩ ?_ ?_
  · rintro _ _ ⟨rfl, rfl⟩
    refine zx_catch F (name := "java/lang/ArithmeticException") [⟨0, 10, 13, 24⟩, ⟨0, 10, 17, 13⟩] ⟨0, 10, 21, 56⟩ [] htb (fun z hz => by rcases List.mem_cons.mp hz with rfl | hz; (exact Or.inr ⟨by decide, "java/util/NoSuchElementException", F.2.2.2.2.1 _ klL_24, F.2.2.2.2.2.2.2.1.2 ("java/lang/ArithmeticException", "java/util/NoSuchElementException") (List.mem_of_getElem? (i := 5) rfl)⟩); rcases List.mem_cons.mp hz with rfl | hz; (exact Or.inr ⟨by decide, "java/lang/IllegalArgumentException", F.2.2.2.2.1 _ klL_13, F.2.2.2.2.2.2.2.1.2 ("java/lang/ArithmeticException", "java/lang/IllegalArgumentException") (List.mem_of_getElem? (i := 3) rfl)⟩); cases hz) rfl (by decide) (F.2.2.2.2.1 _ klL_56) (va_tabs rfl rfl (F.2.2.2.2.2.2.2.1.1.2.2.1 "java/lang/ArithmeticException" (List.mem_of_getElem? (i := 4) rfl))) (fun qe => ?_)
    refine z_astore F dL_dimensional_21 (by decide) ?_
    refine z_iconst (v := 3) F dL_dimensional_23 (by decide) ?_
    exact z_iret F hr rfl hlk dL_dimensional_24 ⟨rfl, rfl⟩ (Nat.le_of_ble_eq_true rfl) (Nat.le_of_ble_eq_true rfl)
  rintro v w2 hp
  exact hp.elim
