theorem zfbs_out {ob : Nat → Option Nat} {oc : Nat → Nat} {s F x : Nat} {t : zT} (h : x ≠ s) : (zfbs ob oc s F t).1 x = t.1 x ∧ (zfbs ob oc s F t).2.1 x = t.2.1 x ∧ (zfbs ob oc s F t).2.2 x = t.2.2 x := by
  unfold zfbs
  cases decide (zd F s = 0) && (decide (¬ F &&& zlow s = 0) && (ob F).isSome) with
  | false => exact ⟨rfl, rfl, rfl⟩
  | true =>
    show (ztry ob oc s F t).1 x = _ ∧ (ztry ob oc s F t).2.1 x = _ ∧ (ztry ob oc s F t).2.2 x = _
    cases hz : t.1 (zd s F) with
    | none => rw [ztry_none hz]; exact ⟨rfl, rfl, rfl⟩
    | some L =>
      cases hb : zbet ob t.1 t.2.1 t.2.2 s F (oc F + L) (1 + t.2.1 (zd s F)) with
      | false => rw [ztry_f hz hb]; exact ⟨rfl, rfl, rfl⟩
      | true => rw [ztry_t hz hb]; exact ⟨zuo_n h, zu_n h, zu_n h⟩
theorem zIn_step {O : Nat → Option Nat} {co : Nat → Nat} {ob : Nat → Option Nat} {oc : Nat → Nat} {t : zT} {s F : Nat} (hF : F ≤ s) (ho : ∀ f, f ∈ zcan s → ob f = O f ∧ ∀ b, O f = some b → oc f = co b) (hT : ∀ x, x < s → zTb O co t x) (h : zIn O co t s F) : zIn O co (zfbs ob oc s F t) s (F + 1) := by
  by_cases c : F ∈ zcan s
  · obtain ⟨_, h2, h3⟩ := zcan_mem.mp c
    obtain ⟨o1, o2⟩ := ho F c
    have hlt := zcan_lt c
    cases hO : O F with
    | none =>
      have e : zfbs ob oc s F t = t := by unfold zfbs; rw [o1, hO]; simp
      rw [e]
      exact zIn_no h (fun _ w _ hz => by have := hz F List.mem_cons_self; rw [hO] at this; cases this)
    | some b9 =>
      have e : zfbs ob oc s F t = ztry ob oc s F t := by unfold zfbs; rw [o1, hO, decide_eq_true h2, decide_eq_true h3]; rfl
      rw [e]
      rcases hT (zd s F) hlt with ⟨t1, t2⟩ | ⟨b, t1, t2, t3, t4, t5, t6⟩
      · rw [ztry_none t1]
        exact zIn_no h (fun _ w hw hz => t2 w hw (zfea_tl hz))
      · have hc : oc F + zwC O co b = zwC O co (F :: b) := by show _ = co ((O F).getD 0) + _; rw [hO, o2 b9 hO]; rfl
        have hk : 1 + t.2.1 (zd s F) = (F :: b).length := by rw [t5, List.length_cons]; omega
        have hf : zfea O (F :: b) := fun x hx => by
          rcases List.mem_cons.mp hx with q | q
          · rw [q, hO]; rfl
          · exact t3 x q
        have new : (∀ f, f ∈ zcan s → f < F → ∀ v, v ∈ zWs 64 (zd s f) → zfea O (f :: v) → ¬ zLt O co (f :: v) (F :: b)) → zbet ob t.1 t.2.1 t.2.2 s F (oc F + zwC O co b) (1 + t.2.1 (zd s F)) = true → zIn O co (ztry ob oc s F t) s (F + 1) := by
          intro hold hb
          rw [ztry_t t4 hb]
          refine zIn_lt (t := t) (b := b) c ?_ ?_ ?_ ?_ t2 hf t6 hold
          · show zuo _ s _ s = _; rw [zuo_s, hc]
          · show zu _ s _ s = _; rw [zu_s, hk, List.length_cons]
          · show zu _ s _ s = _; rw [zu_s]
          · exact zPth_cg b (zd s F) (fun x hx => (zu_n (show x ≠ s by omega)).symm) t1
        rcases id h with ⟨h1, h2⟩ | ⟨w, p1, p2, p3, p4, p5, p6, p7, p8⟩
        · exact new (fun f hf2 hl v hv hz => absurd hz (h2 f hf2 hl v hv)) (zbet_none h1)
        · have hbe := zbet_eq (O := O) (co := co) (ob := ob) (lc := t.1) (fb := t.2.1) (fs := t.2.2) (s := s) (f := F) (g := t.2.2 s) (c := oc F + zwC O co b) (n := 1 + t.2.1 (zd s F)) (w := b) (v := w) p6 p7 rfl o1 (ho _ p2).1 hc hk (by omega)
          cases hb : zbet ob t.1 t.2.1 t.2.2 s F (oc F + zwC O co b) (1 + t.2.1 (zd s F)) with
          | true => exact new (fun f hf2 hl v hv hz q => p8 f hf2 hl v hv hz (zLt_tr q (hbe.mp hb))) hb
          | false =>
            rw [ztry_f t4 hb]
            exact zIn_ge p1 p2 p3 p4 p5 p6 p7 p8 t6 (fun q => by rw [hbe.mpr q] at hb; cases hb)
  · have e : zfbs ob oc s F t = t := by
      unfold zfbs
      by_cases c1 : zd F s = 0
      · by_cases c2 : F &&& zlow s = 0
        · rw [show decide (¬ F &&& zlow s = 0) = false from decide_eq_false (fun q => q c2)]; simp
        · exact absurd (zcan_mem.mpr ⟨hF, c1, c2⟩) c
      · rw [decide_eq_false c1]; rfl
    rw [e]
    exact zIn_no h (fun q => absurd q c)
