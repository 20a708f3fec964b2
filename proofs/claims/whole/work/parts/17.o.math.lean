theorem zlow_le : ∀ s, s < 64 → ∀ f, f < 64 → ¬ f &&& zlow s = 0 → zlow s ≤ f := by decide +kernel
/-- findBest: the table becomes right at s, and is as it was elsewhere -/
theorem zfnd_tb {O : Nat → Option Nat} {co : Nat → Nat} {ob : Nat → Option Nat} {oc : Nat → Nat} {t : zT} {s : Nat} (hs : ¬ s = 0) (h64 : s < 64) (ho : ∀ f, f ∈ zcan s → ob f = O f ∧ ∀ b, O f = some b → oc f = co b) (hT : ∀ x, x < s → zTb O co t x) (h0 : t.1 s = none) : zTb O co (zfnd ob oc s t) s ∧ ∀ x, x ≠ s → (zfnd ob oc s t).1 x = t.1 x ∧ (zfnd ob oc s t).2.1 x = t.2.1 x ∧ (zfnd ob oc s t).2.2 x = t.2.2 x := by
  have key : ∀ n, n ≤ s + 1 → zIn O co (zfr (zfbs ob oc s) t (zlow s) n) s n ∧ ∀ x, x ≠ s → (zfr (zfbs ob oc s) t (zlow s) n).1 x = t.1 x ∧ (zfr (zfbs ob oc s) t (zlow s) n).2.1 x = t.2.1 x ∧ (zfr (zfbs ob oc s) t (zlow s) n).2.2 x = t.2.2 x := by
    intro n
    induction n with
    | zero => intro _; exact ⟨Or.inl ⟨h0, fun f _ hl => by omega⟩, fun x _ => ⟨rfl, rfl, rfl⟩⟩
    | succ n ih =>
      intro hn
      obtain ⟨a, b⟩ := ih (by omega)
      by_cases c : zlow s ≤ n
      · rw [zfr_s c]
        refine ⟨zIn_step (by omega) ho (fun x hx => ?_) a, fun x hx => ?_⟩
        · exact zTb_cg (fun y hy => ⟨(b y (by omega)).1.symm, (b y (by omega)).2.1.symm, (b y (by omega)).2.2.symm⟩) (hT x hx)
        · obtain ⟨z1, z2, z3⟩ := zfbs_out (ob := ob) (oc := oc) (F := n) (t := zfr (zfbs ob oc s) t (zlow s) n) hx
          obtain ⟨y1, y2, y3⟩ := b x hx
          exact ⟨z1.trans y1, z2.trans y2, z3.trans y3⟩
      · rw [zfr_0 _ _ _ _ (by omega)]
        refine ⟨Or.inl ⟨h0, fun f hf hl => ?_⟩, fun x _ => ⟨rfl, rfl, rfl⟩⟩
        have := zlow_le s h64 f (by omega) (zcan_mem.mp hf).2.2
        omega
  obtain ⟨a, b⟩ := key (s + 1) (Nat.le_refl _)
  exact ⟨zIn_end hs (by omega) a, b⟩
