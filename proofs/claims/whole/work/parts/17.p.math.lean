/-- all sets tried: the table is right everywhere -/
theorem zall_tb {O : Nat → Option Nat} {co : Nat → Nat} {ob : Nat → Option Nat} {oc : Nat → Nat} {lc : Nat → Option Nat} {fb fs : Nat → Nat} {y : Nat} (hy : y < 64) (ho : ∀ s, s ≤ y → ∀ f, f ∈ zcan s → ob f = O f ∧ ∀ b, O f = some b → oc f = co b) : ∀ s, s ≤ y → zTb O co (zall ob oc y (zt0 lc fb fs)) s := by
  have key : ∀ n, n ≤ y + 1 → (∀ x, x < n ∨ x = 0 → zTb O co (zfr (zfnd ob oc) (zt0 lc fb fs) 1 n) x) ∧ ∀ x, x < 64 → 0 < x → n ≤ x → (zfr (zfnd ob oc) (zt0 lc fb fs) 1 n).1 x = none := by
    have base : zTb O co (zt0 lc fb fs) 0 ∧ ∀ x, x < 64 → 0 < x → (zt0 lc fb fs).1 x = none := by
      refine ⟨Or.inr ⟨[], rfl, by rw [zWs_0]; exact List.mem_singleton.mpr rfl, fun f hf => (by cases hf), ?_, ?_, fun v hv _ => ?_⟩, fun x hx h0 => ?_⟩
      · show zuo (zclr lc 64) 0 (some 0) 0 = some 0; rw [zuo_s]
      · show zu fb 0 0 0 = 0; rw [zu_s]
      · rw [zWs_0] at hv; rw [List.mem_singleton.mp hv]; exact zLt_irr _
      · show zuo (zclr lc 64) 0 (some 0) x = none; rw [zuo_n (by omega)]; unfold zclr; rw [if_pos hx]
    intro n
    induction n with
    | zero => intro _; exact ⟨fun x hx => by rw [show x = 0 by omega]; exact base.1, fun x h1 h2 _ => base.2 x h1 h2⟩
    | succ n ih =>
      intro hn
      obtain ⟨a, b⟩ := ih (by omega)
      by_cases c : 1 ≤ n
      · rw [zfr_s c]
        obtain ⟨z1, z2⟩ := zfnd_tb (O := O) (co := co) (ob := ob) (oc := oc) (s := n) (t := zfr (zfnd ob oc) (zt0 lc fb fs) 1 n) (by omega) (by omega) (ho n (by omega)) (fun x hx => a x (Or.inl hx)) (b n (by omega) (by omega) (Nat.le_refl _))
        refine ⟨fun x hx => ?_, fun x h1 h2 h3 => ?_⟩
        · by_cases e : x = n
          · rw [e]; exact z1
          · exact zTb_cg (fun w hw => ⟨(z2 w (by omega)).1.symm, (z2 w (by omega)).2.1.symm, (z2 w (by omega)).2.2.symm⟩) (a x (by omega))
        · rw [(z2 x (by omega)).1]; exact b x h1 h2 (by omega)
      · rw [zfr_0 _ _ _ _ (by omega)]
        exact ⟨fun x hx => by rw [show x = 0 by omega]; exact base.1, fun x h1 h2 _ => base.2 x h1 h2⟩
  intro s hs
  exact (key (y + 1) (Nat.le_refl _)).1 s (Or.inl (by omega))
