/-! ===== the class's offers ===== -/
theorem zoff {FF : Nat → Nat → Bool} {co : Nat → Nat} {nb : Nat} {ob : Nat → Option Nat} {oc : Nat → Nat} : ∀ n, n ≤ 64 → (∀ x, 1 ≤ x → x < n → (zfr (zos FF co nb) ((zclr ob 64, oc) : zO) 1 n).1 x = zche (FF x) co nb ∧ ∀ b, zche (FF x) co nb = some b → (zfr (zos FF co nb) ((zclr ob 64, oc) : zO) 1 n).2 x = co b) ∧ ∀ x, x < 64 → (x = 0 ∨ n ≤ x) → (zfr (zos FF co nb) ((zclr ob 64, oc) : zO) 1 n).1 x = none
  | 0, _ => ⟨fun x h1 h2 => by omega, fun x hx _ => by show (if x < 64 then none else ob x) = none; rw [if_pos hx]⟩
  | n + 1, hn => by
    obtain ⟨a1, a2⟩ := zoff (FF := FF) (co := co) (nb := nb) (ob := ob) (oc := oc) n (by omega)
    rcases Nat.eq_zero_or_pos n with q | q
    · subst q
      rw [zfr_0 _ _ _ _ (Nat.le_refl _)]
      exact ⟨fun x h1 h2 => by omega, fun x hx _ => by show (if x < 64 then none else ob x) = none; rw [if_pos hx]⟩
    · rw [zfr_s q]
      cases hz : zche (FF n) co nb with
      | none =>
        rw [zos_n hz]
        refine ⟨fun x h1 h2 => ?_, fun x hx h => a2 x hx (by omega)⟩
        by_cases c : x = n
        · subst c
          exact ⟨by rw [a2 x (by omega) (Or.inr (Nat.le_refl _)), hz], fun b hb => by rw [hz] at hb; cases hb⟩
        · exact a1 x h1 (by omega)
      | some b =>
        rw [zos_s hz]
        refine ⟨fun x h1 h2 => ?_, fun x hx h => ?_⟩
        · by_cases c : x = n
          · subst c
            exact ⟨by show zuo _ x (some b) x = _; rw [zuo_s, hz], fun d hd => by rw [hz] at hd; cases hd; show zu _ x (co b) x = _; rw [zu_s]⟩
          · obtain ⟨e1, e2⟩ := a1 x h1 (by omega)
            exact ⟨by show zuo _ n (some b) x = _; rw [zuo_n c]; exact e1, fun d hd => by show zu _ n (co b) x = _; rw [zu_n c]; exact e2 d hd⟩
        · show zuo _ n (some b) x = none
          rw [zuo_n (show x ≠ n by omega)]
          exact a2 x hx (by omega)
