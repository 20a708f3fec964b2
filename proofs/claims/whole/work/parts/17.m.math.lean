theorem zfea_tl {O : Nat → Option Nat} {f : Nat} {w : List Nat} (h : zfea O (f :: w)) : zfea O w := fun x hx => h x (List.mem_cons_of_mem _ hx)
/-- a first set that brings no way changes nothing -/
theorem zIn_no {O : Nat → Option Nat} {co : Nat → Nat} {t : zT} {s F : Nat} (h : zIn O co t s F) (hno : F ∈ zcan s → ∀ w, w ∈ zWs 64 (zd s F) → ¬ zfea O (F :: w)) : zIn O co t s (F + 1) := by
  rcases h with ⟨h1, h2⟩ | ⟨w, p1, p2, p3, p4, p5, p6, p7, p8⟩
  · refine Or.inl ⟨h1, fun f hf hl w hw => ?_⟩
    by_cases c : f = F
    · subst c; exact hno hf w hw
    · exact h2 f hf (by omega) w hw
  · refine Or.inr ⟨w, p1, p2, by omega, p4, p5, p6, p7, fun f hf hl v hv hz => ?_⟩
    by_cases c : f = F
    · subst c; exact absurd hz (hno hf v hv)
    · exact p8 f hf (by omega) v hv hz
/-- a first set whose least way is not less changes nothing -/
theorem zIn_ge {O : Nat → Option Nat} {co : Nat → Nat} {t : zT} {s F : Nat} {b w : List Nat} (p1 : zPth t.2.2 (zd s (t.2.2 s)) w) (p2 : t.2.2 s ∈ zcan s) (p3 : t.2.2 s < F) (p4 : w ∈ zWs 64 (zd s (t.2.2 s))) (p5 : zfea O (t.2.2 s :: w)) (p6 : t.1 s = some (zwC O co (t.2.2 s :: w))) (p7 : t.2.1 s = w.length + 1) (p8 : ∀ f, f ∈ zcan s → f < F → ∀ v, v ∈ zWs 64 (zd s f) → zfea O (f :: v) → ¬ zLt O co (f :: v) (t.2.2 s :: w))
    (hb : ∀ v, v ∈ zWs 64 (zd s F) → zfea O v → ¬ zLt O co v b) (hn : ¬ zLt O co (F :: b) (t.2.2 s :: w)) : zIn O co t s (F + 1) := by
  refine Or.inr ⟨w, p1, p2, by omega, p4, p5, p6, p7, fun f hf hl v hv hz => ?_⟩
  by_cases c : f = F
  · subst c
    intro q
    by_cases e : zLt O co (f :: b) (f :: v)
    · exact hn (zLt_tr e q)
    · have e2 : ¬ zLt O co (f :: v) (f :: b) := fun z => hb v hv (zfea_tl hz) (zLt_cons.mp z)
      rw [zLt_tri e e2] at hn
      exact hn q
  · exact p8 f hf (by omega) v hv hz
/-- a first set whose least way is less is kept -/
theorem zIn_lt {O : Nat → Option Nat} {co : Nat → Nat} {t t2 : zT} {s F : Nat} {b : List Nat} (hF : F ∈ zcan s) (e1 : t2.1 s = some (zwC O co (F :: b))) (e2 : t2.2.1 s = b.length + 1) (e3 : t2.2.2 s = F) (hp : zPth t2.2.2 (zd s F) b) (hbm : b ∈ zWs 64 (zd s F)) (hf : zfea O (F :: b)) (hb : ∀ v, v ∈ zWs 64 (zd s F) → zfea O v → ¬ zLt O co v b)
    (hold : ∀ f, f ∈ zcan s → f < F → ∀ v, v ∈ zWs 64 (zd s f) → zfea O (f :: v) → ¬ zLt O co (f :: v) (F :: b)) : zIn O co t2 s (F + 1) := by
  refine Or.inr ⟨b, by rw [e3]; exact hp, by rw [e3]; exact hF, by rw [e3]; omega, by rw [e3]; exact hbm, by rw [e3]; exact hf, by rw [e3]; exact e1, e2, fun f hf2 hl v hv hz => ?_⟩
  rw [e3]
  by_cases c : f = F
  · subst c
    exact fun q => hb v hv (zfea_tl hz) (zLt_cons.mp q)
  · exact hold f hf2 (by omega) v hv hz
