theorem zexn_fr {ob : Nat → Option Nat} {oc fs : Nat → Nat} {t : zX} (h : 0 < t.1) : ∀ i, zexn ob oc fs t (i + 1) = zexn ob oc fs (zexs ob oc fs t) i
  | 0 => by show (if 0 < t.1 then zexs ob oc fs t else t) = _; rw [if_pos h]; rfl
  | i + 1 => by
    have e := zexn_fr (ob := ob) (oc := oc) (fs := fs) h i
    show (if 0 < (zexn ob oc fs t (i + 1)).1 then zexs ob oc fs (zexn ob oc fs t (i + 1)) else zexn ob oc fs t (i + 1)) = (if 0 < (zexn ob oc fs (zexs ob oc fs t) i).1 then zexs ob oc fs (zexn ob oc fs (zexs ob oc fs t) i) else zexn ob oc fs (zexs ob oc fs t) i)
    rw [e]
/-- the path out of the table -/
theorem zexn_path {O : Nat → Option Nat} {co : Nat → Nat} {ob : Nat → Option Nat} {oc fs : Nat → Nat} : ∀ (w : List Nat) (s : Nat) (bn us : Nat → Nat) (n ct : Nat), zPth fs s w → (∀ f, f ∈ w → ob f = O f ∧ oc f = co ((O f).getD 0)) →
    ∃ b2 u2 : Nat → Nat, zexn ob oc fs ((s, bn, us, n, ct) : zX) w.length = (0, b2, u2, n + w.length, ct + zwC O co w) ∧ (∀ j, j < n ∨ n + w.length ≤ j → b2 j = bn j ∧ u2 j = us j) ∧ zli u2 w.length n = w ∧ ∀ j, n ≤ j → j < n + w.length → b2 j = (O (u2 j)).getD 0
  | [], s, bn, us, n, ct, h, _ => by
    have h : s = 0 := h
    subst h
    exact ⟨bn, us, rfl, fun j _ => ⟨rfl, rfl⟩, rfl, fun j h1 h2 => by have h2 : j < n + 0 := h2; omega⟩
  | f :: w, s, bn, us, n, ct, h, ho => by
    obtain ⟨h1, h2, h3⟩ := h
    obtain ⟨o1, o2⟩ := ho f List.mem_cons_self
    have hx : zexs ob oc fs ((s, bn, us, n, ct) : zX) = (zd s f, zu bn n ((O f).getD 0), zu us n f, n + 1, ct + co ((O f).getD 0)) := by
      unfold zexs
      show (zd s (fs s), zu bn n ((ob (fs s)).getD 0), zu us n (fs s), n + 1, ct + oc (fs s)) = _
      rw [h2, o1, o2]
    obtain ⟨b2, u2, e1, e2, e3, e4⟩ := zexn_path (O := O) (co := co) (ob := ob) (oc := oc) (fs := fs) w (zd s f) (zu bn n ((O f).getD 0)) (zu us n f) (n + 1) (ct + co ((O f).getD 0)) h3 (fun g hg => ho g (List.mem_cons_of_mem _ hg))
    refine ⟨b2, u2, ?_, fun j hj => ?_, ?_, fun j hj1 hj2 => ?_⟩
    · show zexn ob oc fs ((s, bn, us, n, ct) : zX) (w.length + 1) = _
      rw [zexn_fr (show 0 < s by omega), hx, e1]
      show (0, b2, u2, n + 1 + w.length, ct + co ((O f).getD 0) + zwC O co w) = (0, b2, u2, n + (w.length + 1), ct + (co ((O f).getD 0) + zwC O co w))
      rw [show n + 1 + w.length = n + (w.length + 1) by omega, Nat.add_assoc]
    · have hj : j < n ∨ n + (w.length + 1) ≤ j := hj
      obtain ⟨a, b⟩ := e2 j (by omega)
      rw [a, b, zu_n (by omega), zu_n (by omega)]
      exact ⟨rfl, rfl⟩
    · show u2 n :: zli u2 w.length (n + 1) = f :: w
      rw [e3, (e2 n (by omega)).2, zu_s]
    · have hj2 : j < n + (w.length + 1) := hj2
      by_cases c : j = n
      · subst c
        rw [(e2 j (by omega)).1, (e2 j (by omega)).2, zu_s, zu_s]
      · exact e4 j (by omega) (by omega)
