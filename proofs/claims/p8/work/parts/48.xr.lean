/-! more first places of an array of forms are known to be there -/
def jxr (X : jG) (a n : Nat) : jG := (X.1, fun q => if q = a then max (X.2.1 a) n else X.2.1 q, X.2.2)
theorem jxr_le (X : jG) (a n q : Nat) : X.2.1 q ≤ (jxr X a n).2.1 q := by
  show X.2.1 q ≤ if q = a then max (X.2.1 a) n else X.2.1 q
  by_cases h : q = a
  · rw [if_pos h, h]
    omega
  · rw [if_neg h]
    exact Nat.le_refl _
theorem jxr_self (X : jG) (a n : Nat) : (jxr X a n).2.1 a = max (X.2.1 a) n := if_pos rfl
theorem jxr_ne (X : jG) {a q : Nat} (n : Nat) (h : q ≠ a) : (jxr X a n).2.1 q = X.2.1 q := if_neg h
theorem jo_xr {X : jG} {ci id a n : Nat} {fs : List Value} (h : jo X ci id fs) (hne : ci = 2 → id ≠ a) : jo (jxr X a n) ci id fs := by
  obtain ⟨h0, h1, h2, h3, h4, h5, h6, h7, h8, h9, h10⟩ := h
  refine ⟨fun q => ?_, h1, fun q => ?_, h3, h4, h5, h6, h7, h8, fun q => ?_, h10⟩
  · obtain ⟨f, r, k, e, g1, g2, g3, g4⟩ := h0 q
    have := jxr_le X a n f
    exact ⟨f, r, k, e, g1, g2, g3, by omega⟩
  · obtain ⟨ln, l1, k1, s1, kp, c1, nu, en, be, e, g1, g2, g3, g4, g5, g6, g7, g8, g9, g10, g11, g12⟩ := h2 q
    exact ⟨ln, l1, k1, s1, kp, c1, nu, en, be, e, g1, g2, g3, g4, g5, g6, g7, g8, g9, g10, g11, by rw [jxr_ne X n (hne q)]; exact g12⟩
  · obtain ⟨f, r, fc, rc, fb, e, g1, g2, g3, g4, g5, g6, g7, g8⟩ := h9 q
    have h1 := jxr_le X a n f
    have h2 := jxr_le X a n r
    exact ⟨f, r, fc, rc, fb, e, g1, g2, g3, g4, g5, by omega, by omega, g8⟩
theorem jv_xr {D : va_G} {ca : Nat → ClassId} {A : Nat → Prop} {X : jG} {H : Heap} {a cd m n : Nat} {lo hi : Int} {f : Nat → Option Nat} (h : jv D ca A X H) (hg : X.1 a = (cd, 24, m, lo, hi)) (hc : va_at D vwCl (a, je_q ca m 24 f) H) (hf : ∀ j : Nat, j < m → (∀ b : Nat, f j = some b → X.1 b = (2, 30, 0, 0, 0)) ∧ (j < X.2.1 a → f j ≠ none)) (hn : ∀ j : Nat, j < n → j < m → f j ≠ none) : jv D ca A (jxr X a n) H := by
  intro q hq
  obtain ⟨h1, x, h2, h3⟩ := h q hq
  refine ⟨h1, ?_⟩
  by_cases e : q = a
  · subst e
    refine ⟨_, hc, ?_⟩
    show jv_e ca (jxr X q n) q (X.1 q) _
    rw [hg]
    refine ⟨⟨fun t => absurd t (show ¬ (24 : Nat) = 20 by decide), fun t => absurd t (show ¬ (24 : Nat) = 21 by decide), fun t => absurd t (show ¬ (24 : Nat) = 22 by decide), fun t => absurd t (show ¬ (24 : Nat) = 23 by decide)⟩, fun _ => ⟨f, rfl, fun j hj => ⟨(hf j hj).1, fun hl => ?_⟩⟩, fun t => absurd t (show ¬ (24 : Nat) = 25 by decide), fun t => absurd t (show ¬ (24 : Nat) = 29 by decide), fun t => absurd t (show ¬ (24 : Nat) = 26 by decide), fun t => absurd t (show ¬ (24 : Nat) = 27 by decide), fun t => absurd t (show ¬ (24 : Nat) = 28 by decide), fun t => absurd t (show ¬ (24 : Nat) = 30 by decide), fun _ t => absurd t (show ¬ (24 : Nat) = 21 by decide)⟩
    rw [jxr_self] at hl
    by_cases e2 : j < X.2.1 q
    · exact (hf j hj).2 e2
    · exact hn j (by omega) hj
  · refine ⟨x, h2, ?_⟩
    show jv_e ca (jxr X a n) q (X.1 q) x
    obtain ⟨k1, k2, k3, k4, k5, k6, k7, k8, k9⟩ := h3
    refine ⟨k1, fun t => ?_, k3, fun t => ?_, k5, k6, k7, fun t => ?_, k9⟩
    · obtain ⟨f9, e9, p9⟩ := k2 t
      exact ⟨f9, e9, fun j hj => ⟨(p9 j hj).1, fun hl => (p9 j hj).2 (by rw [jxr_ne X n e] at hl; exact hl)⟩⟩
    · obtain ⟨f9, e9, p9⟩ := k4 t
      exact ⟨f9, e9, fun j hj => ⟨(p9 j hj).1, fun hl => (p9 j hj).2 (by rw [jxr_ne X n e] at hl; exact hl)⟩⟩
    · obtain ⟨fs, e9, p9⟩ := k8 t
      exact ⟨fs, e9, jo_xr p9 (fun t2 => by unfold jid; rw [if_pos t2]; exact e)⟩
