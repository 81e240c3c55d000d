/-! chains with their contents -/
def pch (D : va_G) (ca : Nat → ClassId) (X : jG) (id : Nat) (H : Heap) : Prop := ∃ (ch fo ru : Nat) (sz : Int) (ff fr : Nat → Option Nat), X.1 ch = (0, 30, id, 0, 0) ∧ X.1 fo = (210, 24, 40, 2, (id : Int)) ∧ X.1 ru = (211, 25, 40, 7, (id : Int)) ∧ va_at D vwCl (ch, .inr (0, [.ref fo, .ref ru, .int (kz sz)])) H ∧ va_at D vwCl (fo, je_q ca 40 24 ff) H ∧ va_at D vwCl (ru, je_q ca 40 25 fr) H ∧ (0 ≤ sz ∧ sz ≤ 40) ∧ sz ≤ (X.2.1 fo : Int) ∧ ∀ a : Nat, lst ff sz = some a → X.1 a = (2, 30, 0, 0, 0) ∧ cutv X (lst fr sz) ≤ (X.2.1 a : Int)
theorem pch_up {D : va_G} {ca : Nat → ClassId} {X Y : jG} {id : Nat} {H : Heap} (h : jup X Y) (hp : pch D ca X id H) : pch D ca Y id H := by
  obtain ⟨ch, fo, ru, sz, ff, fr, g2, g3, g4, c2, c3, c4, r6, r7, r8⟩ := hp
  refine ⟨ch, fo, ru, sz, ff, fr, up_t h g2, up_t h g3, up_t h g4, c2, c3, c4, r6, ?_, fun a ha => ?_⟩
  · have := (h.2.2 fo).1
    omega
  · obtain ⟨q1, q2⟩ := r8 a ha
    refine ⟨up_t h q1, ?_⟩
    rw [cutv_up h, up_n h q1 (show (30 : Nat) ≠ 24 by decide)]
    exact q2
theorem pch_keep {D : va_G} {ca : Nat → ClassId} {X : jG} {id : Nat} {H H1 : Heap} (hp : pch D ca X id H) (oq : ∀ q : Nat, X.1 q ∈ Lc id → H1[q]? = H[q]?) : pch D ca X id H1 := by
  obtain ⟨ch, fo, ru, sz, ff, fr, g2, g3, g4, c2, c3, c4, r⟩ := hp
  exact ⟨ch, fo, ru, sz, ff, fr, g2, g3, g4, c2.kept (oq ch (by rw [g2]; simp [Lc])), c3.kept (oq fo (by rw [g3]; simp [Lc])), c4.kept (oq ru (by rw [g4]; simp [Lc])), r⟩
theorem pok_mk {D : va_G} {ca : Nat → ClassId} {X : jG} {tf : Nat → Option Nat} {id b ch : Nat} {co sp pl en rk : Int} {H : Heap} (hU : jU X) (g1 : X.1 b = (5, 30, id, 0, 0)) (g2 : X.1 ch = (0, 30, id, 0, 0)) (c1 : va_at D vwCl (b, .inr (5, [.ref ch, .int (kz co), .int (kz sp), .int (kz pl), .int (kz en), .int (kz rk)])) H) (r1 : -2147483648 ≤ co ∧ co ≤ 2147483647) (r2 : -2147483648 ≤ sp ∧ sp ≤ 2147483647) (r3 : 0 ≤ pl ∧ pl ≤ 60) (r4 : 0 ≤ en ∧ en ≤ 1) (r5 : 0 ≤ rk ∧ rk ≤ 7) (hp : pch D ca X id H) : ∃ Gp : Int → Prop, pok D ca X tf id rk Gp H := by
  obtain ⟨ch2, fo, ru, sz, ff, fr, g3, g4, g5, c2, c3, c4, r6, r7, r8⟩ := hp
  have e : ch = ch2 := jU_eq hU g2 g3 (show (30 : Nat) ≠ 0 by decide) (show uq 0 = true by decide)
  subst e
  exact ⟨_, b, ch, fo, ru, co, sp, pl, en, sz, ff, fr, g1, g2, g4, g5, c1, c2, c3, c4, r1, r2, r3, r4, r5, r6, r7, r8, rfl⟩
theorem lst_up {f : Nat → Option Nat} {sz : Int} {v : Option Nat} (h : 0 ≤ sz) : lst (va_up f (Int.toNat sz) v) (sz + 1) = v := by
  unfold lst
  rw [if_pos (by omega), show sz + 1 - 1 = sz by omega]
  exact if_pos rfl
theorem lst_eq {f g : Nat → Option Nat} {sz : Int} (h : ∀ j : Nat, (j : Int) < sz → f j = g j) : lst f sz = lst g sz := by
  unfold lst
  by_cases e : 0 ≤ sz - 1 ∧ sz - 1 < sz
  · rw [if_pos e, if_pos e]
    exact h _ (by omega)
  · rw [if_neg e, if_neg e]
theorem up_cp {f g h : Nat → Option Nat} {k : Int} {v : Option Nat} (hk : 0 ≤ k) (hf : ∀ j : Nat, (j : Int) < k → f j = h j) (hg : g = va_up f (Int.toNat k) v) (hv : h (Int.toNat k) = v) : ∀ j : Nat, (j : Int) < k + 1 → g j = h j := by
  intro j hj
  rw [hg]
  unfold va_up
  by_cases e : j = Int.toNat k
  · rw [if_pos e, e, hv]
  · rw [if_neg e]
    exact hf j (by omega)
theorem kn_nT {T : Nat → kTy} {a b : Nat} {t u : kTy} (h1 : T a = t) (h2 : T b = u) (h : t ≠ u) : a ≠ b := fun e => h (by rw [← h1, ← h2, e])
theorem ne0 {i j : Nat} (h : i ≠ j) : ((0, 30, i, 0, 0) : kTy) ≠ (0, 30, j, 0, 0) := by simp [h]
theorem ne5 {i j : Nat} (h : i ≠ j) : ((5, 30, i, 0, 0) : kTy) ≠ (5, 30, j, 0, 0) := by simp [h]
theorem ne210 {i j : Nat} (h : i ≠ j) : ((210, 24, 40, 2, (i : Int)) : kTy) ≠ (210, 24, 40, 2, (j : Int)) := by
  simp
  omega
theorem ne211 {i j : Nat} (h : i ≠ j) : ((211, 25, 40, 7, (i : Int)) : kTy) ≠ (211, 25, 40, 7, (j : Int)) := by
  simp
  omega
theorem nLc0 {i j : Nat} (h : i ≠ j) : ((0, 30, i, 0, 0) : kTy) ∉ Lc j := by simp [Lc, h]
theorem nLc210 {i j : Nat} (h : i ≠ j) : ((210, 24, 40, 2, (i : Int)) : kTy) ∉ Lc j := by
  simp [Lc]
  omega
theorem nLc211 {i j : Nat} (h : i ≠ j) : ((211, 25, 40, 7, (i : Int)) : kTy) ∉ Lc j := by
  simp [Lc]
  omega
theorem nLp {i j : Nat} (h : i ≠ j) : ∀ t ∈ Lp i, t ∉ Lp j := by
  intro t ht
  simp [Lp, Lc] at ht
  rcases ht with rfl | rfl | rfl | rfl
  · simp [Lp, Lc, h]
  · simp [Lp, Lc, h]
  · simp [Lp, Lc]
    omega
  · simp [Lp, Lc]
    omega
