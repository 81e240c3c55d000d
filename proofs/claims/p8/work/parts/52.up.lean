/-! more first places of arrays of forms are known to be there: all else of the kinds stays -/
def jup (X Y : jG) : Prop := Y.1 = X.1 ∧ Y.2.2 = X.2.2 ∧ ∀ q : Nat, X.2.1 q ≤ Y.2.1 q ∧ ((X.1 q).2.1 ≠ 24 → Y.2.1 q = X.2.1 q)
theorem jup_rf (X : jG) : jup X X := ⟨rfl, rfl, fun _ => ⟨Nat.le_refl _, fun _ => rfl⟩⟩
theorem jup_tr {X Y Z : jG} (h : jup X Y) (h2 : jup Y Z) : jup X Z :=
  ⟨h2.1.trans h.1, h2.2.1.trans h.2.1, fun q => ⟨Nat.le_trans (h.2.2 q).1 (h2.2.2 q).1, fun hq => ((h2.2.2 q).2 (by rw [h.1]; exact hq)).trans ((h.2.2 q).2 hq)⟩⟩
theorem up_t {X Y : jG} (h : jup X Y) {a : Nat} {t : kTy} (hg : X.1 a = t) : Y.1 a = t := by
  rw [h.1]
  exact hg
theorem up_U {X Y : jG} (h : jup X Y) (hU : jU X) : jU Y := by
  unfold jU at *
  rw [h.1]
  exact hU
theorem up_n {X Y : jG} (h : jup X Y) {a : Nat} {t : kTy} (hg : X.1 a = t) (ht : t.2.1 ≠ 24) : Y.2.1 a = X.2.1 a := (h.2.2 a).2 (by rw [hg]; exact ht)
theorem jv_up {D : va_G} {ca : Nat → ClassId} {A : Nat → Prop} {X : jG} {H : Heap} {a cd m : Nat} {lo hi : Int} {f : Nat → Option Nat} (n : Nat) (h : jv D ca A X H) (hg : X.1 a = (cd, 24, m, lo, hi)) (hc : va_at D vwCl (a, je_q ca m 24 f) H) (hf : ∀ j : Nat, j < m → (∀ b : Nat, f j = some b → X.1 b = (2, 30, 0, 0, 0)) ∧ (j < X.2.1 a → f j ≠ none)) (hn : ∀ j : Nat, j < n → j < m → f j ≠ none) : ∃ Y : jG, jup X Y ∧ jv D ca A Y H ∧ n ≤ Y.2.1 a := by
  refine ⟨jxr X a n, ⟨rfl, rfl, fun q => ⟨jxr_le X a n q, fun hq => jxr_ne X n (fun e => hq (by rw [e, hg]))⟩⟩, jv_xr h hg hc hf hn, ?_⟩
  rw [jxr_self]
  omega
/-- cells of other kinds than these stay as they were -/
def kfk (X : jG) (L : List kTy) (H0 H : Heap) : Prop := ∀ q : Nat, X.1 q ∉ L → H[q]? = H0[q]?
theorem fk_rf (X : jG) (L : List kTy) (H : Heap) : kfk X L H H := fun _ _ => rfl
theorem fk_put {X : jG} {L : List kTy} {H0 H H1 : Heap} {a : Nat} {t : kTy} (h : kfk X L H0 H) (hg : X.1 a = t) (hc : t ∈ L) (oq : ∀ q : Nat, q ≠ a → H1[q]? = H[q]?) : kfk X L H0 H1 := fun q hq => (oq q (fun e => hq (by rw [e, hg]; exact hc))).trans (h q hq)
theorem fk_at {D : va_G} {X : jG} {L : List kTy} {H0 H : Heap} {a : Nat} {t : kTy} {x : va_E} (h : kfk X L H0 H) (hg : X.1 a = t) (hc : t ∉ L) (hx : va_at D vwCl (a, x) H0) : va_at D vwCl (a, x) H := hx.kept (h a (by rw [hg]; exact hc))
theorem fk_up {X Y : jG} {L : List kTy} {H0 H : Heap} (h : jup X Y) (hF : kfk X L H0 H) : kfk Y L H0 H := by
  unfold kfk at *
  rw [h.1]
  exact hF
theorem fk_dn {X Y : jG} {L : List kTy} {H0 H : Heap} (h : jup X Y) (hF : kfk Y L H0 H) : kfk X L H0 H := by
  unfold kfk at *
  rw [h.1] at hF
  exact hF
theorem fk_tr {X : jG} {L L2 : List kTy} {H0 H H1 : Heap} (h : kfk X L H0 H) (h2 : kfk X L2 H H1) (hs : ∀ c ∈ L2, c ∈ L) : kfk X L H0 H1 := fun q hq => (h2 q (fun e => hq (hs _ e))).trans (h q hq)
theorem fm_up {X Y : jG} {L : List Nat} {H0 H : Heap} (h : jup X Y) (hF : kfm X L H0 H) : kfm Y L H0 H := by
  unfold kfm at *
  rw [h.1]
  exact hF
theorem fm_dn {X Y : jG} {L : List Nat} {H0 H : Heap} (h : jup X Y) (hF : kfm Y L H0 H) : kfm X L H0 H := by
  unfold kfm at *
  rw [h.1] at hF
  exact hF
theorem fk_fm {X : jG} {L : List kTy} {M : List Nat} {H0 H : Heap} (h : kfk X L H0 H) (hs : ∀ t ∈ L, t.1 ∈ M) : kfm X M H0 H := fun q hq => h q (fun e => hq (hs _ e))
/-- a chain's own cells -/
def Lc (id : Nat) : List kTy := [(0, 30, id, 0, 0), (210, 24, 40, 2, (id : Int)), (211, 25, 40, 7, (id : Int))]
theorem Lc_code (id : Nat) : ∀ t ∈ Lc id, t.1 ∈ [0, 210, 211] := by
  intro t ht
  simp [Lc] at ht
  rcases ht with rfl | rfl | rfl <;> simp
theorem q24_up {X : jG} {a n z v : Nat} {f : Nat → Option Nat} (h : ∀ j : Nat, j < n → (∀ b : Nat, f j = some b → X.1 b = (2, 30, 0, 0, 0)) ∧ (j < X.2.1 a → f j ≠ none)) (hv : X.1 v = (2, 30, 0, 0, 0)) : ∀ j : Nat, j < n → (∀ b : Nat, va_up f z (some v) j = some b → X.1 b = (2, 30, 0, 0, 0)) ∧ (j < X.2.1 a → va_up f z (some v) j ≠ none) := by
  intro j hj
  unfold va_up
  by_cases e : j = z
  · rw [if_pos e]
    exact ⟨fun b hb => by cases hb; exact hv, fun _ => by simp⟩
  · rw [if_neg e]
    exact h j hj
theorem q25_up {X : jG} {n z v i : Nat} {f : Nat → Option Nat} (h : ∀ j : Nat, j < n → ∀ b : Nat, f j = some b → ∃ i : Nat, X.1 b = (7, 30, i, 0, 0)) (hv : X.1 v = (7, 30, i, 0, 0)) : ∀ j : Nat, j < n → ∀ b : Nat, va_up f z (some v) j = some b → ∃ i : Nat, X.1 b = (7, 30, i, 0, 0) := by
  intro j hj b hb
  unfold va_up at hb
  by_cases e : j = z
  · rw [if_pos e] at hb
    cases hb
    exact ⟨i, hv⟩
  · rw [if_neg e] at hb
    exact h j hj b hb
theorem q25_upN {X : jG} {n z : Nat} {f : Nat → Option Nat} (h : ∀ j : Nat, j < n → ∀ b : Nat, f j = some b → ∃ i : Nat, X.1 b = (7, 30, i, 0, 0)) : ∀ j : Nat, j < n → ∀ b : Nat, va_up f z none j = some b → ∃ i : Nat, X.1 b = (7, 30, i, 0, 0) := by
  intro j hj b hb
  unfold va_up at hb
  by_cases e : j = z
  · rw [if_pos e] at hb
    cases hb
  · rw [if_neg e] at hb
    exact h j hj b hb
theorem up_some {f : Nat → Option Nat} {z v n : Nat} (h : ∀ j : Nat, j < z → f j ≠ none) : ∀ j : Nat, j < z + 1 → j < n → va_up f z (some v) j ≠ none := by
  intro j hj _
  unfold va_up
  by_cases e : j = z
  · rw [if_pos e]
    simp
  · rw [if_neg e]
    exact h j (by omega)
/-- what a call of the class leaves of the kinds, seen from its caller -/
def prl (X Y : jG) (o : Nat) (L : List Nat) : Prop := jU Y ∧ Y.1 o = X.1 o ∧ ∀ q : Nat, Y.1 q = X.1 q ∨ ((X.1 q).2.1 = 0 ∧ q ≠ o ∧ (Y.1 q).1 ∈ L)
theorem prl_rf {X : jG} (o : Nat) (L : List Nat) (hU : jU X) : prl X X o L := ⟨hU, rfl, fun _ => Or.inl rfl⟩
theorem prl_up {X Y Z : jG} {o : Nat} {L : List Nat} (h : prl X Y o L) (h2 : jup Y Z) : prl X Z o L := by
  refine ⟨up_U h2 h.1, by rw [h2.1]; exact h.2.1, fun q => ?_⟩
  rw [h2.1]
  exact h.2.2 q
