/-! what a constructor makes -/
def jA (a n : Nat) : Nat → Prop := fun q => q = a ∨ n ≤ q
/-- Y has the kinds of X, and at the cell a and behind n more of those in L -/
def jnw0 (X Y : jG) (a n : Nat) (L : List kTy) : Prop := Y.2.2 = X.2.2 ∧ ∀ q : Nat, (Y.1 q = X.1 q ∧ Y.2.1 q = X.2.1 q) ∨ ((q = a ∨ n ≤ q) ∧ (X.1 q).2.1 = 0 ∧ Y.1 q ∈ L)
def jnw (X Y : jG) (a n : Nat) (t : kTy) (L : List kTy) : Prop := jnw0 X Y a n L ∧ Y.1 a = t ∧ jU Y
theorem nw_rf (X : jG) (a n : Nat) (L : List kTy) : jnw0 X X a n L := ⟨rfl, fun _ => Or.inl ⟨rfl, rfl⟩⟩
theorem nw_le {X Y : jG} {a n : Nat} {L : List kTy} (h : jnw0 X Y a n L) : jle X Y := ⟨fun q hq => by
  rcases h.2 q with e | e
  · exact e
  · exact absurd e.2.1 hq, h.1⟩
theorem nw_0 {X Y : jG} {a n q : Nat} {L : List kTy} (h : jnw0 X Y a n L) (h0 : (X.1 q).2.1 = 0) (h1 : q ≠ a) (h2 : q < n) : (Y.1 q).2.1 = 0 := by
  rcases h.2 q with e | e
  · rw [e.1]
    exact h0
  · omega
theorem nw_eq {X Y : jG} {a n q : Nat} {L : List kTy} (h : jnw0 X Y a n L) (h1 : q ≠ a) (h2 : q < n) : Y.1 q = X.1 q := by
  rcases h.2 q with e | e
  · exact e.1
  · omega
theorem nw_x0 {X Y : jG} {a n q : Nat} {L : List kTy} (h : jnw0 X Y a n L) (h0 : (Y.1 q).2.1 = 0) : (X.1 q).2.1 = 0 := by
  rcases h.2 q with e | e
  · rw [← e.1]
    exact h0
  · exact e.2.1
theorem nw_no {X Y : jG} {a n : Nat} {L : List kTy} {t : kTy} (h : jnw0 X Y a n L) (hn : ∀ q : Nat, X.1 q ≠ t) (hL : t ∉ L) : ∀ q : Nat, Y.1 q ≠ t := fun q e => by
  rcases h.2 q with e1 | e1
  · exact hn q (e1.1.symm.trans e)
  · rw [e] at e1
    exact hL e1.2.2
theorem nw_set {X Y : jG} {a n x : Nat} {L : List kTy} {t : kTy} (k : Nat) (h : jnw0 X Y a n L) (h0 : (Y.1 x).2.1 = 0) (hx : x = a ∨ n ≤ x) (ht : t ∈ L) : jnw0 X (jset Y x t k) a n L := by
  refine ⟨h.1, fun q => ?_⟩
  by_cases e : q = x
  · rw [e]
    exact Or.inr ⟨hx, nw_x0 h h0, by rw [jset_self]; exact ht⟩
  · rw [jset_ne Y t k e, jset_ne2 Y t k e]
    exact h.2 q
theorem nw_mul {X Y : jG} {a n x N : Nat} {L : List kTy} {t tr : kTy} (h : jnw0 X Y a n L) (h0 : ∀ q : Nat, x ≤ q → (Y.1 q).2.1 = 0) (hx : n ≤ x) (ht : t ∈ L) (htr : tr ∈ L) : jnw0 X (jmul Y x N t tr) a n L := by
  refine ⟨h.1, fun q => ?_⟩
  by_cases e : q = x
  · rw [e]
    exact Or.inr ⟨Or.inr hx, nw_x0 h (h0 x (Nat.le_refl _)), by rw [jmul_self]; exact ht⟩
  · by_cases e2 : x < q ∧ q < x + 1 + N
    · exact Or.inr ⟨Or.inr (by omega), nw_x0 h (h0 q (by omega)), by rw [jmul_row Y t tr e2]; exact htr⟩
    · rw [jmul_ne Y t tr (by omega)]
      exact h.2 q
theorem nw_tr {X Y Z : jG} {a n x k : Nat} {L M : List kTy} (h : jnw0 X Y a n L) (h2 : jnw0 Y Z x k M) (hx : x = a ∨ n ≤ x) (hk : n ≤ k) (hs : ∀ t ∈ M, t ∈ L) : jnw0 X Z a n L := by
  refine ⟨h2.1.trans h.1, fun q => ?_⟩
  rcases h2.2 q with e | e
  · rw [e.1, e.2]
    exact h.2 q
  · refine Or.inr ⟨?_, nw_x0 h e.2.1, hs _ e.2.2⟩
    rcases e.1 with e3 | e3
    · rw [e3]
      exact hx
    · exact Or.inr (by omega)
/-- the number of the chain that a kind belongs to -/
def fid (t : kTy) : Int := if t.1 = 0 ∨ t.1 = 5 then (t.2.2.1 : Int) else if t.1 = 210 ∨ t.1 = 211 then t.2.2.2.2 else -1
theorem fid_no {X : jG} {id : Int} (h : ∀ q : Nat, (X.1 q).2.1 ≠ 0 → fid (X.1 q) ≠ id) {t : kTy} (ht : t.2.1 ≠ 0) (hf : fid t = id) : ∀ q : Nat, X.1 q ≠ t := fun q e => h q (by rw [e]; exact ht) (by rw [e]; exact hf)
theorem fid_nw {X Y : jG} {a n : Nat} {L : List kTy} {id : Int} (h : jnw0 X Y a n L) (hf : ∀ q : Nat, (X.1 q).2.1 ≠ 0 → fid (X.1 q) ≠ id) (hL : ∀ t ∈ L, fid t ≠ id) : ∀ q : Nat, (Y.1 q).2.1 ≠ 0 → fid (Y.1 q) ≠ id := fun q hq => by
  rcases h.2 q with e | e
  · rw [e.1] at hq ⊢
    exact hf q hq
  · exact hL _ e.2.2
theorem Lc_fid (id : Nat) : ∀ t ∈ Lc id, fid t = (id : Int) := by
  intro t ht
  simp [Lc] at ht
  rcases ht with rfl | rfl | rfl <;> simp [fid]
theorem Lp_fid (id : Nat) : ∀ t ∈ Lp id, fid t = (id : Int) := by
  intro t ht
  rcases List.mem_cons.mp ht with rfl | h
  · simp [fid]
  · exact Lc_fid id t h
/-- ids of chains that are not there yet, of a list -/
def fidL (X : jG) (S : List Int) : Prop := ∀ q : Nat, (X.1 q).2.1 ≠ 0 → fid (X.1 q) ∉ S
theorem fidL_nw {X Y : jG} {a n : Nat} {L : List kTy} {S S2 : List Int} (h : jnw0 X Y a n L) (hf : fidL X S) (hs : ∀ i ∈ S2, i ∈ S) (hL : ∀ t ∈ L, fid t ∉ S2) : fidL Y S2 := fun q hq => by
  rcases h.2 q with e | e
  · rw [e.1] at hq ⊢
    exact fun h9 => hf q hq (hs _ h9)
  · exact hL _ e.2.2
theorem fidL_set {X : jG} {x : Nat} {t : kTy} {S : List Int} (n : Nat) (hf : fidL X S) (ht : fid t ∉ S) : fidL (jset X x t n) S := fun q hq => by
  by_cases e : q = x
  · rw [e, jset_self]
    exact ht
  · rw [jset_ne X t n e] at hq ⊢
    exact hf q hq
theorem fidL_mul {X : jG} {x N : Nat} {t tr : kTy} {S : List Int} (hf : fidL X S) (ht : fid t ∉ S) (htr : fid tr ∉ S) : fidL (jmul X x N t tr) S := fun q hq => by
  by_cases e : q = x
  · rw [e, jmul_self]
    exact ht
  · by_cases e2 : x < q ∧ q < x + 1 + N
    · rw [jmul_row X t tr e2]
      exact htr
    · rw [jmul_ne X t tr (by omega)] at hq ⊢
      exact hf q hq
theorem fidL_no {X : jG} {S : List Int} (h : fidL X S) {t : kTy} (ht : t.2.1 ≠ 0) (hf : fid t ∈ S) : ∀ q : Nat, X.1 q ≠ t := fun q e => h q (by rw [e]; exact ht) (by rw [e]; exact hf)
