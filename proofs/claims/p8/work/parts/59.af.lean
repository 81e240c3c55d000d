/-! a cell more at x, seen from the caller -/
def jaf (X Y : jG) (x : Nat) (L : List Nat) : Prop := jU Y ∧ ∀ q : Nat, Y.1 q = X.1 q ∨ (q = x ∧ (Y.1 q).1 ∈ L)
theorem af_rf {X : jG} (x : Nat) (L : List Nat) (hU : jU X) : jaf X X x L := ⟨hU, fun _ => Or.inl rfl⟩
theorem af_up {X Y Z : jG} {x : Nat} {L : List Nat} (h : jaf X Y x L) (h2 : jup Y Z) : jaf X Z x L := by
  refine ⟨up_U h2 h.1, fun q => ?_⟩
  rw [h2.1]
  exact h.2 q
theorem prl_af {X Y Z : jG} {o x : Nat} {L M : List Nat} (h : prl X Y o L) (h2 : jaf Y Z x M) (h0 : (Y.1 x).2.1 = 0) (hxo : x ≠ o) (hs : ∀ c ∈ M, c ∈ L) : prl X Z o L := by
  have hx0 : (X.1 x).2.1 = 0 := by
    rcases h.2.2 x with e | e
    · rw [← e]
      exact h0
    · exact e.1
  refine ⟨h2.1, ?_, fun q => ?_⟩
  · rcases h2.2 o with e | e
    · rw [e]
      exact h.2.1
    · exact absurd e.1.symm hxo
  · rcases h2.2 q with e | e
    · rw [e]
      exact h.2.2 q
    · obtain ⟨e1, e2⟩ := e
      subst e1
      exact Or.inr ⟨hx0, hxo, hs _ e2⟩
theorem prl_nw {X Y Z : jG} {o x n : Nat} {L : List Nat} {M : List kTy} (h : prl X Y o L) (h2 : jnw0 Y Z x n M) (hU : jU Z) (hxo : o ≠ x) (hon : o < n) (hs : ∀ t ∈ M, t.1 ∈ L) : prl X Z o L := by
  refine ⟨hU, ?_, fun q => ?_⟩
  · rw [nw_eq h2 hxo hon]
    exact h.2.1
  · rcases h2.2 q with e | e
    · rw [e.1]
      exact h.2.2 q
    · refine Or.inr ⟨?_, ?_, hs _ e.2.2⟩
      · rcases h.2.2 q with e3 | e3
        · rw [← e3]
          exact e.2.1
        · exact e3.1
      · intro e4
        subst e4
        omega
theorem prl_mul {X Y : jG} {o x N : Nat} {L : List Nat} {t tr : kTy} (h : prl X Y o L) (h0 : ∀ q : Nat, x ≤ q → (Y.1 q).2.1 = 0) (hU : jU (jmul Y x N t tr)) (ho : o < x) (ht : t.1 ∈ L) (htr : tr.1 ∈ L) : prl X (jmul Y x N t tr) o L := by
  have hx0 : ∀ q : Nat, x ≤ q → (X.1 q).2.1 = 0 := fun q hq => by
    rcases h.2.2 q with e | e
    · rw [← e]
      exact h0 q hq
    · exact e.1
  refine ⟨hU, ?_, fun q => ?_⟩
  · rw [jmul_ne Y t tr (Or.inl ho)]
    exact h.2.1
  · by_cases e : q = x
    · rw [e, jmul_self]
      exact Or.inr ⟨hx0 x (Nat.le_refl _), by omega, ht⟩
    · by_cases e2 : x < q ∧ q < x + 1 + N
      · rw [jmul_row Y t tr e2]
        exact Or.inr ⟨hx0 q (by omega), by omega, htr⟩
      · rw [jmul_ne Y t tr (by omega)]
        exact h.2.2 q
theorem af_set {X : jG} {x : Nat} {t : kTy} {L : List Nat} (n : Nat) (hU : jU (jset X x t n)) (ht : t.1 ∈ L) : jaf X (jset X x t n) x L := by
  refine ⟨hU, fun q => ?_⟩
  by_cases e : q = x
  · rw [e, jset_self]
    exact Or.inr ⟨rfl, ht⟩
  · rw [jset_ne X t n e]
    exact Or.inl rfl
theorem jru_U {X : jG} {x ar : Nat} (b d : Int) (hU : jU X) (hn : ∀ q : Nat, X.1 q ≠ (7, 30, X.2.2.2, 0, 0)) : jU (jru X x ar b d) := by
  have es : (jru X x ar b d).1 x = (7, 30, X.2.2.2, 0, 0) := if_pos rfl
  have en : ∀ q : Nat, q ≠ x → (jru X x ar b d).1 q = X.1 q := fun q hq => if_neg hq
  intro p q e ht hu
  by_cases e1 : p = x
  · by_cases e2 : q = x
    · rw [e1, e2]
    · rw [e1, es, en q e2] at e
      exact absurd e.symm (hn q)
  · rw [en p e1] at e ht hu
    by_cases e2 : q = x
    · rw [e2, es] at e
      exact absurd e (hn p)
    · rw [en q e2] at e
      exact hU p q e ht hu
theorem jru_af {X : jG} {x ar : Nat} {L : List Nat} (b d : Int) (hU : jU (jru X x ar b d)) (hL : 7 ∈ L) : jaf X (jru X x ar b d) x L := by
  refine ⟨hU, fun q => ?_⟩
  by_cases e : q = x
  · exact Or.inr ⟨e, by rw [e, show (jru X x ar b d).1 x = (7, 30, X.2.2.2, 0, 0) from if_pos rfl]; exact hL⟩
  · exact Or.inl (if_neg e)
/-- a rule's number is below their count -/
theorem jv_no7 {D : va_G} {ca : Nat → ClassId} {A : Nat → Prop} {X : jG} {H : Heap} (h : jv D ca A X H) : ∀ q : Nat, X.1 q ≠ (7, 30, X.2.2.2, 0, 0) := by
  intro q hq
  obtain ⟨fs, -, ln, l1, e1, b1, c1, c2, c3, c4, c5, n1, -, -, -, -, -, -, -, -, -, -, -, -, hid, -⟩ := jv_o7 h hq
  exact Nat.lt_irrefl _ hid
theorem jb_zero (X : jG) (n : Nat) : jb X 0 n := by
  have e : ∀ i : Nat, i < 32 → bt (kz 0) i = false := by decide +kernel
  refine ⟨fun i hi _ => e i hi, fun j hj hb => ?_⟩
  by_cases h : j < 32
  · rw [e j h] at hb
    cases hb
  · rw [b_big (by omega)] at hb
    cases hb
theorem af_t {X Y : jG} {x : Nat} {L : List Nat} (h : jaf X Y x L) (h0 : (X.1 x).2.1 = 0) {a : Nat} {t : kTy} (hg : X.1 a = t) (ht : t.2.1 ≠ 0) : Y.1 a = t := by
  rcases h.2 a with e | e
  · rw [e]
    exact hg
  · obtain ⟨e1, e2⟩ := e
    subst e1
    rw [hg] at h0
    exact absurd h0 ht
theorem af_o {X Y : jG} {x o : Nat} {L : List Nat} (h : jaf X Y x L) (hne : o ≠ x) : Y.1 o = X.1 o := by
  rcases h.2 o with e | e
  · exact e
  · exact absurd e.1 hne
theorem nw_9 {X Y : jG} {a n tg : Nat} {L : List kTy} (h : jnw0 X Y a n L) (h9 : ∀ q : Nat, (X.1 q).2.1 ≠ 0 → (X.1 q).1 = 9 → q = tg) (hL : ∀ t ∈ L, t.1 ≠ 9) : ∀ q : Nat, (Y.1 q).2.1 ≠ 0 → (Y.1 q).1 = 9 → q = tg := fun q hq e => by
  rcases h.2 q with e1 | e1
  · rw [e1.1] at hq e
    exact h9 q hq e
  · exact absurd e (hL _ e1.2.2)
theorem nw_A {D : va_G} {ca : Nat → ClassId} {A : Nat → Prop} {X Y : jG} {H : Heap} {x n : Nat} {L : List kTy} (h : jv D ca A X H) (hn : jnw0 X Y x n L) (hx : A x) (hA : ∀ q : Nat, n ≤ q → A q) : ∀ q : Nat, (Y.1 q).2.1 ≠ 0 → A q := by
  intro q hq
  rcases hn.2 q with e | e
  · exact (h q (by rw [← e.1]; exact hq)).1
  · rcases e.1 with e2 | e2
    · rw [e2]
      exact hx
    · exact hA q e2
