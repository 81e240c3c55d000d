def inR (v lo hi : Int32) : Prop := lo ≤ v ∧ v ≤ hi
def bP (r : Int32) (P : Prop) : Prop := (r = 1 ∧ P) ∨ (r = 0 ∧ ¬ P)
def vP (r : Int32) (P : Prop) (a b : Int32) : Prop := (P → r = a) ∧ (¬ P → r = b)
theorem vP_eq {r r2 a b : Int32} {P : Prop} (h : vP r P a b) (h2 : vP r2 P a b) : r = r2 := by
  rcases Classical.em P with q | q
  · rw [h.1 q, h2.1 q]
  · rw [h.2 q, h2.2 q]
theorem bP_eq {r r2 : Int32} {P : Prop} (h : bP r P) (h2 : bP r2 P) : r = r2 := by
  rcases h with ⟨h, q⟩ | ⟨h, q⟩ <;> rcases h2 with ⟨h2, q2⟩ | ⟨h2, q2⟩
  · rw [h, h2]
  · exact absurd q q2
  · exact absurd q2 q
  · rw [h, h2]
theorem vP_t {P : Prop} {a b : Int32} (h : P) : vP a P a b := ⟨fun _ => rfl, fun q => absurd h q⟩
theorem vP_f {P : Prop} {a b : Int32} (h : ¬ P) : vP b P a b := ⟨fun q => absurd q h, fun _ => rfl⟩
theorem bP_t {P : Prop} (h : P) : bP 1 P := Or.inl ⟨rfl, h⟩
theorem bP_f {P : Prop} (h : ¬ P) : bP 0 P := Or.inr ⟨rfl, h⟩
theorem le_nlt {x y : Int32} (h : ¬ x < y) : y ≤ x := by
  rw [Int32.lt_iff_toInt_lt] at h
  rw [Int32.le_iff_toInt_le]
  omega
theorem lt_nle {x y : Int32} (h : ¬ x ≤ y) : y < x := by
  rw [Int32.le_iff_toInt_le] at h
  rw [Int32.lt_iff_toInt_lt]
  omega
theorem nle_lt {x y : Int32} (h : x < y) : ¬ y ≤ x := by
  rw [Int32.lt_iff_toInt_lt] at h
  rw [Int32.le_iff_toInt_le]
  omega
theorem inR_i (v lo hi : Int32) : inR v lo hi ↔ lo.toInt ≤ v.toInt ∧ v.toInt ≤ hi.toInt := by
  unfold inR
  rw [Int32.le_iff_toInt_le, Int32.le_iff_toInt_le]
theorem inR_d {v lo hi : Int32} (h : hi.toInt < lo.toInt) : ¬ inR v lo hi := by
  rw [inR_i]
  omega
theorem inR_n {v hi : Int32} {n : Nat} (hn : hi.toInt = n) (h : inR v 0 hi) : ∃ j : Nat, j ≤ n ∧ v = nI j := by
  have h9 := (inR_i _ _ _).mp h
  have h0 : (0 : Int32).toInt = 0 := by decide
  rw [h0, hn] at h9
  refine nI_of2 hn (fun q => ?_) h.2
  rw [Int32.lt_iff_toInt_lt, h0] at q
  omega
/-- six kinds and six kinds: the place of a pair -/
theorem ix36 {a b : Int32} (ha : inR a 0 5) (hb : inR b 0 5) : ∃ j : Nat, j < 36 ∧ a * 6 + b = nI j := by
  obtain ⟨i, hi, rfl⟩ := inR_n (n := 5) (by decide) ha
  obtain ⟨k, hk, rfl⟩ := inR_n (n := 5) (by decide) hb
  refine ⟨i * 6 + k, by omega, ?_⟩
  rw [show (6 : Int32) = nI 6 from rfl, pk_mul, nI_add]
theorem ix36b {a b : Int32} (ha : inR a 0 5) (hb : inR b 0 5) : ∃ j : Nat, j < 36 ∧ 6 * a + b = nI j := by
  obtain ⟨i, hi, rfl⟩ := inR_n (n := 5) (by decide) ha
  obtain ⟨k, hk, rfl⟩ := inR_n (n := 5) (by decide) hb
  refine ⟨6 * i + k, by omega, ?_⟩
  rw [show (6 : Int32) = nI 6 from rfl, pk_mul, nI_add]
theorem sw_of {x k : Int32} {n : Int} (h : x.toInt = n) (hk : k.toInt = n) : x = k := Int32.toInt_inj.mp (h.trans hk.symm)
theorem rl_fin : ∀ i, i ≤ 3 → ∀ k, k ≤ 3 → (i = 0 ∧ k = 0) ∨ (0 - nI i - nI k).toInt < 0 := by decide
/-- what an END and a BEGINNING take of an empty tape leaves less than nothing -/
theorem rl_dead {ee bb y0 y1 y2 : Int32} (he : inR ee 0 3) (hb : inR bb 0 3) (e0 : y0 = ee + bb) (c : ¬ y0 ≤ 0) (e1 : y1 = 0 - ee) (e2 : y2 = y1 - bb) : ¬ inR y2 0 4 := by
  obtain ⟨i, hi, rfl⟩ := inR_n (n := 3) (by decide) he
  obtain ⟨k, hk, rfl⟩ := inR_n (n := 3) (by decide) hb
  rcases rl_fin i hi k hk with ⟨rfl, rfl⟩ | h
  · exact absurd (by rw [e0]; decide) c
  · rw [inR_i, e2, e1]
    have h0 : (0 : Int32).toInt = 0 := by decide
    rw [h0]
    omega
theorem kd_iff (k : Int32) : inR k (-1) 5 ↔ k = -1 ∨ inR k 0 5 := by
  have h1 : (-1 : Int32).toInt = -1 := by decide
  have h0 : (0 : Int32).toInt = 0 := by decide
  have h5 : (5 : Int32).toInt = 5 := by decide
  rw [inR_i, inR_i, ← Int32.toInt_inj, h1, h0, h5]
  omega
def cntV (w : Int32) : Int32 := if w = 6 then 1 else if 0 ≤ w ∧ w ≤ 7 then 0 else -1
theorem cnt_out {w : Int32} (h : w.toInt < 0 ∨ 7 < w.toInt) : (-1) = cntV w := by
  have h6 : ¬ w = 6 := fun q => by
    rw [q] at h
    exact absurd h (by decide)
  have h7 : ¬ (0 ≤ w ∧ w ≤ 7) := fun q => by
    rw [Int32.le_iff_toInt_le, Int32.le_iff_toInt_le, show (0 : Int32).toInt = 0 from by decide, show (7 : Int32).toInt = 7 from by decide] at q
    omega
  unfold cntV
  rw [if_neg h6, if_neg h7]
theorem sw_4 (x : Int32) : (x.toInt < 0 ∨ 3 < x.toInt) ∨ x = 0 ∨ x = 1 ∨ x = 2 ∨ x = 3 := by
  rcases Classical.em (x.toInt < 0 ∨ 3 < x.toInt) with h | h
  · exact Or.inl h
  · have h2 : x.toInt = 0 ∨ x.toInt = 1 ∨ x.toInt = 2 ∨ x.toInt = 3 := by omega
    rcases h2 with h2 | h2 | h2 | h2
    · exact Or.inr (Or.inl (sw_of h2 (by decide)))
    · exact Or.inr (Or.inr (Or.inl (sw_of h2 (by decide))))
    · exact Or.inr (Or.inr (Or.inr (Or.inl (sw_of h2 (by decide)))))
    · exact Or.inr (Or.inr (Or.inr (Or.inr (sw_of h2 (by decide)))))
theorem sw_5 (x : Int32) : (x.toInt < 0 ∨ 4 < x.toInt) ∨ x = 0 ∨ x = 1 ∨ x = 2 ∨ x = 3 ∨ x = 4 := by
  rcases Classical.em (x.toInt < 0 ∨ 4 < x.toInt) with h | h
  · exact Or.inl h
  · have h2 : x.toInt = 0 ∨ x.toInt = 1 ∨ x.toInt = 2 ∨ x.toInt = 3 ∨ x.toInt = 4 := by omega
    rcases h2 with h2 | h2 | h2 | h2 | h2
    · exact Or.inr (Or.inl (sw_of h2 (by decide)))
    · exact Or.inr (Or.inr (Or.inl (sw_of h2 (by decide))))
    · exact Or.inr (Or.inr (Or.inr (Or.inl (sw_of h2 (by decide)))))
    · exact Or.inr (Or.inr (Or.inr (Or.inr (Or.inl (sw_of h2 (by decide))))))
    · exact Or.inr (Or.inr (Or.inr (Or.inr (Or.inr (sw_of h2 (by decide))))))
theorem sw_8 (x : Int32) : (x.toInt < 0 ∨ 7 < x.toInt) ∨ x = 0 ∨ x = 1 ∨ x = 2 ∨ x = 3 ∨ x = 4 ∨ x = 5 ∨ x = 6 ∨ x = 7 := by
  rcases Classical.em (x.toInt < 0 ∨ 7 < x.toInt) with h | h
  · exact Or.inl h
  · have h2 : x.toInt = 0 ∨ x.toInt = 1 ∨ x.toInt = 2 ∨ x.toInt = 3 ∨ x.toInt = 4 ∨ x.toInt = 5 ∨ x.toInt = 6 ∨ x.toInt = 7 := by omega
    rcases h2 with h2 | h2 | h2 | h2 | h2 | h2 | h2 | h2
    · exact Or.inr (Or.inl (sw_of h2 (by decide)))
    · exact Or.inr (Or.inr (Or.inl (sw_of h2 (by decide))))
    · exact Or.inr (Or.inr (Or.inr (Or.inl (sw_of h2 (by decide)))))
    · exact Or.inr (Or.inr (Or.inr (Or.inr (Or.inl (sw_of h2 (by decide))))))
    · exact Or.inr (Or.inr (Or.inr (Or.inr (Or.inr (Or.inl (sw_of h2 (by decide)))))))
    · exact Or.inr (Or.inr (Or.inr (Or.inr (Or.inr (Or.inr (Or.inl (sw_of h2 (by decide))))))))
    · exact Or.inr (Or.inr (Or.inr (Or.inr (Or.inr (Or.inr (Or.inr (Or.inl (sw_of h2 (by decide)))))))))
    · exact Or.inr (Or.inr (Or.inr (Or.inr (Or.inr (Or.inr (Or.inr (Or.inr (sw_of h2 (by decide)))))))))
theorem sw_26 (x : Int32) : (x.toInt < 0 ∨ 25 < x.toInt) ∨ x = 0 ∨ x = 1 ∨ x = 2 ∨ x = 3 ∨ x = 4 ∨ x = 5 ∨ x = 6 ∨ x = 7 ∨ x = 8 ∨ x = 9 ∨ x = 10 ∨ x = 11 ∨ x = 12 ∨ x = 13 ∨ x = 14 ∨ x = 15 ∨ x = 16 ∨ x = 17 ∨ x = 18 ∨ x = 19 ∨ x = 20 ∨ x = 21 ∨ x = 22 ∨ x = 23 ∨ x = 24 ∨ x = 25 := by
  rcases Classical.em (x.toInt < 0 ∨ 25 < x.toInt) with h | h
  · exact Or.inl h
  · have h2 : x.toInt = 0 ∨ x.toInt = 1 ∨ x.toInt = 2 ∨ x.toInt = 3 ∨ x.toInt = 4 ∨ x.toInt = 5 ∨ x.toInt = 6 ∨ x.toInt = 7 ∨ x.toInt = 8 ∨ x.toInt = 9 ∨ x.toInt = 10 ∨ x.toInt = 11 ∨ x.toInt = 12 ∨ x.toInt = 13 ∨ x.toInt = 14 ∨ x.toInt = 15 ∨ x.toInt = 16 ∨ x.toInt = 17 ∨ x.toInt = 18 ∨ x.toInt = 19 ∨ x.toInt = 20 ∨ x.toInt = 21 ∨ x.toInt = 22 ∨ x.toInt = 23 ∨ x.toInt = 24 ∨ x.toInt = 25 := by omega
    rcases h2 with h2 | h2 | h2 | h2 | h2 | h2 | h2 | h2 | h2 | h2 | h2 | h2 | h2 | h2 | h2 | h2 | h2 | h2 | h2 | h2 | h2 | h2 | h2 | h2 | h2 | h2
    · exact Or.inr (Or.inl (sw_of h2 (by decide)))
    · exact Or.inr (Or.inr (Or.inl (sw_of h2 (by decide))))
    · exact Or.inr (Or.inr (Or.inr (Or.inl (sw_of h2 (by decide)))))
    · exact Or.inr (Or.inr (Or.inr (Or.inr (Or.inl (sw_of h2 (by decide))))))
    · exact Or.inr (Or.inr (Or.inr (Or.inr (Or.inr (Or.inl (sw_of h2 (by decide)))))))
    · exact Or.inr (Or.inr (Or.inr (Or.inr (Or.inr (Or.inr (Or.inl (sw_of h2 (by decide))))))))
    · exact Or.inr (Or.inr (Or.inr (Or.inr (Or.inr (Or.inr (Or.inr (Or.inl (sw_of h2 (by decide)))))))))
    · exact Or.inr (Or.inr (Or.inr (Or.inr (Or.inr (Or.inr (Or.inr (Or.inr (Or.inl (sw_of h2 (by decide))))))))))
    · exact Or.inr (Or.inr (Or.inr (Or.inr (Or.inr (Or.inr (Or.inr (Or.inr (Or.inr (Or.inl (sw_of h2 (by decide)))))))))))
    · exact Or.inr (Or.inr (Or.inr (Or.inr (Or.inr (Or.inr (Or.inr (Or.inr (Or.inr (Or.inr (Or.inl (sw_of h2 (by decide))))))))))))
    · exact Or.inr (Or.inr (Or.inr (Or.inr (Or.inr (Or.inr (Or.inr (Or.inr (Or.inr (Or.inr (Or.inr (Or.inl (sw_of h2 (by decide)))))))))))))
    · exact Or.inr (Or.inr (Or.inr (Or.inr (Or.inr (Or.inr (Or.inr (Or.inr (Or.inr (Or.inr (Or.inr (Or.inr (Or.inl (sw_of h2 (by decide))))))))))))))
    · exact Or.inr (Or.inr (Or.inr (Or.inr (Or.inr (Or.inr (Or.inr (Or.inr (Or.inr (Or.inr (Or.inr (Or.inr (Or.inr (Or.inl (sw_of h2 (by decide)))))))))))))))
    · exact Or.inr (Or.inr (Or.inr (Or.inr (Or.inr (Or.inr (Or.inr (Or.inr (Or.inr (Or.inr (Or.inr (Or.inr (Or.inr (Or.inr (Or.inl (sw_of h2 (by decide))))))))))))))))
    · exact Or.inr (Or.inr (Or.inr (Or.inr (Or.inr (Or.inr (Or.inr (Or.inr (Or.inr (Or.inr (Or.inr (Or.inr (Or.inr (Or.inr (Or.inr (Or.inl (sw_of h2 (by decide)))))))))))))))))
    · exact Or.inr (Or.inr (Or.inr (Or.inr (Or.inr (Or.inr (Or.inr (Or.inr (Or.inr (Or.inr (Or.inr (Or.inr (Or.inr (Or.inr (Or.inr (Or.inr (Or.inl (sw_of h2 (by decide))))))))))))))))))
    · exact Or.inr (Or.inr (Or.inr (Or.inr (Or.inr (Or.inr (Or.inr (Or.inr (Or.inr (Or.inr (Or.inr (Or.inr (Or.inr (Or.inr (Or.inr (Or.inr (Or.inr (Or.inl (sw_of h2 (by decide)))))))))))))))))))
    · exact Or.inr (Or.inr (Or.inr (Or.inr (Or.inr (Or.inr (Or.inr (Or.inr (Or.inr (Or.inr (Or.inr (Or.inr (Or.inr (Or.inr (Or.inr (Or.inr (Or.inr (Or.inr (Or.inl (sw_of h2 (by decide))))))))))))))))))))
    · exact Or.inr (Or.inr (Or.inr (Or.inr (Or.inr (Or.inr (Or.inr (Or.inr (Or.inr (Or.inr (Or.inr (Or.inr (Or.inr (Or.inr (Or.inr (Or.inr (Or.inr (Or.inr (Or.inr (Or.inl (sw_of h2 (by decide)))))))))))))))))))))
    · exact Or.inr (Or.inr (Or.inr (Or.inr (Or.inr (Or.inr (Or.inr (Or.inr (Or.inr (Or.inr (Or.inr (Or.inr (Or.inr (Or.inr (Or.inr (Or.inr (Or.inr (Or.inr (Or.inr (Or.inr (Or.inl (sw_of h2 (by decide))))))))))))))))))))))
    · exact Or.inr (Or.inr (Or.inr (Or.inr (Or.inr (Or.inr (Or.inr (Or.inr (Or.inr (Or.inr (Or.inr (Or.inr (Or.inr (Or.inr (Or.inr (Or.inr (Or.inr (Or.inr (Or.inr (Or.inr (Or.inr (Or.inl (sw_of h2 (by decide)))))))))))))))))))))))
    · exact Or.inr (Or.inr (Or.inr (Or.inr (Or.inr (Or.inr (Or.inr (Or.inr (Or.inr (Or.inr (Or.inr (Or.inr (Or.inr (Or.inr (Or.inr (Or.inr (Or.inr (Or.inr (Or.inr (Or.inr (Or.inr (Or.inr (Or.inl (sw_of h2 (by decide))))))))))))))))))))))))
    · exact Or.inr (Or.inr (Or.inr (Or.inr (Or.inr (Or.inr (Or.inr (Or.inr (Or.inr (Or.inr (Or.inr (Or.inr (Or.inr (Or.inr (Or.inr (Or.inr (Or.inr (Or.inr (Or.inr (Or.inr (Or.inr (Or.inr (Or.inr (Or.inl (sw_of h2 (by decide)))))))))))))))))))))))))
    · exact Or.inr (Or.inr (Or.inr (Or.inr (Or.inr (Or.inr (Or.inr (Or.inr (Or.inr (Or.inr (Or.inr (Or.inr (Or.inr (Or.inr (Or.inr (Or.inr (Or.inr (Or.inr (Or.inr (Or.inr (Or.inr (Or.inr (Or.inr (Or.inr (Or.inl (sw_of h2 (by decide))))))))))))))))))))))))))
    · exact Or.inr (Or.inr (Or.inr (Or.inr (Or.inr (Or.inr (Or.inr (Or.inr (Or.inr (Or.inr (Or.inr (Or.inr (Or.inr (Or.inr (Or.inr (Or.inr (Or.inr (Or.inr (Or.inr (Or.inr (Or.inr (Or.inr (Or.inr (Or.inr (Or.inr (Or.inl (sw_of h2 (by decide)))))))))))))))))))))))))))
    · exact Or.inr (Or.inr (Or.inr (Or.inr (Or.inr (Or.inr (Or.inr (Or.inr (Or.inr (Or.inr (Or.inr (Or.inr (Or.inr (Or.inr (Or.inr (Or.inr (Or.inr (Or.inr (Or.inr (Or.inr (Or.inr (Or.inr (Or.inr (Or.inr (Or.inr (Or.inr (sw_of h2 (by decide)))))))))))))))))))))))))))
