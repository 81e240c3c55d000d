/-! a step's key: cost, rank, what is between, form, in its bits -/
def uu (z : Int) : Nat := (kz z).toBitVec.toNat
theorem uu_eq (z : Int) : (uu z : Int) = z % 4294967296 := by
  unfold uu kz
  show ((BitVec.ofInt 32 z).toNat : Int) = _
  rw [BitVec.toNat_ofInt]
  omega
theorem uu_lt (z : Int) : uu z < 4294967296 := (kz z).toBitVec.isLt
theorem uu_14 (z : Int) : z % 16384 = (uu z : Int) % 16384 := by
  rw [uu_eq]
  omega
theorem uu_small {z : Int} (h : 0 ≤ z ∧ z ≤ 2147483647) : (uu z : Int) = z := by
  rw [uu_eq]
  omega
theorem uu_or {a b z : Int} (h : kz a ||| kz b = kz z) : uu z = uu a ||| uu b := by
  unfold uu
  rw [← h, Int32.toBitVec_or, BitVec.toNat_or]
theorem uu_and {a b z : Int} (h : kz a &&& kz b = kz z) : uu z = uu a &&& uu b := by
  unfold uu
  rw [← h, Int32.toBitVec_and, BitVec.toNat_and]
theorem uu_shl {a z : Int} {k : Int} {n : Nat} (hk : (kz k &&& 31).toBitVec.smod 32#32 = BitVec.ofNat 32 n) (hn : n < 32) (h : kz a <<< (kz k &&& 31) = kz z) : uu z = uu a * 2 ^ n % 4294967296 := by
  have e : (kz a <<< (kz k &&& 31)).toBitVec = (kz a).toBitVec <<< ((kz k &&& 31).toBitVec.smod 32#32) := rfl
  unfold uu
  rw [← h, e, hk, BitVec.shiftLeft_eq', BitVec.toNat_shiftLeft, Nat.shiftLeft_eq]
  have e2 : (BitVec.ofNat 32 n).toNat = n := by
    rw [BitVec.toNat_ofNat]
    exact Nat.mod_eq_of_lt (by omega)
  rw [e2]
theorem or_low {k a b : Nat} (hb : b < 2 ^ k) : 2 ^ k * a ||| b = 2 ^ k * a + b := (Nat.two_pow_add_eq_or_of_lt hb a).symm
/-- the key's low bits -/
theorem key_mod {c r b f z1 z2 z3 z4 z5 z6 : Int} (hr : 0 ≤ r ∧ r ≤ 7) (hb : 0 ≤ b ∧ b ≤ 31) (hf : 0 ≤ f ∧ f ≤ 63) (h1 : kz c <<< (kz 3 &&& 31) = kz z1) (h2 : kz z1 ||| kz r = kz z2) (h3 : kz z2 <<< (kz 5 &&& 31) = kz z3) (h4 : kz z3 ||| kz b = kz z4) (h5 : kz z4 <<< (kz 6 &&& 31) = kz z5) (h6 : kz z5 ||| kz f = kz z6) : z6 % 16384 = r * 2048 + b * 64 + f := by
  have u1 := uu_shl (n := 3) (by decide) (by omega) h1
  have u2 := uu_or h2
  have u3 := uu_shl (n := 5) (by decide) (by omega) h3
  have u4 := uu_or h4
  have u5 := uu_shl (n := 6) (by decide) (by omega) h5
  have u6 := uu_or h6
  have ur := uu_small (z := r) (by omega)
  have ub := uu_small (z := b) (by omega)
  have uf := uu_small (z := f) (by omega)
  have e1 : uu z1 = 2 ^ 3 * (uu c % 536870912) := by omega
  rw [e1, or_low (k := 3) (by omega)] at u2
  have e3 : uu z3 = 2 ^ 5 * (uu z2 % 134217728) := by omega
  rw [e3, or_low (k := 5) (by omega)] at u4
  have e5 : uu z5 = 2 ^ 6 * (uu z4 % 67108864) := by omega
  rw [e5, or_low (k := 6) (by omega)] at u6
  rw [uu_14]
  omega
theorem and_mod {a z : Int} {k : Nat} {m : Int} (hm : m = 2 ^ k - 1) (hk : k < 31) (h : kz a &&& kz m = kz z) (hz : 0 ≤ z ∧ z ≤ m) : z = a % (2 ^ k : Int) := by
  have u1 := uu_and h
  have hp : (2 ^ k : Nat) < 2147483649 := by
    have : (2 ^ k : Nat) ≤ 2 ^ 30 := Nat.pow_le_pow_right (by decide) (by omega)
    omega
  have hp2 : ((2 ^ k : Nat) : Int) = (2 ^ k : Int) := by simp
  have hpos : 1 ≤ (2 ^ k : Nat) := Nat.one_le_two_pow
  have um : uu m = 2 ^ k - 1 := by
    have h9 := uu_small (z := m) (by omega)
    omega
  rw [um, Nat.and_two_pow_sub_one_eq_mod] at u1
  have uz := uu_small (z := z) (by omega)
  have ua := uu_eq a
  have hd : ((2 ^ k : Nat) : Int) ∣ 4294967296 := by
    have : (2 ^ k : Nat) ∣ 2 ^ 32 := Nat.pow_dvd_pow 2 (by omega)
    exact Int.natCast_dvd_natCast.mpr this
  have e9 : ((uu a % 2 ^ k : Nat) : Int) = (uu a : Int) % ((2 ^ k : Nat) : Int) := rfl
  rw [← hp2, ← uz, u1, e9, ua, Int.emod_emod_of_dvd a hd]
theorem shr_div {a z : Int} {k : Int} {n : Nat} (hk : (kz k &&& 31).toBitVec.smod 32#32 = BitVec.ofNat 32 n) (hn : n < 32) (ha : -2147483648 ≤ a ∧ a ≤ 2147483647) (hz : -2147483648 ≤ z ∧ z ≤ 2147483647) (h : kz a >>> (kz k &&& 31) = kz z) : z = a / (2 ^ n : Int) := by
  have e : (kz a >>> (kz k &&& 31)).toBitVec = BitVec.sshiftRight' (kz a).toBitVec ((kz k &&& 31).toBitVec.smod 32#32) := rfl
  have e2 : (BitVec.ofNat 32 n).toNat = n := by
    rw [BitVec.toNat_ofNat]
    exact Nat.mod_eq_of_lt (by omega)
  have e3 : (kz z).toBitVec.toInt = (kz a).toBitVec.toInt >>> n := by
    rw [← h, e, hk, BitVec.sshiftRight_eq', BitVec.toInt_sshiftRight, e2]
  have ez : (kz z).toBitVec.toInt = z := kz_toInt hz.1 hz.2
  have ea : (kz a).toBitVec.toInt = a := kz_toInt ha.1 ha.2
  rw [ez, ea, Int.shiftRight_eq_div_pow] at e3
  rw [e3]
  simp
/-- keys: each one good, no two with the same low bits -/
def KS (f : Nat → Int32) (n : Int) (P : Int → Prop) : Prop := (∀ j : Int, 0 ≤ j → j < n → P (ge1 f j % 16384)) ∧ ∀ i j : Int, 0 ≤ i → i < n → 0 ≤ j → j < n → i ≠ j → ge1 f i % 16384 ≠ ge1 f j % 16384
/-- the same with a hole at t, none of them m -/
def KH (f : Nat → Int32) (n t m : Int) (P : Int → Prop) : Prop := (∀ j : Int, 0 ≤ j → j < n → j ≠ t → P (ge1 f j % 16384) ∧ ge1 f j % 16384 ≠ m) ∧ ∀ i j : Int, 0 ≤ i → i < n → i ≠ t → 0 ≤ j → j < n → j ≠ t → i ≠ j → ge1 f i % 16384 ≠ ge1 f j % 16384
theorem KS_mono {f : Nat → Int32} {n : Int} {P Q : Int → Prop} (h : KS f n P) (hq : ∀ m : Int, P m → Q m) : KS f n Q := ⟨fun j h1 h2 => hq _ (h.1 j h1 h2), h.2⟩
theorem KS_0 (f : Nat → Int32) (P : Int → Prop) : KS f 0 P := ⟨fun j h1 h2 => absurd h1 (by omega), fun i j h1 h2 => absurd h1 (by omega)⟩
theorem KH_in {f : Nat → Int32} {n k t m : Int} {P : Int → Prop} (h : KS f n P) (hm : ∀ j : Int, 0 ≤ j → j < n → ge1 f j % 16384 ≠ m) (hk : ∀ j : Int, 0 ≤ j → j < k → j ≠ t → j < n) : KH f k t m P :=
  ⟨fun j h1 h2 h3 => ⟨h.1 j h1 (hk j h1 h2 h3), hm j h1 (hk j h1 h2 h3)⟩, fun i j h1 h2 h3 h4 h5 h6 h7 => h.2 i j h1 (hk i h1 h2 h3) h4 (hk j h4 h5 h6) h7⟩
theorem KH_step {f g : Nat → Int32} {n t m : Int} {P : Int → Prop} (h : KH f n t m P) (ht : 1 ≤ t ∧ t < n) (hg : ∀ w : Int, 0 ≤ w → ge1 g w = if w = t then ge1 f (t - 1) else ge1 f w) : KH g n (t - 1) m P := by
  have key : ∀ j : Int, 0 ≤ j → j < n → j ≠ t - 1 → ∃ i : Int, 0 ≤ i ∧ i < n ∧ i ≠ t ∧ ge1 g j = ge1 f i ∧ (j = t → i = t - 1) ∧ (j ≠ t → i = j) := by
    intro j h1 h2 h3
    by_cases e : j = t
    · exact ⟨t - 1, by omega, by omega, by omega, by rw [hg j h1, if_pos e], fun _ => rfl, fun q => absurd e q⟩
    · exact ⟨j, h1, h2, e, by rw [hg j h1, if_neg e], fun q => absurd q e, fun _ => rfl⟩
  refine ⟨fun j h1 h2 h3 => ?_, fun i j h1 h2 h3 h4 h5 h6 h7 => ?_⟩
  · obtain ⟨i, i1, i2, i3, i4, -, -⟩ := key j h1 h2 h3
    rw [i4]
    exact h.1 i i1 i2 i3
  · obtain ⟨a, a1, a2, a3, a4, a5, a6⟩ := key i h1 h2 h3
    obtain ⟨b, b1, b2, b3, b4, b5, b6⟩ := key j h4 h5 h6
    rw [a4, b4]
    refine h.2 a b a1 a2 a3 b1 b2 b3 ?_
    by_cases e : i = t
    · by_cases e2 : j = t
      · omega
      · rw [a5 e, b6 e2]
        omega
    · rw [a6 e]
      by_cases e2 : j = t
      · rw [b5 e2]
        omega
      · rw [b6 e2]
        exact h7
theorem KH_end {f g : Nat → Int32} {n t m k : Int} {P : Int → Prop} (h : KH f n t m P) (hk : k % 16384 = m) (hp : P m) (hg : ∀ w : Int, 0 ≤ w → ge1 g w = if w = t then k else ge1 f w) : KS g n P := by
  refine ⟨fun j h1 h2 => ?_, fun i j h1 h2 h3 h4 h5 => ?_⟩
  · rw [hg j h1]
    by_cases e : j = t
    · rw [if_pos e, hk]
      exact hp
    · rw [if_neg e]
      exact (h.1 j h1 h2 e).1
  · rw [hg i h1, hg j h3]
    by_cases e : i = t
    · have e2 : j ≠ t := fun q => h5 (by omega)
      rw [if_pos e, if_neg e2, hk]
      exact fun q => (h.1 j h3 h4 e2).2 q.symm
    · rw [if_neg e]
      by_cases e2 : j = t
      · rw [if_pos e2, hk]
        exact (h.1 i h1 h2 e).2
      · rw [if_neg e2]
        exact h.2 i j h1 h2 e h3 h4 e2 h5
/-- how many of the first keys have lower low bits -/
def kcnt (f : Nat → Int32) (m : Int) : Nat → Int
  | 0 => 0
  | k + 1 => kcnt f m k + (if ge1 f (k : Int) % 16384 < m then 1 else 0)
theorem kcnt_le (f : Nat → Int32) (m : Int) (k : Nat) : 0 ≤ kcnt f m k ∧ kcnt f m k ≤ k := by
  induction k with
  | zero => exact ⟨Int.le_refl _, Int.le_refl _⟩
  | succ k ih =>
    show 0 ≤ kcnt f m k + _ ∧ kcnt f m k + _ ≤ _
    split <;> omega
theorem kcnt_mono {f : Nat → Int32} {m p : Int} (h : m ≤ p) (k : Nat) : kcnt f m k ≤ kcnt f p k := by
  induction k with
  | zero => exact Int.le_refl _
  | succ k ih =>
    show kcnt f m k + (if ge1 f (k : Int) % 16384 < m then 1 else 0) ≤ kcnt f p k + (if ge1 f (k : Int) % 16384 < p then 1 else 0)
    split
    · rw [if_pos (by omega)]
      omega
    · split <;> omega
theorem kcnt_lt {f : Nat → Int32} {m p : Int} (h : m < p) {k i : Nat} (hi : i < k) (hm : ge1 f (i : Int) % 16384 = m) : kcnt f m k < kcnt f p k := by
  induction k with
  | zero => omega
  | succ k ih =>
    show kcnt f m k + (if ge1 f (k : Int) % 16384 < m then 1 else 0) < kcnt f p k + (if ge1 f (k : Int) % 16384 < p then 1 else 0)
    by_cases e : i = k
    · subst e
      have := kcnt_mono (f := f) (Int.le_of_lt h) i
      rw [hm, if_neg (by omega), if_pos h]
      omega
    · have := ih (by omega)
      split
      · rw [if_pos (by omega)]
        omega
      · split <;> omega
theorem kcnt_self {f : Nat → Int32} {m : Int} {k i : Nat} (hi : i < k) (hm : ge1 f (i : Int) % 16384 = m) : kcnt f m k < k := by
  have h1 := kcnt_lt (f := f) (show m < m + 1 by omega) hi hm
  have h2 := kcnt_le f (m + 1) k
  omega
/-- ranks of keys whose low bits differ are different -/
theorem kcnt_ne {f : Nat → Int32} {n : Int} {P : Int → Prop} (h : KS f n P) {i j : Int} (h1 : 0 ≤ i) (h2 : i < n) (h3 : 0 ≤ j) (h4 : j < n) (h5 : i ≠ j) : kcnt f (ge1 f i % 16384) n.toNat ≠ kcnt f (ge1 f j % 16384) n.toNat := by
  have h6 := h.2 i j h1 h2 h3 h4 h5
  have ei : ((i.toNat : Nat) : Int) = i := by omega
  have ej : ((j.toNat : Nat) : Int) = j := by omega
  rcases Int.lt_or_gt_of_ne h6 with q | q
  · have := kcnt_lt (f := f) q (i := i.toNat) (k := n.toNat) (by omega) (by rw [ei])
    omega
  · have := kcnt_lt (f := f) q (i := j.toNat) (k := n.toNat) (by omega) (by rw [ej])
    omega
