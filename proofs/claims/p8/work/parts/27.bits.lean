/-! ===== Int32 by its bits: bt x i ===== -/
def bt (x : Int32) (i : Nat) : Bool := x.toBitVec.getLsbD i
theorem b_ext {x y : Int32} (h : ∀ i, i < 32 → bt x i = bt y i) : x = y := Int32.toBitVec_inj.mp (BitVec.eq_of_getLsbD_eq (fun i hi => h i hi))
theorem b_or (x y : Int32) (i : Nat) : bt (x ||| y) i = (bt x i || bt y i) := by unfold bt; rw [Int32.toBitVec_or, BitVec.getLsbD_or]
theorem b_and (x y : Int32) (i : Nat) : bt (x &&& y) i = (bt x i && bt y i) := by unfold bt; rw [Int32.toBitVec_and, BitVec.getLsbD_and]
theorem b_xor (x y : Int32) (i : Nat) : bt (x ^^^ y) i = (bt x i ^^ bt y i) := by unfold bt; rw [Int32.toBitVec_xor, BitVec.getLsbD_xor]
theorem b_big {x : Int32} {i : Nat} (h : 32 ≤ i) : bt x i = false := BitVec.getLsbD_of_ge _ _ h
theorem b_255 (i : Nat) : bt 255 i = decide (i < 8) := by
  rcases Nat.lt_or_ge i 32 with h | h
  · exact (by decide +kernel : ∀ i, i < 32 → bt 255 i = decide (i < 8)) i h
  · rw [b_big h, decide_eq_false (by omega)]
theorem b_65535 (i : Nat) : bt 65535 i = decide (i < 16) := by
  rcases Nat.lt_or_ge i 32 with h | h
  · exact (by decide +kernel : ∀ i, i < 32 → bt 65535 i = decide (i < 16)) i h
  · rw [b_big h, decide_eq_false (by omega)]
theorem b_m1 : ∀ i, i < 32 → bt (-1) i = true := by decide +kernel
theorem b_0 (i : Nat) : bt 0 i = false := BitVec.getLsbD_zero
theorem s_l : ∀ n, n < 32 → ((nI n &&& 31).toBitVec.smod 32).toNat = n := by decide +kernel
theorem s_u : ∀ n, n < 32 → (((nI n).toUInt32 &&& Int32.toUInt32 31).toBitVec % 32).toNat = n := by decide +kernel
theorem b_shl (n : Nat) (hn : n < 32) (x : Int32) {i : Nat} (hi : i < 32) : bt (x <<< (nI n &&& 31)) i = (decide (n ≤ i) && bt x (i - n)) := by
  unfold bt
  rw [Int32.toBitVec_shiftLeft]
  show (x.toBitVec <<< ((nI n &&& 31).toBitVec.smod 32).toNat).getLsbD i = _
  rw [s_l n hn, BitVec.getLsbD_shiftLeft]
  rcases Nat.lt_or_ge i n with h | h
  · simp [h, Nat.not_le.mpr h]
  · simp [hi, h, Nat.not_lt.mpr h]
theorem b_ushr (n : Nat) (hn : n < 32) (x : Int32) (i : Nat) : bt ((x.toUInt32 >>> ((nI n).toUInt32 &&& Int32.toUInt32 31)).toInt32) i = bt x (n + i) := by
  show (x.toUInt32 >>> ((nI n).toUInt32 &&& Int32.toUInt32 31)).toBitVec.getLsbD i = x.toUInt32.toBitVec.getLsbD (n + i)
  rw [UInt32.toBitVec_shiftRight]
  show (x.toUInt32.toBitVec >>> (((nI n).toUInt32 &&& Int32.toUInt32 31).toBitVec % 32).toNat).getLsbD i = _
  rw [s_u n hn, BitVec.getLsbD_ushiftRight]
theorem b_sshr (n : Nat) (hn : n < 32) (x : Int32) {i : Nat} (hi : i < 32) : bt (x >>> (nI n &&& 31)) i = if n + i < 32 then bt x (n + i) else bt x 31 := by
  unfold bt
  rw [Int32.toBitVec_shiftRight]
  show (x.toBitVec.sshiftRight ((nI n &&& 31).toBitVec.smod 32).toNat).getLsbD i = _
  rw [s_l n hn, BitVec.getLsbD_sshiftRight, BitVec.msb_eq_getLsbD_last]
  simp [hi]
/-! a kept value's bits -/
theorem kz_nI (n : Nat) : kz (n : Int) = nI n := rfl
theorem bt_hi {n : Int} {m i : Nat} (h0 : 0 ≤ n) (h : n < 2 ^ m) (hi : m ≤ i) : bt (kz n) i = false := by
  obtain ⟨k, rfl⟩ := Int.eq_ofNat_of_zero_le h0
  have hk : k < 2 ^ m := by exact_mod_cast h
  have hk2 : k < 2 ^ i := Nat.lt_of_lt_of_le hk (Nat.pow_le_pow_right (by decide) hi)
  unfold bt
  have e : (kz (k : Int)).toBitVec = BitVec.ofNat 32 k := by
    rw [kz_nI]
    rfl
  rw [e, BitVec.getLsbD_ofNat, Nat.testBit_lt_two_pow hk2]
  simp
theorem b_16384 : ∀ i, i < 15 → bt (kz 16384) i = decide (i = 14) := by decide +kernel
theorem b_31 : ∀ i, i < 32 → bt (kz 31) i = decide (i < 5) := by decide +kernel
theorem b_63 : ∀ i, i < 32 → bt (kz 63) i = decide (i < 6) := by decide +kernel
theorem b_7 : ∀ i, i < 32 → bt (kz 7) i = decide (i < 3) := by decide +kernel
theorem b_1 : ∀ i, i < 32 → bt (kz 1) i = decide (i < 1) := by decide +kernel
def d14 (v : Int) : Int := ((kz v >>> (kz 14 &&& 31)) &&& kz 1).toInt
def dq (v : Int) : Int := ((kz v >>> (kz 9 &&& 31)) &&& kz 31).toInt
def dg (v : Int) : Int := ((kz v >>> (kz 3 &&& 31)) &&& kz 63).toInt
def dw (v : Int) : Int := (kz v &&& kz 7).toInt
theorem d14_shl {c z : Int} (h : kz c <<< (kz 15 &&& 31) = kz z) : d14 z = 0 := by
  unfold d14
  have e : (kz z >>> (kz 14 &&& 31)) &&& kz 1 = 0 := by
    refine b_ext (fun i hi => ?_)
    rw [b_and, b_0, b_1 i hi, ← h]
    by_cases h0 : i < 1
    · obtain rfl : i = 0 := by omega
      rw [show kz 14 = nI 14 from rfl, b_sshr 14 (by omega) _ hi, if_pos (by omega), show kz 15 = nI 15 from rfl, b_shl 15 (by omega) _ (by omega)]
      simp
    · simp [h0]
  rw [e]
  rfl
section ENC
variable {x q1 g k z1 z2 z3 z4 z5 z6 z7 : Int}
theorem enc_bits (h1 : kz x <<< (kz 15 &&& 31) = kz z1) (h2 : kz z1 ||| kz 16384 = kz z2) (h3 : kz q1 <<< (kz 9 &&& 31) = kz z3) (h4 : kz z2 ||| kz z3 = kz z4) (h5 : kz g <<< (kz 3 &&& 31) = kz z5) (h6 : kz z4 ||| kz z5 = kz z6) (h7 : kz z6 ||| kz k = kz z7) (i : Nat) (hi : i < 15) : bt (kz z7) i = (((decide (i = 14) || (decide (9 ≤ i) && bt (kz q1) (i - 9))) || (decide (3 ≤ i) && bt (kz g) (i - 3))) || bt (kz k) i) := by
  rw [← h7, b_or, ← h6, b_or, ← h4, b_or, ← h2, b_or, ← h1, ← h3, ← h5, show kz 15 = nI 15 from rfl, show kz 9 = nI 9 from rfl, show kz 3 = nI 3 from rfl, b_shl 15 (by omega) _ (by omega), b_shl 9 (by omega) _ (by omega), b_shl 3 (by omega) _ (by omega), b_16384 i hi, decide_eq_false (show ¬ 15 ≤ i by omega)]
  simp
theorem enc_q (hb : ∀ i : Nat, i < 15 → bt (kz z7) i = (((decide (i = 14) || (decide (9 ≤ i) && bt (kz q1) (i - 9))) || (decide (3 ≤ i) && bt (kz g) (i - 3))) || bt (kz k) i)) (hq : 0 ≤ q1 ∧ q1 ≤ 31) (hg : 0 ≤ g ∧ g ≤ 63) (hk : 0 ≤ k ∧ k ≤ 7) : dq z7 = q1 := by
  unfold dq
  have e : (kz z7 >>> (kz 9 &&& 31)) &&& kz 31 = kz q1 := by
    refine b_ext (fun i hi => ?_)
    rw [b_and, b_31 i hi, show kz 9 = nI 9 from rfl, b_sshr 9 (by omega) _ hi]
    by_cases h0 : i < 5
    · rw [if_pos (by omega), hb (9 + i) (by omega), bt_hi (n := g) (m := 6) hg.1 (by omega) (by omega), bt_hi (n := k) (m := 3) hk.1 (by omega) (by omega), decide_eq_false (show ¬ 9 + i = 14 by omega), decide_eq_true (show 9 ≤ 9 + i by omega), decide_eq_true h0, show 9 + i - 9 = i by omega]
      simp
    · rw [decide_eq_false h0, bt_hi (n := q1) (m := 5) hq.1 (by omega) (by omega)]
      simp
  rw [e, kz_toInt (by omega) (by omega)]
theorem enc_g (hb : ∀ i : Nat, i < 15 → bt (kz z7) i = (((decide (i = 14) || (decide (9 ≤ i) && bt (kz q1) (i - 9))) || (decide (3 ≤ i) && bt (kz g) (i - 3))) || bt (kz k) i)) (hg : 0 ≤ g ∧ g ≤ 63) (hk : 0 ≤ k ∧ k ≤ 7) : dg z7 = g := by
  unfold dg
  have e : (kz z7 >>> (kz 3 &&& 31)) &&& kz 63 = kz g := by
    refine b_ext (fun i hi => ?_)
    rw [b_and, b_63 i hi, show kz 3 = nI 3 from rfl, b_sshr 3 (by omega) _ hi]
    by_cases h0 : i < 6
    · rw [if_pos (by omega), hb (3 + i) (by omega), bt_hi (n := k) (m := 3) hk.1 (by omega) (by omega), decide_eq_false (show ¬ 3 + i = 14 by omega), decide_eq_false (show ¬ 9 ≤ 3 + i by omega), decide_eq_true (show 3 ≤ 3 + i by omega), decide_eq_true h0, show 3 + i - 3 = i by omega]
      simp
    · rw [decide_eq_false h0, bt_hi (n := g) (m := 6) hg.1 (by omega) (by omega)]
      simp
  rw [e, kz_toInt (by omega) (by omega)]
theorem enc_w (hb : ∀ i : Nat, i < 15 → bt (kz z7) i = (((decide (i = 14) || (decide (9 ≤ i) && bt (kz q1) (i - 9))) || (decide (3 ≤ i) && bt (kz g) (i - 3))) || bt (kz k) i)) (hk : 0 ≤ k ∧ k ≤ 7) : dw z7 = k := by
  unfold dw
  have e : kz z7 &&& kz 7 = kz k := by
    refine b_ext (fun i hi => ?_)
    rw [b_and, b_7 i hi]
    by_cases h0 : i < 3
    · rw [hb i (by omega), decide_eq_false (show ¬ i = 14 by omega), decide_eq_false (show ¬ 9 ≤ i by omega), decide_eq_false (show ¬ 3 ≤ i by omega), decide_eq_true h0]
      simp
    · rw [decide_eq_false h0, bt_hi (n := k) (m := 3) hk.1 (by omega) (by omega)]
      simp
  rw [e, kz_toInt (by omega) (by omega)]
end ENC
/-- a kept value is an end, or leads to a kept one -/
def ev1 (fc : Nat → Nat → Int32) (ls ct F R f b t v : Int) : Prop := t < ls ∧ (d14 v = 0 ∨ ∃ g q w : Int, stp fc ls ct F R f b t g q ∧ dq v = q + 1 ∧ dg v = g ∧ dw v = w ∧ 0 ≤ w ∧ w < ge1 (fc 33) (pl g (nb fc q) (ds fc f b t q)))
def cn (fc : Nat → Nat → Int32) (ls ct F R f b t : Int) (gb gm : Nat → Int32) : Prop :=
  (∀ z : Int, 0 ≤ z → z < 8 * pl f b t ∨ 8 * pl f b t + 8 ≤ z → ge1 gb z = ge1 (fc 32) z) ∧ (∀ z : Int, 0 ≤ z → ¬ z = pl f b t → ge1 gm z = ge1 (fc 33) z) ∧
  ∀ w : Int, 0 ≤ w → w < ge1 gm (pl f b t) → ev1 fc ls ct F R f b t (ge1 gb (8 * pl f b t + w))
section CN
variable {fc : Nat → Nat → Int32} {ls ct F R f b t : Int} {gb gm gb' gm' : Nat → Int32}
theorem cn_0 {zp : Int} (hz : zp = (4 * f + b) * 41 + t) (h0 : 0 ≤ zp) (hu : ∀ w : Int, 0 ≤ w → ge1 gm w = if w = zp then 0 else ge1 (fc 33) w) : cn fc ls ct F R f b t (fc 32) gm := by
  have e : zp = pl f b t := hz
  subst e
  refine ⟨fun _ _ _ => rfl, fun z h1 h2 => by rw [hu z h1, if_neg h2], fun w h1 h2 => ?_⟩
  rw [hu _ h0, if_pos rfl] at h2
  omega
theorem cn_keep {zp v : Int} (hz : zp = (4 * f + b) * 41 + t) (h0 : 0 ≤ zp) (h : cn fc ls ct F R f b t gb gm) (hv : ev1 fc ls ct F R f b t v) (hk : kp (cup (cup fc 32 gb) 33 gm) zp v gb' gm') : cn fc ls ct F R f b t gb' gm' := by
  have e : zp = pl f b t := hz
  subst e
  have hk : (∀ z : Int, 0 ≤ z → z < 8 * pl f b t ∨ 8 * pl f b t + 8 ≤ z → ge1 gb' z = ge1 gb z) ∧ (∀ z : Int, 0 ≤ z → ¬ z = pl f b t → ge1 gm' z = ge1 gm z) ∧ ∀ j : Int, 0 ≤ j → j < ge1 gm' (pl f b t) → ge1 gb' (8 * pl f b t + j) = v ∨ ∃ i : Int, 0 ≤ i ∧ i < ge1 gm (pl f b t) ∧ ge1 gb' (8 * pl f b t + j) = ge1 gb (8 * pl f b t + i) := hk
  obtain ⟨h1, h2, h3⟩ := h
  obtain ⟨k1, k2, k3⟩ := hk
  refine ⟨fun z hz0 hz1 => (k1 z hz0 hz1).trans (h1 z hz0 hz1), fun z hz0 hz1 => (k2 z hz0 hz1).trans (h2 z hz0 hz1), fun w w0 w1 => ?_⟩
  rcases k3 w w0 w1 with e | ⟨i, i0, i1, e⟩
  · rw [e]; exact hv
  · rw [e]; exact h3 i i0 i1
theorem ev1_in {zq g q k v : Int} (hs : stp fc ls ct F R f b t g q) (hz : zq = pl g (nb fc q) (ds fc f b t q)) (hg : ge1 gm zq = ge1 (fc 33) zq) (hk : 0 ≤ k ∧ k < ge1 gm zq) (e1 : dq v = q + 1) (e2 : dg v = g) (e3 : dw v = k) (ht : t < ls) : ev1 fc ls ct F R f b t v := by
  subst hz
  exact ⟨ht, Or.inr ⟨g, q, k, hs, e1, e2, e3, hk.1, by omega⟩⟩
theorem st_0 {F0 ls0 : Int} {g : Nat → Int32} (h : ∀ z : Int, 0 ≤ z → z < 6560 → ge1 g z = 0) : vl fc ls0 F0 g ∧ ∀ f : Int, 0 ≤ f → f < 0 → ¬ ge1 g (pl f 0 0) = 0 :=
  ⟨fun z h1 h2 h3 => absurd (h z h1 h2) h3, fun f h1 h2 => by omega⟩
theorem st_set {F0 ls0 f1 zp : Int} {g g' : Nat → Int32} (h : vl fc ls0 F0 g ∧ ∀ f : Int, 0 ≤ f → f < f1 → ¬ ge1 g (pl f 0 0) = 0) (hu : ∀ w : Int, 0 ≤ w → ge1 g' w = if w = zp then 1 else ge1 g w) (hz : zp = (4 * f1 + 0) * 41 + 0) (hf : 0 ≤ f1 ∧ f1 < F0) (hs : 1 ≤ ge1 (fc 4) f1) (hl : 0 ≤ ls0) : vl fc ls0 F0 g' ∧ ∀ f : Int, 0 ≤ f → f < f1 + 1 → ¬ ge1 g' (pl f 0 0) = 0 := by
  have e : zp = pl f1 0 0 := hz
  refine ⟨fun z h1 h2 h3 => ?_, fun f h1 h2 => ?_⟩
  · rw [hu z h1] at h3
    by_cases q : z = zp
    · exact ⟨f1, 0, 0, hf, ⟨by omega, by omega, by omega⟩, ⟨by omega, hl⟩, by rw [q, e]⟩
    · rw [if_neg q] at h3
      exact h.1 z h1 h2 h3
  · rw [hu _ (by unfold pl; omega)]
    by_cases q : pl f 0 0 = zp
    · rw [if_pos q]; decide
    · rw [if_neg q]
      refine h.2 f h1 ?_
      by_cases q2 : f = f1
      · rw [q2] at q; exact absurd e.symm q
      · omega
theorem rcI_0 {g : Nat → Int32} {f1 : Int} (h : vl fc ls F g ∧ ∀ f : Int, 0 ≤ f → f < f1 → ¬ ge1 g (pl f 0 0) = 0) (hf : F ≤ f1) : rcI fc ls ct F R g 0 0 0 :=
  ⟨h.1, fun f h1 h2 => h.2 f h1 (by omega), fun f b t h1 h2 h3 h4 => by omega⟩
theorem rcI_bs {g : Nat → Int32} {t0 f0 b0 zp : Int} (hr : rcI fc ls ct F R g t0 f0 b0) (hf : 0 ≤ f0 ∧ f0 ≤ 39) (hb : 0 ≤ b0 ∧ b0 ≤ 3) (ht : 0 ≤ t0 ∧ t0 ≤ ls) (hl : ls ≤ 40) (hz : zp = (4 * f0 + b0) * 41 + t0) (h : ¬ ge1 g zp = 0) : b0 < ge1 (fc 4) f0 := by
  have e : zp = pl f0 b0 t0 := hz
  rw [e] at h
  obtain ⟨f, b, t, v1, v2, v3, v4⟩ := hr.1 _ (by unfold pl; omega) (by unfold pl; omega) h
  obtain ⟨rfl, rfl, rfl⟩ := pl_inj hb ⟨v2.1, v2.2.1⟩ ⟨ht.1, by omega⟩ ⟨v3.1, by omega⟩ v4
  exact v2.2.2
end CN

/-- all places of which it is known that what they keep leads on -/
def en (fc : Nat → Nat → Int32) (ls ct F R : Int) (gc gb gm : Nat → Int32) (t0 f0 b0 : Int) : Prop :=
  ∀ f b t : Int, (0 ≤ f ∧ f < F) → (0 ≤ b ∧ b ≤ 3) → (0 ≤ t ∧ t ≤ ls) → t0 < t ∨ (t = t0 ∧ (f < f0 ∨ (f = f0 ∧ b < b0))) → ¬ ge1 gc (pl f b t) = 0 → ∀ w : Int, 0 ≤ w → w < ge1 gm (pl f b t) → ev1 (cup fc 33 gm) ls ct F R f b t (ge1 gb (8 * pl f b t + w))
section EN
variable {X : kGh} {am : Nat → Nat} {fc : Nat → Nat → Int32} {ls ct F R t0 f0 b0 : Int} {gc gb gm gb' gm' : Nat → Int32}
theorem vl_bs {f0 b0 t0 zp : Int} (hr : vl fc ls F gc) (hf : 0 ≤ f0 ∧ f0 ≤ 39) (hb : 0 ≤ b0 ∧ b0 ≤ 3) (ht : 0 ≤ t0 ∧ t0 ≤ ls) (hl : ls ≤ 40) (hz : zp = (4 * f0 + b0) * 41 + t0) (h : ¬ ge1 gc zp = 0) : b0 < ge1 (fc 4) f0 := by
  have e : zp = pl f0 b0 t0 := hz
  rw [e] at h
  obtain ⟨f, b, t, v1, v2, v3, v4⟩ := hr _ (by unfold pl; omega) (by unfold pl; omega) h
  obtain ⟨rfl, rfl, rfl⟩ := pl_inj hb ⟨v2.1, v2.2.1⟩ ⟨ht.1, by omega⟩ ⟨v3.1, by omega⟩ v4
  exact v2.2.2
theorem ev1_mv {f b t v : Int} (h : ev1 (cup fc 33 gm) ls ct F R f b t v) (hm : ∀ g q : Int, stp fc ls ct F R f b t g q → ge1 gm' (pl g (nb fc q) (ds fc f b t q)) = ge1 gm (pl g (nb fc q) (ds fc f b t q))) : ev1 (cup fc 33 gm') ls ct F R f b t v := by
  refine ⟨h.1, ?_⟩
  rcases h.2 with h | ⟨g, q, w, h1, h2, h3, h4, h5, h6⟩
  · exact Or.inl h
  · have h6 : w < ge1 gm (pl g (nb fc q) (ds fc f b t q)) := h6
    have h7 : w < ge1 gm' (pl g (nb fc q) (ds fc f b t q)) := by rw [hm g q h1]; exact h6
    exact Or.inr ⟨g, q, w, h1, h2, h3, h4, h5, h7⟩
theorem en_0 : en fc ls ct F R gc gb gm ls 0 0 := fun f b t h1 h2 h3 h4 => by omega
theorem en_skip (h : en fc ls ct F R gc gb gm t0 f0 b0) (h0 : ge1 gc (pl f0 b0 t0) = 0) : en fc ls ct F R gc gb gm t0 f0 (b0 + 1) := fun f b t h1 h2 h3 h4 h5 => by
  by_cases e : f = f0 ∧ b = b0 ∧ t = t0
  · obtain ⟨rfl, rfl, rfl⟩ := e
    exact absurd h0 h5
  · exact h f b t h1 h2 h3 (by omega) h5
theorem en_b (h : en fc ls ct F R gc gb gm t0 f0 b0) (h0 : 4 ≤ b0) : en fc ls ct F R gc gb gm t0 (f0 + 1) 0 := fun f b t h1 h2 h3 h4 h5 => h f b t h1 h2 h3 (by omega) h5
theorem en_f (h : en fc ls ct F R gc gb gm t0 f0 b0) (h0 : F ≤ f0) : en fc ls ct F R gc gb gm (t0 - 1) 0 0 := fun f b t h1 h2 h3 h4 h5 => h f b t h1 h2 h3 (by omega) h5
theorem en_step (hk : frk X am fc) (hsz : ∀ f : Int, 0 ≤ f → f < F → 1 ≤ ge1 (fc 4) f) (hF : F ≤ 40) (hR : R ≤ 24) (hls : ls ≤ 40) (hv : vl fc ls F gc) (h : en fc ls ct F R gc gb gm t0 f0 b0) (hf : 0 ≤ f0 ∧ f0 < F) (hb : 0 ≤ b0 ∧ b0 ≤ 3 ∧ b0 < ge1 (fc 4) f0) (ht : 0 ≤ t0 ∧ t0 ≤ ls) (h8 : ∀ z : Int, 0 ≤ z → z < 6560 → ge1 gm z ≤ 8) (hc : cn (cup (cup (cup fc 30 gc) 32 gb) 33 gm) ls ct F R f0 b0 t0 gb' gm') : en fc ls ct F R gc gb' gm' t0 f0 (b0 + 1) := by
  have hc : (∀ z : Int, 0 ≤ z → z < 8 * pl f0 b0 t0 ∨ 8 * pl f0 b0 t0 + 8 ≤ z → ge1 gb' z = ge1 gb z) ∧ (∀ z : Int, 0 ≤ z → ¬ z = pl f0 b0 t0 → ge1 gm' z = ge1 gm z) ∧ ∀ w : Int, 0 ≤ w → w < ge1 gm' (pl f0 b0 t0) → ev1 (cup fc 33 gm) ls ct F R f0 b0 t0 (ge1 gb' (8 * pl f0 b0 t0 + w)) := hc
  obtain ⟨c1, c2, c3⟩ := hc
  -- the counts of places farther on stay
  have far : ∀ f b t : Int, (0 ≤ f ∧ f < F) → (0 ≤ b ∧ b < ge1 (fc 4) f) → t0 ≤ t → ∀ g q : Int, stp fc ls ct F R f b t g q → ge1 gm' (pl g (nb fc q) (ds fc f b t q)) = ge1 gm (pl g (nb fc q) (ds fc f b t q)) := by
    intro f b t f1 b1 t1 g q hs
    obtain ⟨s1, s2, s3⟩ := stp_ok hk hsz hF hR f1 b1 (by omega) hs
    have s0 := hs.1
    refine c2 _ (by unfold pl; omega) (fun e => ?_)
    have := pl_inj s2 ⟨hb.1, hb.2.1⟩ ⟨by omega, by omega⟩ ⟨ht.1, by omega⟩ e
    omega
  intro f b t h1 h2 h3 h4 h5 w w0 w1
  obtain ⟨f9, b9, t9, v1, v2, v3, v4⟩ := hv (pl f b t) (by unfold pl; omega) (by unfold pl; omega) h5
  obtain ⟨rfl, rfl, rfl⟩ := pl_inj h2 ⟨v2.1, v2.2.1⟩ ⟨h3.1, by omega⟩ ⟨v3.1, by omega⟩ v4
  by_cases e : f = f0 ∧ b = b0 ∧ t = t0
  · obtain ⟨rfl, rfl, rfl⟩ := e
    exact ev1_mv (c3 w w0 w1) (far f b t h1 ⟨h2.1, v2.2.2⟩ (by omega))
  · have hne : ¬ pl f b t = pl f0 b0 t0 := fun q => e (by
      have := pl_inj h2 ⟨hb.1, hb.2.1⟩ ⟨h3.1, by omega⟩ ⟨ht.1, by omega⟩ q
      omega)
    have hpos : 0 ≤ pl f b t := by unfold pl; omega
    rw [c2 _ hpos hne] at w1
    have w8 := h8 _ hpos (by unfold pl; omega)
    rw [c1 _ (by omega) (by omega)]
    exact ev1_mv (h f b t h1 h2 h3 (by omega) h5 w w0 w1) (far f b t h1 ⟨h2.1, v2.2.2⟩ (by omega))
end EN
