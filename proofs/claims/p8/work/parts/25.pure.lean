/-! pure words of a parting -/
theorem cup2_self (fc : Nat → Nat → Int32) : fc = cup (cup fc 32 (fc 32)) 33 (fc 33) := by
  funext j
  unfold cup
  by_cases h : j = 33
  · rw [if_pos h, h]
  · rw [if_neg h]
    by_cases h2 : j = 32
    · rw [if_pos h2, h2]
    · rw [if_neg h2]
theorem cup30_self (fc : Nat → Nat → Int32) : fc = cup fc 30 (fc 30) := by
  funext j
  unfold cup
  by_cases h : j = 30
  · rw [if_pos h, h]
  · rw [if_neg h]
/-- what a value kept at a place does to what is kept -/
def kp (fc : Nat → Nat → Int32) (p v : Int) (gb gm : Nat → Int32) : Prop :=
  (∀ z : Int, 0 ≤ z → z < 8 * p ∨ 8 * p + 8 ≤ z → ge1 gb z = ge1 (fc 32) z) ∧ (∀ z : Int, 0 ≤ z → ¬ z = p → ge1 gm z = ge1 (fc 33) z) ∧
  ∀ j : Int, 0 ≤ j → j < ge1 gm p → ge1 gb (8 * p + j) = v ∨ ∃ i : Int, 0 ≤ i ∧ i < ge1 (fc 33) p ∧ ge1 gb (8 * p + j) = ge1 (fc 32) (8 * p + i)
theorem kp_in {f0 g0 gb : Nat → Int32} {p v j k m : Int} (hu : ge1 gb (8 * p + j) = if 8 * p + j = 8 * p + k then v else ge1 g0 (8 * p + j)) (hj : 0 ≤ j) (h1 : j < k → ge1 g0 (8 * p + j) = ge1 f0 (8 * p + j)) (h2 : k < j → ge1 g0 (8 * p + j) = ge1 f0 (8 * p + (j - 1))) (h3 : 0 ≤ k ∧ k ≤ m) (h4 : j ≤ m) : ge1 gb (8 * p + j) = v ∨ ∃ i : Int, 0 ≤ i ∧ i < m ∧ ge1 gb (8 * p + j) = ge1 f0 (8 * p + i) := by
  by_cases e : j = k
  · rw [if_pos (by omega)] at hu
    exact Or.inl hu
  · rw [if_neg (by omega)] at hu
    by_cases e2 : j < k
    · exact Or.inr ⟨j, hj, by omega, hu.trans (h1 e2)⟩
    · exact Or.inr ⟨j - 1, by omega, by omega, hu.trans (h2 (by omega))⟩
theorem pl_inj {f b t f2 b2 t2 : Int} (hb : 0 ≤ b ∧ b ≤ 3) (hb2 : 0 ≤ b2 ∧ b2 ≤ 3) (ht : 0 ≤ t ∧ t ≤ 40) (ht2 : 0 ≤ t2 ∧ t2 ≤ 40) (h : pl f b t = pl f2 b2 t2) : f = f2 ∧ b = b2 ∧ t = t2 := by
  unfold pl at h
  omega
/-- a place reached from f, b, t by one step -/
def stp (fc : Nat → Nat → Int32) (ls ct F R f b t g q : Int) : Prop := (0 ≤ g ∧ g < F) ∧ (-1 ≤ q ∧ q < R) ∧ bw fc ct f g q ∧ ps fc ls f b t q
def goI (fc : Nat → Nat → Int32) (ls ct F R f b t : Int) (g : Nat → Int32) (g1 q1 : Int) : Prop :=
  (∀ z : Int, 0 ≤ z → ¬ ge1 (fc 30) z = 0 → ¬ ge1 g z = 0) ∧
  (∀ z : Int, 0 ≤ z → ¬ ge1 g z = 0 → ¬ ge1 (fc 30) z = 0 ∨ ∃ g2 q2 : Int, stp fc ls ct F R f b t g2 q2 ∧ z = pl g2 (nb fc q2) (ds fc f b t q2)) ∧
  ∀ g2 q2 : Int, stp fc ls ct F R f b t g2 q2 → g2 < g1 ∨ (g2 = g1 ∧ q2 < q1) → ¬ ge1 g (pl g2 (nb fc q2) (ds fc f b t q2)) = 0
def go (fc : Nat → Nat → Int32) (ls ct F R f b t : Int) (g : Nat → Int32) : Prop :=
  (∀ z : Int, 0 ≤ z → ¬ ge1 (fc 30) z = 0 → ¬ ge1 g z = 0) ∧
  (∀ z : Int, 0 ≤ z → ¬ ge1 g z = 0 → ¬ ge1 (fc 30) z = 0 ∨ ∃ g2 q2 : Int, stp fc ls ct F R f b t g2 q2 ∧ z = pl g2 (nb fc q2) (ds fc f b t q2)) ∧
  ∀ g2 q2 : Int, stp fc ls ct F R f b t g2 q2 → ¬ ge1 g (pl g2 (nb fc q2) (ds fc f b t q2)) = 0
section GO
variable {fc : Nat → Nat → Int32} {ls ct F R f b t g1 q1 : Int} {g g' : Nat → Int32}
theorem goI_0 : goI fc ls ct F R f b t (fc 30) 0 (-1) :=
  ⟨fun _ _ h => h, fun _ _ h => Or.inl h, fun g2 q2 h h2 => by
    obtain ⟨h3, h4, -⟩ := h
    omega⟩
theorem goI_skip (h : goI fc ls ct F R f b t g g1 q1) (hn : bw fc ct f g1 q1 → ps fc ls f b t q1 → False) : goI fc ls ct F R f b t g g1 (q1 + 1) :=
  ⟨h.1, h.2.1, fun g2 q2 h3 h4 => by
    by_cases e : g2 = g1 ∧ q2 = q1
    · obtain ⟨rfl, rfl⟩ := e
      exact absurd h3.2.2.2 (fun q => hn h3.2.2.1 q)
    · exact h.2.2 g2 q2 h3 (by omega)⟩
theorem goI_set {zp : Int} (h : goI fc ls ct F R f b t g g1 q1) (hs : stp fc ls ct F R f b t g1 q1) (hz : zp = pl g1 (nb fc q1) (ds fc f b t q1)) (h0 : 0 ≤ zp) (hp : ∀ g2 q2 : Int, stp fc ls ct F R f b t g2 q2 → 0 ≤ pl g2 (nb fc q2) (ds fc f b t q2)) (hu : ∀ w : Int, 0 ≤ w → ge1 g' w = if w = zp then 1 else ge1 g w) : goI fc ls ct F R f b t g' g1 (q1 + 1) := by
  refine ⟨fun z hz0 h1 => ?_, fun z hz0 h1 => ?_, fun g2 q2 h3 h4 => ?_⟩
  · rw [hu z hz0]
    by_cases e : z = zp
    · rw [if_pos e]; decide
    · rw [if_neg e]; exact h.1 z hz0 h1
  · rw [hu z hz0] at h1
    by_cases e : z = zp
    · exact Or.inr ⟨g1, q1, hs, by rw [e, hz]⟩
    · rw [if_neg e] at h1; exact h.2.1 z hz0 h1
  · rw [hu _ (hp g2 q2 h3)]
    by_cases e : pl g2 (nb fc q2) (ds fc f b t q2) = zp
    · rw [if_pos e]; decide
    · rw [if_neg e]
      refine h.2.2 g2 q2 h3 ?_
      by_cases e2 : g2 = g1 ∧ q2 = q1
      · obtain ⟨rfl, rfl⟩ := e2
        exact absurd hz.symm e
      · omega
theorem goI_next (h : goI fc ls ct F R f b t g g1 q1) (hq : R ≤ q1) : goI fc ls ct F R f b t g (g1 + 1) (-1) :=
  ⟨h.1, h.2.1, fun g2 q2 h3 h4 => h.2.2 g2 q2 h3 (by obtain ⟨h5, h6, -⟩ := h3; omega)⟩
theorem goI_end (h : goI fc ls ct F R f b t g g1 q1) (hg : F ≤ g1) : go fc ls ct F R f b t g :=
  ⟨h.1, h.2.1, fun g2 q2 h3 => h.2.2 g2 q2 h3 (by obtain ⟨h5, -⟩ := h3; omega)⟩
end GO
/-- what is reached is a place: a form, a cut shorter than it, a place of the line -/
def vl (fc : Nat → Nat → Int32) (ls F : Int) (g : Nat → Int32) : Prop := ∀ z : Int, 0 ≤ z → z < 6560 → ¬ ge1 g z = 0 → ∃ f b t : Int, (0 ≤ f ∧ f < F) ∧ (0 ≤ b ∧ b ≤ 3 ∧ b < ge1 (fc 4) f) ∧ (0 ≤ t ∧ t ≤ ls) ∧ z = pl f b t
def clo (fc : Nat → Nat → Int32) (ls ct F R : Int) (g : Nat → Int32) (f b t : Int) : Prop := ∀ g2 q2 : Int, stp fc ls ct F R f b t g2 q2 → ¬ ge1 g (pl g2 (nb fc q2) (ds fc f b t q2)) = 0
def rcI (fc : Nat → Nat → Int32) (ls ct F R : Int) (g : Nat → Int32) (t0 f0 b0 : Int) : Prop :=
  vl fc ls F g ∧ (∀ f : Int, 0 ≤ f → f < F → ¬ ge1 g (pl f 0 0) = 0) ∧
  ∀ f b t : Int, (0 ≤ f ∧ f < F) → (0 ≤ b ∧ b ≤ 3) → (0 ≤ t ∧ t ≤ ls) → t < t0 ∨ (t = t0 ∧ (f < f0 ∨ (f = f0 ∧ b < b0))) → ¬ ge1 g (pl f b t) = 0 → clo fc ls ct F R g f b t
def rc (fc : Nat → Nat → Int32) (ls ct F R : Int) (g : Nat → Int32) : Prop :=
  vl fc ls F g ∧ (∀ f : Int, 0 ≤ f → f < F → ¬ ge1 g (pl f 0 0) = 0) ∧
  ∀ f b t : Int, (0 ≤ f ∧ f < F) → (0 ≤ b ∧ b ≤ 3) → (0 ≤ t ∧ t ≤ ls) → ¬ ge1 g (pl f b t) = 0 → clo fc ls ct F R g f b t
section RC
variable {X : kGh} {am : Nat → Nat} {fc : Nat → Nat → Int32} {ls ct F R t0 f0 b0 : Int} {g g' : Nat → Int32}
theorem nb_rng (hk : frk X am fc) {q : Int} (hq : -1 ≤ q ∧ q ≤ 23) : 0 ≤ nb fc q ∧ nb fc q ≤ 3 := by
  obtain ⟨-, -, -, k12, -⟩ := hk
  unfold nb
  by_cases h : q < 0
  · rw [if_pos h]; omega
  · rw [if_neg h]
    have := k12 q (by omega)
    omega
/-- the place behind a step -/
theorem stp_ok (hk : frk X am fc) (hsz : ∀ f : Int, 0 ≤ f → f < F → 1 ≤ ge1 (fc 4) f) (hF : F ≤ 40) (hR : R ≤ 24) {f b t g2 q2 : Int} (hf : 0 ≤ f ∧ f < F) (hb : 0 ≤ b ∧ b < ge1 (fc 4) f) (ht : 0 ≤ t) (h : stp fc ls ct F R f b t g2 q2) : (t < ds fc f b t q2 ∧ ds fc f b t q2 ≤ ls) ∧ (0 ≤ nb fc q2 ∧ nb fc q2 ≤ 3) ∧ nb fc q2 < ge1 (fc 4) g2 := by
  obtain ⟨h1, h2, h3, h4⟩ := h
  refine ⟨ds_rng hk ⟨hf.1, by omega⟩ hb ht ⟨h2.1, by omega⟩ h4, nb_rng hk ⟨h2.1, by omega⟩, ?_⟩
  unfold nb
  by_cases hn : q2 < 0
  · rw [if_pos hn]
    have := hsz g2 h1.1 h1.2
    omega
  · rw [if_neg hn]
    exact (h3.2.2 (by omega)).2
theorem rcI_go (hk : frk X am fc) (hsz : ∀ f : Int, 0 ≤ f → f < F → 1 ≤ ge1 (fc 4) f) (hF : F ≤ 40) (hR : R ≤ 24) (hls : ls ≤ 40) (hr : rcI fc ls ct F R g t0 f0 b0) (hf : 0 ≤ f0 ∧ f0 < F) (hb : 0 ≤ b0 ∧ b0 < ge1 (fc 4) f0 ∧ b0 ≤ 3) (ht : 0 ≤ t0 ∧ t0 ≤ ls) (hg : go (cup fc 30 g) ls ct F R f0 b0 t0 g') : rcI fc ls ct F R g' t0 f0 (b0 + 1) := by
  have hg : (∀ z : Int, 0 ≤ z → ¬ ge1 g z = 0 → ¬ ge1 g' z = 0) ∧ (∀ z : Int, 0 ≤ z → ¬ ge1 g' z = 0 → ¬ ge1 g z = 0 ∨ ∃ g2 q2 : Int, stp fc ls ct F R f0 b0 t0 g2 q2 ∧ z = pl g2 (nb fc q2) (ds fc f0 b0 t0 q2)) ∧ ∀ g2 q2 : Int, stp fc ls ct F R f0 b0 t0 g2 q2 → ¬ ge1 g' (pl g2 (nb fc q2) (ds fc f0 b0 t0 q2)) = 0 := hg
  obtain ⟨m1, m2, m3⟩ := hg
  have hstp : ∀ g2 q2 : Int, stp fc ls ct F R f0 b0 t0 g2 q2 → (0 ≤ g2 ∧ g2 < F) ∧ (t0 < ds fc f0 b0 t0 q2 ∧ ds fc f0 b0 t0 q2 ≤ ls) ∧ (0 ≤ nb fc q2 ∧ nb fc q2 ≤ 3) ∧ nb fc q2 < ge1 (fc 4) g2 := fun g2 q2 h => ⟨h.1, stp_ok hk hsz hF hR hf ⟨hb.1, hb.2.1⟩ ht.1 h⟩
  refine ⟨fun z hz hz2 h1 => ?_, fun f h1 h2 => ?_, fun f b t h1 h2 h3 h4 h5 => ?_⟩
  · rcases m2 z hz h1 with h | ⟨g2, q2, h, rfl⟩
    · exact hr.1 z hz hz2 h
    · obtain ⟨s1, s2, s3, s4⟩ := hstp g2 q2 h
      exact ⟨g2, nb fc q2, ds fc f0 b0 t0 q2, s1, ⟨s3.1, s3.2, s4⟩, ⟨by omega, s2.2⟩, rfl⟩
  · exact m1 _ (by unfold pl; omega) (hr.2.1 f h1 h2)
  · have hold : ¬ ge1 g (pl f b t) = 0 := by
      rcases m2 _ (by unfold pl; omega) h5 with h | ⟨g2, q2, h, e⟩
      · exact h
      · obtain ⟨s1, s2, s3, s4⟩ := hstp g2 q2 h
        have := pl_inj h2 s3 ⟨h3.1, by omega⟩ ⟨by omega, by omega⟩ e
        omega
    by_cases e : f = f0 ∧ b = b0 ∧ t = t0
    · obtain ⟨rfl, rfl, rfl⟩ := e
      exact fun g2 q2 h => m3 g2 q2 h
    · intro g2 q2 h
      have hc := hr.2.2 f b t h1 h2 h3 (by omega) hold g2 q2 h
      obtain ⟨f9, b9, t9, v1, v2, v3, v4⟩ := hr.1 (pl f b t) (by unfold pl; omega) (by unfold pl; omega) hold
      have v5 := pl_inj h2 ⟨v2.1, v2.2.1⟩ ⟨h3.1, by omega⟩ ⟨v3.1, by omega⟩ v4
      obtain ⟨rfl, rfl, rfl⟩ := v5
      obtain ⟨s2, s3, s4⟩ := stp_ok hk hsz hF hR h1 ⟨h2.1, v2.2.2⟩ h3.1 h
      exact m1 _ (by unfold pl; have := h.1; omega) hc
theorem rcI_skip (hr : rcI fc ls ct F R g t0 f0 b0) (h : ge1 g (pl f0 b0 t0) = 0) : rcI fc ls ct F R g t0 f0 (b0 + 1) :=
  ⟨hr.1, hr.2.1, fun f b t h1 h2 h3 h4 h5 => by
    by_cases e : f = f0 ∧ b = b0 ∧ t = t0
    · obtain ⟨rfl, rfl, rfl⟩ := e
      exact absurd h h5
    · exact hr.2.2 f b t h1 h2 h3 (by omega) h5⟩
theorem rcI_b (hr : rcI fc ls ct F R g t0 f0 b0) (h : 4 ≤ b0) : rcI fc ls ct F R g t0 (f0 + 1) 0 :=
  ⟨hr.1, hr.2.1, fun f b t h1 h2 h3 h4 h5 => hr.2.2 f b t h1 h2 h3 (by omega) h5⟩
theorem rcI_f (hr : rcI fc ls ct F R g t0 f0 b0) (h : F ≤ f0) : rcI fc ls ct F R g (t0 + 1) 0 0 :=
  ⟨hr.1, hr.2.1, fun f b t h1 h2 h3 h4 h5 => hr.2.2 f b t h1 h2 h3 (by omega) h5⟩
theorem rcI_end (hk : frk X am fc) (hsz : ∀ f : Int, 0 ≤ f → f < F → 1 ≤ ge1 (fc 4) f) (hF : F ≤ 40) (hR : R ≤ 24) (hls : ls ≤ 40) (hr : rcI fc ls ct F R g t0 f0 b0) (h : ls ≤ t0) : rc fc ls ct F R g :=
  ⟨hr.1, hr.2.1, fun f b t h1 h2 h3 h5 => by
    by_cases e : t < ls
    · exact hr.2.2 f b t h1 h2 h3 (by omega) h5
    · intro g2 q2 h
      obtain ⟨f9, b9, t9, v1, v2, v3, v4⟩ := hr.1 (pl f b t) (by unfold pl; omega) (by unfold pl; omega) h5
      have v5 := pl_inj h2 ⟨v2.1, v2.2.1⟩ ⟨h3.1, by omega⟩ ⟨v3.1, by omega⟩ v4
      obtain ⟨rfl, rfl, rfl⟩ := v5
      obtain ⟨s2, -⟩ := stp_ok hk hsz hF hR h1 ⟨h2.1, v2.2.2⟩ h3.1 h
      omega⟩
end RC
