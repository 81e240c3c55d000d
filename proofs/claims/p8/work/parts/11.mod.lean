/-! a heap of kinds: what each cell of ours may hold. A kind: its own number, the sort of cell, length, least, most -/
abbrev kTy : Type := Nat × Nat × Nat × Int × Int
abbrev kGh : Type := (Nat → kTy) × (Nat → Nat)
def ok20 (X : kGh) (a n : Nat) (lo hi : Int) (f : Nat → Int32) : Prop := ∀ z : Int, 0 ≤ z ∧ z < n → lo ≤ ge1 f z ∧ ge1 f z ≤ hi ∧ (z < X.2 a → 1 ≤ ge1 f z)
def iv_e (ca : Nat → ClassId) (X : kGh) (a : Nat) (t : kTy) (x : va_E) : Prop :=
  (t.2.1 = 20 → ∃ f : Nat → Int32, x = .inl (ca 20, t.2.2.1, .inl f) ∧ ok20 X a t.2.2.1 t.2.2.2.1 t.2.2.2.2 f) ∧
  (t.2.1 = 21 → ∃ f : Nat → Int32, x = .inl (ca 21, t.2.2.1, .inl f)) ∧
  (t.2.1 = 22 → ∃ f : Nat → Int32, x = .inl (ca 22, t.2.2.1, .inl f)) ∧
  (t.2.1 = 23 → ∃ f : Nat → Int64, x = .inl (ca 23, t.2.2.1, .inr (.inl f)))
def iv (D : va_G) (ca : Nat → ClassId) (A : Nat → Prop) (X : kGh) (H : Heap) : Prop := ∀ a : Nat, (X.1 a).2.1 ≠ 0 → A a ∧ ∃ x : va_E, va_at D vwCl (a, x) H ∧ iv_e ca X a (X.1 a) x
def k_tys (ca : Nat → ClassId) : List (ClassId × FieldType) := [(ca 20, .int), (ca 21, .byte), (ca 22, .boolean), (ca 23, .long)]
section IV
variable {D : va_G} {ca : Nat → ClassId} {A : Nat → Prop} {X : kGh} {H H1 : Heap} {a cd n : Nat} {lo hi : Int}
theorem iv_A (h : iv D ca A X H) {t : kTy} (hg : X.1 a = t) (ht : t.2.1 ≠ 0) : A a := (h a (by rw [hg]; exact ht)).1
theorem iv_o20 (h : iv D ca A X H) (hg : X.1 a = (cd, 20, n, lo, hi)) : ∃ f : Nat → Int32, va_at D vwCl (a, .inl (ca 20, n, .inl f)) H ∧ ok20 X a n lo hi f := by
  obtain ⟨-, x, h1, h2⟩ := h a (by rw [hg]; exact (by decide : (20 : Nat) ≠ 0))
  rw [hg] at h2
  obtain ⟨f, rfl, h3⟩ := h2.1 rfl
  exact ⟨f, h1, h3⟩
theorem iv_o21 (h : iv D ca A X H) (hg : X.1 a = (cd, 21, n, lo, hi)) : ∃ f : Nat → Int32, va_at D vwCl (a, .inl (ca 21, n, .inl f)) H := by
  obtain ⟨-, x, h1, h2⟩ := h a (by rw [hg]; exact (by decide : (21 : Nat) ≠ 0))
  rw [hg] at h2
  obtain ⟨f, rfl⟩ := h2.2.1 rfl
  exact ⟨f, h1⟩
theorem iv_o22 (h : iv D ca A X H) (hg : X.1 a = (cd, 22, n, lo, hi)) : ∃ f : Nat → Int32, va_at D vwCl (a, .inl (ca 22, n, .inl f)) H := by
  obtain ⟨-, x, h1, h2⟩ := h a (by rw [hg]; exact (by decide : (22 : Nat) ≠ 0))
  rw [hg] at h2
  obtain ⟨f, rfl⟩ := h2.2.2.1 rfl
  exact ⟨f, h1⟩
theorem iv_o23 (h : iv D ca A X H) (hg : X.1 a = (cd, 23, n, lo, hi)) : ∃ f : Nat → Int64, va_at D vwCl (a, .inl (ca 23, n, .inr (.inl f))) H := by
  obtain ⟨-, x, h1, h2⟩ := h a (by rw [hg]; exact (by decide : (23 : Nat) ≠ 0))
  rw [hg] at h2
  obtain ⟨f, rfl⟩ := h2.2.2.2 rfl
  exact ⟨f, h1⟩
theorem iv_set (h : iv D ca A X H) {x : va_E} (hc : va_at D vwCl (a, x) H1) (oq : ∀ q : Nat, q ≠ a → H1[q]? = H[q]?) (hx : iv_e ca X a (X.1 a) x) : iv D ca A X H1 := by
  intro q hq
  obtain ⟨h1, y, h2, h3⟩ := h q hq
  refine ⟨h1, ?_⟩
  by_cases e : q = a
  · subst e
    exact ⟨x, hc, hx⟩
  · exact ⟨y, h2.kept (oq q e), h3⟩
/-- a cell that has no kind -/
theorem iv_skip (h : iv D ca A X H) (h0 : (X.1 a).2.1 = 0) (oq : ∀ q : Nat, q ≠ a → H1[q]? = H[q]?) : iv D ca A X H1 := by
  intro q hq
  obtain ⟨h1, y, h2, h3⟩ := h q hq
  exact ⟨h1, y, h2.kept (oq q (fun e => hq (by rw [e]; exact h0))), h3⟩
theorem iv_e20 {f : Nat → Int32} (h : ok20 X a n lo hi f) : iv_e ca X a (cd, 20, n, lo, hi) (.inl (ca 20, n, .inl f)) :=
  ⟨fun _ => ⟨f, rfl, h⟩, fun q => absurd q (show ¬ (20 : Nat) = 21 by decide), fun q => absurd q (show ¬ (20 : Nat) = 22 by decide), fun q => absurd q (show ¬ (20 : Nat) = 23 by decide)⟩
theorem iv_e21 {f : Nat → Int32} : iv_e ca X a (cd, 21, n, lo, hi) (.inl (ca 21, n, .inl f)) :=
  ⟨fun q => absurd q (show ¬ (21 : Nat) = 20 by decide), fun _ => ⟨f, rfl⟩, fun q => absurd q (show ¬ (21 : Nat) = 22 by decide), fun q => absurd q (show ¬ (21 : Nat) = 23 by decide)⟩
theorem iv_e22 {f : Nat → Int32} : iv_e ca X a (cd, 22, n, lo, hi) (.inl (ca 22, n, .inl f)) :=
  ⟨fun q => absurd q (show ¬ (22 : Nat) = 20 by decide), fun q => absurd q (show ¬ (22 : Nat) = 21 by decide), fun _ => ⟨f, rfl⟩, fun q => absurd q (show ¬ (22 : Nat) = 23 by decide)⟩
theorem iv_e23 {f : Nat → Int64} : iv_e ca X a (cd, 23, n, lo, hi) (.inl (ca 23, n, .inr (.inl f))) :=
  ⟨fun q => absurd q (show ¬ (23 : Nat) = 20 by decide), fun q => absurd q (show ¬ (23 : Nat) = 21 by decide), fun q => absurd q (show ¬ (23 : Nat) = 22 by decide), fun _ => ⟨f, rfl⟩⟩
theorem ge1_upd (f : Nat → Int32) {z x w : Int} (hz : 0 ≤ z) (hw : 0 ≤ w) (h1 : -2147483648 ≤ x) (h2 : x ≤ 2147483647) : ge1 (upd f z.toNat (kz x)) w = if w = z then x else ge1 f w := by
  unfold ge1 upd
  by_cases h : w = z
  · subst h
    rw [if_pos rfl, if_pos rfl, kz_toInt h1 h2]
  · rw [if_neg h, if_neg (by omega)]
theorem ok20_set {f : Nat → Int32} {z x : Int} (h : ok20 X a n lo hi f) (hz : 0 ≤ z) (h1 : lo ≤ x ∧ x ≤ hi) (h2 : -2147483648 ≤ lo ∧ hi ≤ 2147483647) (h3 : z < X.2 a → 1 ≤ x) : ok20 X a n lo hi (upd f z.toNat (kz x)) := by
  intro w hw
  rw [ge1_upd f hz hw.1 (by omega) (by omega)]
  by_cases e : w = z
  · rw [if_pos e, e]
    exact ⟨h1.1, h1.2, h3⟩
  · rw [if_neg e]
    exact h w hw
/-- an int stored where such may stand -/
theorem iv_s20 {f : Nat → Int32} {z x : Int} (h : iv D ca A X H) (hg : X.1 a = (cd, 20, n, lo, hi)) (hf : ok20 X a n lo hi f) (hc : va_at D vwCl (a, .inl (ca 20, n, .inl (upd f z.toNat (kz x)))) H1) (oq : ∀ q : Nat, q ≠ a → H1[q]? = H[q]?) (hz : 0 ≤ z) (h1 : lo ≤ x ∧ x ≤ hi) (h2 : -2147483648 ≤ lo ∧ hi ≤ 2147483647) (h3 : z < X.2 a → 1 ≤ x) : iv D ca A X H1 :=
  iv_set h hc oq (by rw [hg]; exact iv_e20 (ok20_set hf hz h1 h2 h3))
theorem iv_s21 {f : Nat → Int32} (h : iv D ca A X H) (hg : X.1 a = (cd, 21, n, lo, hi)) (hc : va_at D vwCl (a, .inl (ca 21, n, .inl f)) H1) (oq : ∀ q : Nat, q ≠ a → H1[q]? = H[q]?) : iv D ca A X H1 :=
  iv_set h hc oq (by rw [hg]; exact iv_e21)
theorem iv_s23 {f : Nat → Int64} (h : iv D ca A X H) (hg : X.1 a = (cd, 23, n, lo, hi)) (hc : va_at D vwCl (a, .inl (ca 23, n, .inr (.inl f))) H1) (oq : ∀ q : Nat, q ≠ a → H1[q]? = H[q]?) : iv D ca A X H1 :=
  iv_set h hc oq (by rw [hg]; exact iv_e23)
theorem iv_s22 {f : Nat → Int32} (h : iv D ca A X H) (hg : X.1 a = (cd, 22, n, lo, hi)) (hc : va_at D vwCl (a, .inl (ca 22, n, .inl f)) H1) (oq : ∀ q : Nat, q ≠ a → H1[q]? = H[q]?) : iv D ca A X H1 :=
  iv_set h hc oq (by rw [hg]; exact iv_e22)
/-- cells of other kinds are other cells -/
theorem iv_ne {b : Nat} {t u : kTy} (h1 : X.1 a = t) (h2 : X.1 b = u) (h : t.1 ≠ u.1) : a ≠ b := fun e => h (by rw [← h1, ← h2, e])
theorem iv_ne0 {b : Nat} {t : kTy} (h1 : X.1 a = t) (h2 : (X.1 b).2.1 = 0) (h : t.2.1 ≠ 0) : a ≠ b := fun e => h (by rw [← h1, e]; exact h2)
end IV
/-! the reference's state -/
def fup (f : Nat → Int) (k : Nat) (x : Int) : Nat → Int := fun j => if j = k then x else f j
def fupL (f : Nat → Int64) (k : Nat) (x : Int64) : Nat → Int64 := fun j => if j = k then x else f j
def mM (am : Nat → Nat) (zi : Nat → Int) (zl : Nat → Int64) : List Value := [.ref (am 0), .int (kz (zi 1)), .int (kz (zi 2)), .ref (am 3), .ref (am 4), .ref (am 5), .ref (am 6), .ref (am 7), .ref (am 8), .int (kz (zi 9)), .ref (am 10), .ref (am 11), .ref (am 12), .ref (am 13), .ref (am 14), .ref (am 15), .ref (am 16), .ref (am 17), .ref (am 18), .ref (am 19), .int (kz (zi 20)), .int (kz (zi 21)), .int (kz (zi 22)), .ref (am 23), .ref (am 24), .ref (am 25), .int (kz (zi 26)), .ref (am 27), .int (kz (zi 28)), .ref (am 29), .ref (am 30), .ref (am 31), .ref (am 32), .ref (am 33), .int (kz (zi 34)), .int (kz (zi 35)), .long (zl 36), .long (zl 37), .int (kz (zi 38)), .int (kz (zi 39)), .ref (am 40), .ref (am 41), .ref (am 42), .ref (am 43), .ref (am 44), .ref (am 45), .int (kz (zi 46)), .ref (am 47), .ref (am 48)]
theorem mM_1 (am : Nat → Nat) (zi : Nat → Int) (zl : Nat → Int64) (x : Int) : (mM am zi zl).set 1 (.int (kz x)) = mM am (fup zi 1 x) zl := rfl
theorem mM_2 (am : Nat → Nat) (zi : Nat → Int) (zl : Nat → Int64) (x : Int) : (mM am zi zl).set 2 (.int (kz x)) = mM am (fup zi 2 x) zl := rfl
theorem mM_9 (am : Nat → Nat) (zi : Nat → Int) (zl : Nat → Int64) (x : Int) : (mM am zi zl).set 9 (.int (kz x)) = mM am (fup zi 9 x) zl := rfl
theorem mM_20 (am : Nat → Nat) (zi : Nat → Int) (zl : Nat → Int64) (x : Int) : (mM am zi zl).set 20 (.int (kz x)) = mM am (fup zi 20 x) zl := rfl
theorem mM_21 (am : Nat → Nat) (zi : Nat → Int) (zl : Nat → Int64) (x : Int) : (mM am zi zl).set 21 (.int (kz x)) = mM am (fup zi 21 x) zl := rfl
theorem mM_22 (am : Nat → Nat) (zi : Nat → Int) (zl : Nat → Int64) (x : Int) : (mM am zi zl).set 22 (.int (kz x)) = mM am (fup zi 22 x) zl := rfl
theorem mM_26 (am : Nat → Nat) (zi : Nat → Int) (zl : Nat → Int64) (x : Int) : (mM am zi zl).set 26 (.int (kz x)) = mM am (fup zi 26 x) zl := rfl
theorem mM_28 (am : Nat → Nat) (zi : Nat → Int) (zl : Nat → Int64) (x : Int) : (mM am zi zl).set 28 (.int (kz x)) = mM am (fup zi 28 x) zl := rfl
theorem mM_34 (am : Nat → Nat) (zi : Nat → Int) (zl : Nat → Int64) (x : Int) : (mM am zi zl).set 34 (.int (kz x)) = mM am (fup zi 34 x) zl := rfl
theorem mM_35 (am : Nat → Nat) (zi : Nat → Int) (zl : Nat → Int64) (x : Int) : (mM am zi zl).set 35 (.int (kz x)) = mM am (fup zi 35 x) zl := rfl
theorem mM_36 (am : Nat → Nat) (zi : Nat → Int) (zl : Nat → Int64) (x : Int64) : (mM am zi zl).set 36 (.long x) = mM am zi (fupL zl 36 x) := rfl
theorem mM_37 (am : Nat → Nat) (zi : Nat → Int) (zl : Nat → Int64) (x : Int64) : (mM am zi zl).set 37 (.long x) = mM am zi (fupL zl 37 x) := rfl
theorem mM_38 (am : Nat → Nat) (zi : Nat → Int) (zl : Nat → Int64) (x : Int) : (mM am zi zl).set 38 (.int (kz x)) = mM am (fup zi 38 x) zl := rfl
theorem mM_39 (am : Nat → Nat) (zi : Nat → Int) (zl : Nat → Int64) (x : Int) : (mM am zi zl).set 39 (.int (kz x)) = mM am (fup zi 39 x) zl := rfl
theorem mM_46 (am : Nat → Nat) (zi : Nat → Int) (zl : Nat → Int64) (x : Int) : (mM am zi zl).set 46 (.int (kz x)) = mM am (fup zi 46 x) zl := rfl
def mTl : List kTy := [(100, 21, 60, 0, 0), (0, 0, 0, 0, 0), (0, 0, 0, 0, 0), (103, 21, 320, 0, 0), (104, 20, 40, 0, 8), (105, 20, 40, 0, 5), (106, 20, 40, 0, 19), (107, 20, 40, -2147483648, 2147483647), (108, 22, 40, 0, 0), (0, 0, 0, 0, 0), (110, 21, 240, 0, 0), (111, 20, 24, 0, 3), (112, 20, 24, 0, 3), (113, 20, 24, 0, 4), (114, 20, 24, -2147483648, 2147483647), (115, 20, 24, -2147483648, 2147483647), (116, 20, 24, -2147483648, 2147483647), (117, 22, 36, 0, 0), (118, 20, 36, -1, 5), (119, 20, 20, -2147483648, 2147483647), (0, 0, 0, 0, 0), (0, 0, 0, 0, 0), (0, 0, 0, 0, 0), (123, 20, 40, 0, 39), (124, 20, 40, -1, 23), (125, 21, 480, 0, 0), (0, 0, 0, 0, 0), (127, 21, 40, 0, 0), (0, 0, 0, 0, 0), (129, 20, 1600, -2147483648, 2147483647), (130, 22, 6560, 0, 0), (131, 23, 6560, 0, 0), (132, 20, 52480, -2147483648, 2147483647), (133, 20, 6560, 0, 8), (0, 0, 0, 0, 0), (0, 0, 0, 0, 0), (0, 0, 0, 0, 0), (0, 0, 0, 0, 0), (0, 0, 0, 0, 0), (0, 0, 0, 0, 0), (140, 20, 8, -2147483648, 2147483647), (141, 20, 8, 0, 40), (142, 20, 320, 0, 39), (143, 20, 320, -2147483648, 2147483647), (144, 20, 40, 0, 8), (145, 23, 9600, 0, 0), (0, 0, 0, 0, 0), (147, 20, 31, 0, 40), (148, 20, 1860, -2147483648, 2147483647)]
def mA (X : kGh) (am : Nat → Nat) : Prop := ∀ (k : Nat) (t : kTy), mTl[k]? = some t → t.2.1 ≠ 0 → X.1 (am k) = t
def mS (X : kGh) (A : Nat → Prop) (o : Nat) (am : Nat → Nat) : Prop := mA X am ∧ (X.1 o).2.1 = 0 ∧ A o ∧ ∀ (k : Nat) (t : kTy), mTl[k]? = some t → t.2.1 ≠ 0 → k ≠ 4 → k ≠ 41 → X.2 (am k) = 0
def mZ (X : kGh) (am : Nat → Nat) (zi : Nat → Int) : Prop := (0 ≤ zi 1 ∧ zi 1 ≤ 60) ∧ (0 ≤ zi 2 ∧ zi 2 ≤ 40) ∧ (0 ≤ zi 9 ∧ zi 9 ≤ 24) ∧ (0 ≤ zi 20 ∧ zi 20 ≤ 20) ∧ (-2147483648 ≤ zi 21 ∧ zi 21 ≤ 2147483647) ∧ (0 ≤ zi 22 ∧ zi 22 ≤ 40) ∧ (0 ≤ zi 26 ∧ zi 26 ≤ 480) ∧ (0 ≤ zi 28 ∧ zi 28 ≤ 40) ∧ (0 ≤ zi 34 ∧ zi 34 ≤ 1) ∧ (0 ≤ zi 35 ∧ zi 35 ≤ 1) ∧ (0 ≤ zi 38 ∧ zi 38 ≤ 1) ∧ (0 ≤ zi 39 ∧ zi 39 ≤ 8) ∧ (0 ≤ zi 46 ∧ zi 46 ≤ 30) ∧ zi 2 ≤ X.2 (am 4) ∧ zi 39 ≤ X.2 (am 41)
def mI (D : va_G) (ca : Nat → ClassId) (A : Nat → Prop) (X : kGh) (o : Nat) (am : Nat → Nat) (zi : Nat → Int) (zl : Nat → Int64) (H : Heap) : Prop := iv D ca A X H ∧ va_at D vwCl (o, .inr (12, mM am zi zl)) H
/-- what is known of the first places of an array grows -/
def xr (X : kGh) (a n : Nat) : kGh := (X.1, fun q => if q = a then max (X.2 a) n else X.2 q)
theorem xr_self (X : kGh) (a n : Nat) : (xr X a n).2 a = max (X.2 a) n := if_pos rfl
theorem xr_ne (X : kGh) {a q : Nat} (n : Nat) (h : q ≠ a) : (xr X a n).2 q = X.2 q := if_neg h
theorem ok20_xr {X : kGh} {a q m n : Nat} {lo hi : Int} {f : Nat → Int32} (h : ok20 X q m lo hi f) (hne : q ≠ a) : ok20 (xr X a n) q m lo hi f := by
  intro z hz
  rw [xr_ne X n hne]
  exact h z hz
theorem iv_xr {D : va_G} {ca : Nat → ClassId} {A : Nat → Prop} {X : kGh} {H : Heap} {a cd m n : Nat} {lo hi : Int} {f : Nat → Int32} (h : iv D ca A X H) (hg : X.1 a = (cd, 20, m, lo, hi)) (hc : va_at D vwCl (a, .inl (ca 20, m, .inl f)) H) (hk : ok20 X a m lo hi f) (hn : ∀ z : Int, 0 ≤ z → z < n → z < m → 1 ≤ ge1 f z) : iv D ca A (xr X a n) H := by
  intro q hq
  have hq : (X.1 q).2.1 ≠ 0 := hq
  obtain ⟨h1, x, h2, h3⟩ := h q hq
  refine ⟨h1, ?_⟩
  by_cases e : q = a
  · subst e
    refine ⟨_, hc, ?_⟩
    show iv_e ca (xr X q n) q (X.1 q) _
    rw [hg]
    refine iv_e20 (fun z hz => ?_)
    obtain ⟨k1, k2, k3⟩ := hk z hz
    refine ⟨k1, k2, fun hl => ?_⟩
    rw [xr_self] at hl
    by_cases e2 : z < X.2 q
    · exact k3 e2
    · exact hn z hz.1 (by omega) hz.2
  · refine ⟨x, h2, ?_⟩
    show iv_e ca (xr X a n) q (X.1 q) x
    refine ⟨fun t => ?_, h3.2.1, h3.2.2.1, h3.2.2.2⟩
    obtain ⟨f9, e9, k9⟩ := h3.1 t
    exact ⟨f9, e9, ok20_xr k9 e⟩
theorem mTl_code : ∀ k : Nat, k < 49 → ∀ t : kTy, mTl[k]? = some t → t.2.1 ≠ 0 → t.1 = 100 + k := by decide +kernel
theorem mA_ne {X : kGh} {am : Nat → Nat} (h : mA X am) {j k : Nat} {t u : kTy} (hj : mTl[j]? = some t) (hk : mTl[k]? = some u) (ht : t.2.1 ≠ 0) (hu : u.2.1 ≠ 0) (hne : j ≠ k) : am j ≠ am k := by
  intro e
  have lj : j < 49 := (List.getElem?_eq_some_iff.mp hj).1
  have lk : k < 49 := (List.getElem?_eq_some_iff.mp hk).1
  have h1 := h j t hj ht
  have h2 := h k u hk hu
  rw [e, h2] at h1
  have c1 := mTl_code j lj t hj ht
  have c2 := mTl_code k lk u hk hu
  rw [h1] at c2
  omega
theorem mS_xr {X : kGh} {A : Nat → Prop} {o k n : Nat} {am : Nat → Nat} {u : kTy} (h : mS X A o am) (hk : mTl[k]? = some u) (hu : u.2.1 ≠ 0) (h4 : k = 4 ∨ k = 41) : mS (xr X (am k) n) A o am :=
  ⟨h.1, h.2.1, h.2.2.1, fun j t hj ht h1 h2 => by
    rw [xr_ne X n (mA_ne h.1 hj hk ht hu (by omega))]
    exact h.2.2.2 j t hj ht h1 h2⟩
