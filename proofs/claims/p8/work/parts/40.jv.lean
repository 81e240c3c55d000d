/-! the class: kinds of its cells. X: kinds, how many first places are not null, by a rule's number the length of its beginning, how many rules -/
abbrev jG : Type := (Nat → kTy) × (Nat → Nat) × (Nat → Int) × Nat
def jk (X : jG) : kGh := (X.1, fun _ => 0)
/-- the bits of the rules that may stand ahead of a form of n letters -/
def jb (X : jG) (v : Int) (n : Nat) : Prop := (∀ i : Nat, i < 32 → X.2.2.2 ≤ i → bt (kz v) i = false) ∧ ∀ j : Nat, j < X.2.2.2 → bt (kz v) j = true → X.2.2.1 j ≤ (n : Int)
def jo0 (X : jG) (id : Nat) (fs : List Value) : Prop := ∃ (forms : Nat) (rules : Nat) (size : Int), fs = [.ref forms, .ref rules, .int (kz size)] ∧ X.1 forms = (210, 24, 40, 2, (id : Int)) ∧ X.1 rules = (211, 25, 40, 7, (id : Int)) ∧ (0 ≤ size ∧ size ≤ 40) ∧ size ≤ (X.2.1 forms : Int)
def jo1 (X : jG) (id : Nat) (fs : List Value) : Prop := ∃ (uses : Nat) (size : Int) (cb : Nat) (ub : Nat) (fb : Nat) (oldest : Int), fs = [.ref uses, .int (kz size), .ref cb, .ref ub, .ref fb, .int (kz oldest)] ∧ X.1 uses = (215, 20, 20, -2147483648, 2147483647) ∧ (0 ≤ size ∧ size ≤ 30) ∧ X.1 cb = (216, 27, 30, 230, 40) ∧ X.1 ub = (217, 27, 30, 231, 20) ∧ X.1 fb = (218, 20, 30, 0, 40) ∧ (0 ≤ oldest ∧ oldest ≤ 29)
def jo2 (X : jG) (id : Nat) (fs : List Value) : Prop := ∃ (ln : Nat) (letters : Nat) (kind : Int) (stem : Int) (kept : Int) (cost : Int) (number : Int) (ends : Int) (begins : Int), fs = [.ref letters, .int (kz kind), .int (kz stem), .int (kz kept), .int (kz cost), .int (kz number), .int (kz ends), .int (kz begins)] ∧ X.1 letters = (201, 21, ln, 0, 0) ∧ (0 ≤ kind ∧ kind ≤ 5) ∧ (0 ≤ stem ∧ stem ≤ 19) ∧ (-2147483648 ≤ kept ∧ kept ≤ 2147483647) ∧ (-2147483648 ≤ cost ∧ cost ≤ 2147483647) ∧ (0 ≤ number ∧ number ≤ 39) ∧ (-2147483648 ≤ ends ∧ ends ≤ 2147483647) ∧ (-2147483648 ≤ begins ∧ begins ≤ 2147483647) ∧ 1 ≤ ln ∧ ln ≤ 8 ∧ jb X begins ln ∧ ln = X.2.1 id
def jo3 (X : jG) (id : Nat) (fs : List Value) : Prop := ∃ (cheapest : Nat) (size : Int) (tongue : Nat) (line : Nat) (ways : Nat) (plainWays : Nat) (plainCheapest : Nat) (ruledWays : Nat) (ruledCheapest : Nat) (inForce : Int) (barred : Nat), fs = [.ref cheapest, .int (kz size), .ref tongue, .ref line, .ref ways, .ref plainWays, .ref plainCheapest, .ref ruledWays, .ref ruledCheapest, .int (kz inForce), .ref barred] ∧ X.1 cheapest = (219, 27, 40, 232, 160) ∧ (0 ≤ size ∧ size ≤ 40) ∧ X.1 tongue = (9, 30, 0, 0, 0) ∧ X.1 line = (204, 21, 40, 0, 0) ∧ X.1 ways = (220, 23, 160, 0, 0) ∧ X.1 plainWays = (221, 28, 40, 233, 40) ∧ X.1 plainCheapest = (222, 27, 40, 234, 40) ∧ X.1 ruledWays = (223, 28, 40, 235, 144) ∧ X.1 ruledCheapest = (224, 27, 40, 236, 144) ∧ (-2147483648 ≤ inForce ∧ inForce ≤ 2147483647) ∧ X.1 barred = (225, 22, 36, 0, 0)
def jo4 (X : jG) (id : Nat) (fs : List Value) : Prop := ∃ (pp : Int) (countedUncut : Int64) (counted : Int64) (left : Int) (told : Nat) (toldCount : Int) (grown : Nat) (keys : Nat) (keyCount : Int) (tongue : Nat) (lattice : Nat), fs = [.long countedUncut, .long counted, .int (kz left), .ref told, .int (kz toldCount), .ref grown, .ref keys, .int (kz keyCount), .ref tongue, .ref lattice] ∧ (0 ≤ left ∧ left ≤ 1) ∧ X.1 told = (226, 26, 8, pp, 0) ∧ (0 ≤ toldCount ∧ toldCount ≤ 8) ∧ X.1 grown = (226, 26, 8, 1 - pp, 0) ∧ X.1 keys = (228, 20, 8, -2147483648, 2147483647) ∧ (0 ≤ keyCount ∧ keyCount ≤ 8) ∧ X.1 tongue = (9, 30, 0, 0, 0) ∧ X.1 lattice = (3, 30, 0, 0, 0) ∧ 0 ≤ pp ∧ pp ≤ 1
def jo5 (X : jG) (id : Nat) (fs : List Value) : Prop := ∃ (chain : Nat) (cost : Int) (spent : Int) (place : Int) (ended : Int) (rank : Int), fs = [.ref chain, .int (kz cost), .int (kz spent), .int (kz place), .int (kz ended), .int (kz rank)] ∧ X.1 chain = (0, 30, id, 0, 0) ∧ (-2147483648 ≤ cost ∧ cost ≤ 2147483647) ∧ (-2147483648 ≤ spent ∧ spent ≤ 2147483647) ∧ (0 ≤ place ∧ place ≤ 60) ∧ (0 ≤ ended ∧ ended ≤ 1) ∧ (0 ≤ rank ∧ rank ≤ 7)
def jo6 (X : jG) (id : Nat) (fs : List Value) : Prop := ∃ (chain : Nat) (out : Nat) (day : Int) (outSize : Int), fs = [.ref chain, .ref out, .int (kz day), .int (kz outSize)] ∧ X.1 chain = (0, 30, 16, 0, 0) ∧ X.1 out = (203, 21, 480, 0, 0) ∧ (-2147483648 ≤ day ∧ day ≤ 2147483647) ∧ (0 ≤ outSize ∧ outSize ≤ 480)
def jo7 (X : jG) (id : Nat) (fs : List Value) : Prop := ∃ (ln : Nat) (letters : Nat) (endSize : Int) (beginningSize : Int) (comesFrom : Int) (comesSize : Int) (cost : Int) (firstDay : Int) (lastDay : Int) (number : Int), fs = [.ref letters, .int (kz endSize), .int (kz beginningSize), .int (kz comesFrom), .int (kz comesSize), .int (kz cost), .int (kz firstDay), .int (kz lastDay), .int (kz number)] ∧ X.1 letters = (202, 21, ln, 0, 0) ∧ (0 ≤ endSize ∧ endSize ≤ 3) ∧ (0 ≤ beginningSize ∧ beginningSize ≤ 3) ∧ (0 ≤ comesFrom ∧ comesFrom ≤ 6) ∧ (0 ≤ comesSize ∧ comesSize ≤ 4) ∧ (-2147483648 ≤ cost ∧ cost ≤ 2147483647) ∧ (-2147483648 ≤ firstDay ∧ firstDay ≤ 2147483647) ∧ (-2147483648 ≤ lastDay ∧ lastDay ≤ 2147483647) ∧ (0 ≤ number ∧ number ≤ 23) ∧ comesFrom = endSize + beginningSize ∧ (ln : Int) = comesFrom + comesSize ∧ id < X.2.2.2 ∧ X.2.2.1 id = beginningSize ∧ number = (id : Int) ∧ X.2.2.1 (100 + id) = comesSize - endSize
def jo8 (X : jG) (id : Nat) (fs : List Value) : Prop := ∃ (bytes : Nat) (size : Int), fs = [.ref bytes, .int (kz size)] ∧ X.1 bytes = (200, 21, 60, 0, 0) ∧ (0 ≤ size ∧ size ≤ 60)
def jo9 (X : jG) (id : Nat) (fs : List Value) : Prop := ∃ (forms : Nat) (rules : Nat) (formCount : Int) (ruleCount : Int) (forbidden : Nat), fs = [.ref forms, .ref rules, .int (kz formCount), .int (kz ruleCount), .ref forbidden] ∧ X.1 forms = (212, 24, 40, 2, 0) ∧ X.1 rules = (213, 29, 24, 7, 0) ∧ (0 ≤ formCount ∧ formCount ≤ 40) ∧ (0 ≤ ruleCount ∧ ruleCount ≤ 24) ∧ X.1 forbidden = (214, 22, 36, 0, 0) ∧ formCount ≤ (X.2.1 forms : Int) ∧ ruleCount ≤ (X.2.1 rules : Int) ∧ ruleCount = (X.2.2.2 : Int)
def jo10 (X : jG) (id : Nat) (fs : List Value) : Prop := ∃ (kinds : Nat) (ways : Option Nat), fs = [.ref kinds, va_rf ways] ∧ X.1 kinds = (229, 20, 36, -1, 5) ∧ (∀ b9 : Nat, ways = some b9 → X.1 b9 = (237, 28, 40, 238, 240))
def jo (X : jG) (ci id : Nat) (fs : List Value) : Prop := (ci = 0 → jo0 X id fs) ∧ (ci = 1 → jo1 X id fs) ∧ (ci = 2 → jo2 X id fs) ∧ (ci = 3 → jo3 X id fs) ∧ (ci = 4 → jo4 X id fs) ∧ (ci = 5 → jo5 X id fs) ∧ (ci = 6 → jo6 X id fs) ∧ (ci = 7 → jo7 X id fs) ∧ (ci = 8 → jo8 X id fs) ∧ (ci = 9 → jo9 X id fs) ∧ (ci = 10 → jo10 X id fs)
/-- what an object is told by: a form by its address, all else by its kind's number -/
def jid (t : kTy) (a : Nat) : Nat := if t.1 = 2 then a else t.2.2.1
def je_q (ca : Nat → ClassId) (n : Nat) (kd : Nat) (f : Nat → Option Nat) : va_E := .inl (ca kd, n, .inr (.inr (.inr (.inr f))))
def jv_e (ca : Nat → ClassId) (X : jG) (a : Nat) (t : kTy) (x : va_E) : Prop :=
  iv_e ca (jk X) a t x ∧
  (t.2.1 = 24 → ∃ f : Nat → Option Nat, x = je_q ca t.2.2.1 24 f ∧ ∀ j : Nat, j < t.2.2.1 → (∀ b : Nat, f j = some b → X.1 b = (2, 30, 0, 0, 0)) ∧ (j < X.2.1 a → f j ≠ none)) ∧
  (t.2.1 = 25 → ∃ f : Nat → Option Nat, x = je_q ca t.2.2.1 25 f ∧ ∀ j : Nat, j < t.2.2.1 → ∀ b : Nat, f j = some b → ∃ i : Nat, X.1 b = (7, 30, i, 0, 0)) ∧
  (t.2.1 = 29 → ∃ f : Nat → Option Nat, x = je_q ca t.2.2.1 25 f ∧ ∀ j : Nat, j < t.2.2.1 → (∀ b : Nat, f j = some b → X.1 b = (7, 30, j, 0, 0)) ∧ (j < X.2.1 a → f j ≠ none)) ∧
  (t.2.1 = 26 → ∃ f : Nat → Option Nat, x = je_q ca t.2.2.1 26 f ∧ ∀ j : Nat, j < t.2.2.1 → ∃ b : Nat, f j = some b ∧ X.1 b = (5, 30, 8 * t.2.2.2.1.toNat + j, 0, 0)) ∧
  (t.2.1 = 27 → ∃ f : Nat → Option Nat, x = je_q ca t.2.2.1 27 f ∧ ∀ j : Nat, j < t.2.2.1 → ∃ b : Nat, f j = some b ∧ X.1 b = (t.2.2.2.1.toNat, 20, t.2.2.2.2.toNat, -2147483648, 2147483647)) ∧
  (t.2.1 = 28 → ∃ f : Nat → Option Nat, x = je_q ca t.2.2.1 28 f ∧ ∀ j : Nat, j < t.2.2.1 → ∃ b : Nat, f j = some b ∧ X.1 b = (t.2.2.2.1.toNat, 23, t.2.2.2.2.toNat, 0, 0)) ∧
  (t.2.1 = 30 → ∃ fs : List Value, x = .inr (t.1, fs) ∧ jo X t.1 (jid t a) fs) ∧
  (t.1 = 200 → t.2.1 = 21 → ∃ f : Nat → Int32, x = .inl (ca 21, t.2.2.1, .inl f) ∧ ∀ i : Nat, i < t.2.2.1 → fits .byte (.int (f i)) = true)
def jv (D : va_G) (ca : Nat → ClassId) (A : Nat → Prop) (X : jG) (H : Heap) : Prop := ∀ a : Nat, (X.1 a).2.1 ≠ 0 → A a ∧ ∃ x : va_E, va_at D vwCl (a, x) H ∧ jv_e ca X a (X.1 a) x
def j_tys (ca : Nat → ClassId) : List (ClassId × FieldType) := [(ca 20, .int), (ca 21, .byte), (ca 22, .boolean), (ca 23, .long), (ca 24, .object "JoinBench$Form"), (ca 25, .object "JoinBench$Rule"), (ca 26, .object "JoinBench$Path"), (ca 27, .array .int), (ca 28, .array .long)]
section JV
variable {D : va_G} {ca : Nat → ClassId} {A : Nat → Prop} {X : jG} {H H1 : Heap} {a cd n id : Nat} {lo hi : Int}
theorem jv_iv (h : jv D ca A X H) : iv D ca A (jk X) H := fun a ha => by
  obtain ⟨h1, x, h2, h3⟩ := h a ha
  exact ⟨h1, x, h2, h3.1⟩
theorem jv_A (h : jv D ca A X H) {t : kTy} (hg : X.1 a = t) (ht : t.2.1 ≠ 0) : A a := (h a (by rw [hg]; exact ht)).1
theorem jv_set (h : jv D ca A X H) {x : va_E} (hc : va_at D vwCl (a, x) H1) (oq : ∀ q : Nat, q ≠ a → H1[q]? = H[q]?) (hx : jv_e ca X a (X.1 a) x) : jv D ca A X H1 := by
  intro q hq
  obtain ⟨h1, y, h2, h3⟩ := h q hq
  refine ⟨h1, ?_⟩
  by_cases e : q = a
  · subst e
    exact ⟨x, hc, hx⟩
  · exact ⟨y, h2.kept (oq q e), h3⟩
theorem jv_skip (h : jv D ca A X H) (h0 : (X.1 a).2.1 = 0) (oq : ∀ q : Nat, q ≠ a → H1[q]? = H[q]?) : jv D ca A X H1 := by
  intro q hq
  obtain ⟨h1, y, h2, h3⟩ := h q hq
  exact ⟨h1, y, h2.kept (oq q (fun e => hq (by rw [e]; exact h0))), h3⟩
theorem jv_e2 {x : va_E} {k : Nat} (hk : k < 24) (hb : k ≠ 21 ∨ cd ≠ 200) (h : iv_e ca (jk X) a (cd, k, n, lo, hi) x) : jv_e ca X a (cd, k, n, lo, hi) x :=
  ⟨h, fun q => absurd (show k = 24 from q) (by omega), fun q => absurd (show k = 25 from q) (by omega), fun q => absurd (show k = 29 from q) (by omega), fun q => absurd (show k = 26 from q) (by omega), fun q => absurd (show k = 27 from q) (by omega), fun q => absurd (show k = 28 from q) (by omega), fun q => absurd (show k = 30 from q) (by omega), fun q1 q2 => by
    rcases hb with hb | hb
    · exact absurd q2 hb
    · exact absurd q1 hb⟩
theorem jv_s20 {f : Nat → Int32} {z x : Int} (h : jv D ca A X H) (hg : X.1 a = (cd, 20, n, lo, hi)) (hf : ok20 (jk X) a n lo hi f) (hc : va_at D vwCl (a, .inl (ca 20, n, .inl (upd f z.toNat (kz x)))) H1) (oq : ∀ q : Nat, q ≠ a → H1[q]? = H[q]?) (hz : 0 ≤ z) (h1 : lo ≤ x ∧ x ≤ hi) (h2 : -2147483648 ≤ lo ∧ hi ≤ 2147483647) : jv D ca A X H1 :=
  jv_set h hc oq (by rw [hg]; exact jv_e2 (by decide) (Or.inl (by decide)) (iv_e20 (ok20_set hf hz h1 h2 (fun q => absurd (show z < (0 : Nat) from q) (by omega)))))
theorem jv_s21 {f : Nat → Int32} (h : jv D ca A X H) (hg : X.1 a = (cd, 21, n, lo, hi)) (hc : va_at D vwCl (a, .inl (ca 21, n, .inl f)) H1) (oq : ∀ q : Nat, q ≠ a → H1[q]? = H[q]?) (hcd : cd ≠ 200) : jv D ca A X H1 :=
  jv_set h hc oq (by rw [hg]; exact jv_e2 (by decide) (Or.inr hcd) iv_e21)
theorem byte_nar (x : Int32) : fits .byte (.int (vp_nar .byte x)) = true := by
  show (decide (-128 ≤ x.toInt8.toInt32) && decide (x.toInt8.toInt32 ≤ 127)) = true
  have h1 := Int8.le_toInt x.toInt8
  have h2 := Int8.toInt_lt x.toInt8
  have e : x.toInt8.toInt32.toInt = x.toInt8.toInt := Int8.toInt_toInt32 _
  have a1 : (-128 : Int32) ≤ x.toInt8.toInt32 := by
    rw [Int32.le_iff_toInt_le, e, show (-128 : Int32).toInt = -128 by decide]
    exact h1
  have a2 : x.toInt8.toInt32 ≤ (127 : Int32) := by
    rw [Int32.le_iff_toInt_le, e, show (127 : Int32).toInt = 127 by decide]
    omega
  rw [decide_eq_true a1, decide_eq_true a2]
  rfl
theorem jv_e200 {f : Nat → Int32} (hf : ∀ i : Nat, i < n → fits .byte (.int (f i)) = true) : jv_e ca X a (200, 21, n, lo, hi) (.inl (ca 21, n, .inl f)) :=
  ⟨iv_e21, fun q => absurd q (show ¬ (21 : Nat) = 24 by decide), fun q => absurd q (show ¬ (21 : Nat) = 25 by decide), fun q => absurd q (show ¬ (21 : Nat) = 29 by decide), fun q => absurd q (show ¬ (21 : Nat) = 26 by decide), fun q => absurd q (show ¬ (21 : Nat) = 27 by decide), fun q => absurd q (show ¬ (21 : Nat) = 28 by decide), fun q => absurd q (show ¬ (21 : Nat) = 30 by decide), fun _ _ => ⟨f, rfl, hf⟩⟩
theorem jv_o200 (h : jv D ca A X H) (hg : X.1 a = (200, 21, n, lo, hi)) : ∃ f : Nat → Int32, va_at D vwCl (a, .inl (ca 21, n, .inl f)) H ∧ ∀ i : Nat, i < n → fits .byte (.int (f i)) = true := by
  obtain ⟨-, x, h1, h2⟩ := h a (by rw [hg]; exact (by decide : (21 : Nat) ≠ 0))
  rw [hg] at h2
  obtain ⟨f, rfl, h3⟩ := h2.2.2.2.2.2.2.2.2 rfl rfl
  exact ⟨f, h1, h3⟩
theorem jv_s21b {f : Nat → Int32} {z : Nat} {x : Int32} (h : jv D ca A X H) (hg : X.1 a = (200, 21, n, lo, hi)) (hf : ∀ i : Nat, i < n → fits .byte (.int (f i)) = true) (hc : va_at D vwCl (a, .inl (ca 21, n, .inl (upd f z (vp_nar .byte x)))) H1) (oq : ∀ q : Nat, q ≠ a → H1[q]? = H[q]?) : jv D ca A X H1 :=
  jv_set h hc oq (by
    rw [hg]
    refine jv_e200 (fun i hi => ?_)
    unfold upd
    by_cases e : i = z
    · rw [if_pos e]
      exact byte_nar x
    · rw [if_neg e]
      exact hf i hi)
theorem jv_s22 {f : Nat → Int32} (h : jv D ca A X H) (hg : X.1 a = (cd, 22, n, lo, hi)) (hc : va_at D vwCl (a, .inl (ca 22, n, .inl f)) H1) (oq : ∀ q : Nat, q ≠ a → H1[q]? = H[q]?) : jv D ca A X H1 :=
  jv_set h hc oq (by rw [hg]; exact jv_e2 (by decide) (Or.inl (by decide)) iv_e22)
theorem jv_s23 {f : Nat → Int64} (h : jv D ca A X H) (hg : X.1 a = (cd, 23, n, lo, hi)) (hc : va_at D vwCl (a, .inl (ca 23, n, .inr (.inl f))) H1) (oq : ∀ q : Nat, q ≠ a → H1[q]? = H[q]?) : jv D ca A X H1 :=
  jv_set h hc oq (by rw [hg]; exact jv_e2 (by decide) (Or.inl (by decide)) iv_e23)
theorem jv_o0 (h : jv D ca A X H) (hg : X.1 a = (0, 30, id, 0, 0)) : ∃ fs : List Value, va_at D vwCl (a, .inr (0, fs)) H ∧ jo0 X id fs := by
  obtain ⟨-, x, h1, h2⟩ := h a (by rw [hg]; exact (by decide : (30 : Nat) ≠ 0))
  rw [hg] at h2
  obtain ⟨fs, rfl, h3⟩ := h2.2.2.2.2.2.2.2.1 rfl
  exact ⟨fs, h1, h3.1 rfl⟩
theorem jv_c0 {fs : List Value} (h : jo0 X id fs) : jv_e ca X a (0, 30, id, 0, 0) (.inr (0, fs)) :=
  ⟨⟨fun q => absurd q (show ¬ (30 : Nat) = 20 by decide), fun q => absurd q (show ¬ (30 : Nat) = 21 by decide), fun q => absurd q (show ¬ (30 : Nat) = 22 by decide), fun q => absurd q (show ¬ (30 : Nat) = 23 by decide)⟩, fun q => absurd q (show ¬ (30 : Nat) = 24 by decide), fun q => absurd q (show ¬ (30 : Nat) = 25 by decide), fun q => absurd q (show ¬ (30 : Nat) = 29 by decide), fun q => absurd q (show ¬ (30 : Nat) = 26 by decide), fun q => absurd q (show ¬ (30 : Nat) = 27 by decide), fun q => absurd q (show ¬ (30 : Nat) = 28 by decide), fun _ => ⟨fs, rfl, fun _ => h, fun q => absurd q (show ¬ (0 : Nat) = 1 by decide), fun q => absurd q (show ¬ (0 : Nat) = 2 by decide), fun q => absurd q (show ¬ (0 : Nat) = 3 by decide), fun q => absurd q (show ¬ (0 : Nat) = 4 by decide), fun q => absurd q (show ¬ (0 : Nat) = 5 by decide), fun q => absurd q (show ¬ (0 : Nat) = 6 by decide), fun q => absurd q (show ¬ (0 : Nat) = 7 by decide), fun q => absurd q (show ¬ (0 : Nat) = 8 by decide), fun q => absurd q (show ¬ (0 : Nat) = 9 by decide), fun q => absurd q (show ¬ (0 : Nat) = 10 by decide)⟩, fun _ q => absurd q (show ¬ (30 : Nat) = 21 by decide)⟩
theorem jv_o1 (h : jv D ca A X H) (hg : X.1 a = (1, 30, id, 0, 0)) : ∃ fs : List Value, va_at D vwCl (a, .inr (1, fs)) H ∧ jo1 X id fs := by
  obtain ⟨-, x, h1, h2⟩ := h a (by rw [hg]; exact (by decide : (30 : Nat) ≠ 0))
  rw [hg] at h2
  obtain ⟨fs, rfl, h3⟩ := h2.2.2.2.2.2.2.2.1 rfl
  exact ⟨fs, h1, h3.2.1 rfl⟩
theorem jv_c1 {fs : List Value} (h : jo1 X id fs) : jv_e ca X a (1, 30, id, 0, 0) (.inr (1, fs)) :=
  ⟨⟨fun q => absurd q (show ¬ (30 : Nat) = 20 by decide), fun q => absurd q (show ¬ (30 : Nat) = 21 by decide), fun q => absurd q (show ¬ (30 : Nat) = 22 by decide), fun q => absurd q (show ¬ (30 : Nat) = 23 by decide)⟩, fun q => absurd q (show ¬ (30 : Nat) = 24 by decide), fun q => absurd q (show ¬ (30 : Nat) = 25 by decide), fun q => absurd q (show ¬ (30 : Nat) = 29 by decide), fun q => absurd q (show ¬ (30 : Nat) = 26 by decide), fun q => absurd q (show ¬ (30 : Nat) = 27 by decide), fun q => absurd q (show ¬ (30 : Nat) = 28 by decide), fun _ => ⟨fs, rfl, fun q => absurd q (show ¬ (1 : Nat) = 0 by decide), fun _ => h, fun q => absurd q (show ¬ (1 : Nat) = 2 by decide), fun q => absurd q (show ¬ (1 : Nat) = 3 by decide), fun q => absurd q (show ¬ (1 : Nat) = 4 by decide), fun q => absurd q (show ¬ (1 : Nat) = 5 by decide), fun q => absurd q (show ¬ (1 : Nat) = 6 by decide), fun q => absurd q (show ¬ (1 : Nat) = 7 by decide), fun q => absurd q (show ¬ (1 : Nat) = 8 by decide), fun q => absurd q (show ¬ (1 : Nat) = 9 by decide), fun q => absurd q (show ¬ (1 : Nat) = 10 by decide)⟩, fun _ q => absurd q (show ¬ (30 : Nat) = 21 by decide)⟩
theorem jv_o2 (h : jv D ca A X H) (hg : X.1 a = (2, 30, id, 0, 0)) : ∃ fs : List Value, va_at D vwCl (a, .inr (2, fs)) H ∧ jo2 X a fs := by
  obtain ⟨-, x, h1, h2⟩ := h a (by rw [hg]; exact (by decide : (30 : Nat) ≠ 0))
  rw [hg] at h2
  obtain ⟨fs, rfl, h3⟩ := h2.2.2.2.2.2.2.2.1 rfl
  exact ⟨fs, h1, h3.2.2.1 rfl⟩
theorem jv_c2 {fs : List Value} (h : jo2 X a fs) : jv_e ca X a (2, 30, id, 0, 0) (.inr (2, fs)) :=
  ⟨⟨fun q => absurd q (show ¬ (30 : Nat) = 20 by decide), fun q => absurd q (show ¬ (30 : Nat) = 21 by decide), fun q => absurd q (show ¬ (30 : Nat) = 22 by decide), fun q => absurd q (show ¬ (30 : Nat) = 23 by decide)⟩, fun q => absurd q (show ¬ (30 : Nat) = 24 by decide), fun q => absurd q (show ¬ (30 : Nat) = 25 by decide), fun q => absurd q (show ¬ (30 : Nat) = 29 by decide), fun q => absurd q (show ¬ (30 : Nat) = 26 by decide), fun q => absurd q (show ¬ (30 : Nat) = 27 by decide), fun q => absurd q (show ¬ (30 : Nat) = 28 by decide), fun _ => ⟨fs, rfl, fun q => absurd q (show ¬ (2 : Nat) = 0 by decide), fun q => absurd q (show ¬ (2 : Nat) = 1 by decide), fun _ => h, fun q => absurd q (show ¬ (2 : Nat) = 3 by decide), fun q => absurd q (show ¬ (2 : Nat) = 4 by decide), fun q => absurd q (show ¬ (2 : Nat) = 5 by decide), fun q => absurd q (show ¬ (2 : Nat) = 6 by decide), fun q => absurd q (show ¬ (2 : Nat) = 7 by decide), fun q => absurd q (show ¬ (2 : Nat) = 8 by decide), fun q => absurd q (show ¬ (2 : Nat) = 9 by decide), fun q => absurd q (show ¬ (2 : Nat) = 10 by decide)⟩, fun _ q => absurd q (show ¬ (30 : Nat) = 21 by decide)⟩
theorem jv_o3 (h : jv D ca A X H) (hg : X.1 a = (3, 30, id, 0, 0)) : ∃ fs : List Value, va_at D vwCl (a, .inr (3, fs)) H ∧ jo3 X id fs := by
  obtain ⟨-, x, h1, h2⟩ := h a (by rw [hg]; exact (by decide : (30 : Nat) ≠ 0))
  rw [hg] at h2
  obtain ⟨fs, rfl, h3⟩ := h2.2.2.2.2.2.2.2.1 rfl
  exact ⟨fs, h1, h3.2.2.2.1 rfl⟩
theorem jv_c3 {fs : List Value} (h : jo3 X id fs) : jv_e ca X a (3, 30, id, 0, 0) (.inr (3, fs)) :=
  ⟨⟨fun q => absurd q (show ¬ (30 : Nat) = 20 by decide), fun q => absurd q (show ¬ (30 : Nat) = 21 by decide), fun q => absurd q (show ¬ (30 : Nat) = 22 by decide), fun q => absurd q (show ¬ (30 : Nat) = 23 by decide)⟩, fun q => absurd q (show ¬ (30 : Nat) = 24 by decide), fun q => absurd q (show ¬ (30 : Nat) = 25 by decide), fun q => absurd q (show ¬ (30 : Nat) = 29 by decide), fun q => absurd q (show ¬ (30 : Nat) = 26 by decide), fun q => absurd q (show ¬ (30 : Nat) = 27 by decide), fun q => absurd q (show ¬ (30 : Nat) = 28 by decide), fun _ => ⟨fs, rfl, fun q => absurd q (show ¬ (3 : Nat) = 0 by decide), fun q => absurd q (show ¬ (3 : Nat) = 1 by decide), fun q => absurd q (show ¬ (3 : Nat) = 2 by decide), fun _ => h, fun q => absurd q (show ¬ (3 : Nat) = 4 by decide), fun q => absurd q (show ¬ (3 : Nat) = 5 by decide), fun q => absurd q (show ¬ (3 : Nat) = 6 by decide), fun q => absurd q (show ¬ (3 : Nat) = 7 by decide), fun q => absurd q (show ¬ (3 : Nat) = 8 by decide), fun q => absurd q (show ¬ (3 : Nat) = 9 by decide), fun q => absurd q (show ¬ (3 : Nat) = 10 by decide)⟩, fun _ q => absurd q (show ¬ (30 : Nat) = 21 by decide)⟩
theorem jv_o4 (h : jv D ca A X H) (hg : X.1 a = (4, 30, id, 0, 0)) : ∃ fs : List Value, va_at D vwCl (a, .inr (4, fs)) H ∧ jo4 X id fs := by
  obtain ⟨-, x, h1, h2⟩ := h a (by rw [hg]; exact (by decide : (30 : Nat) ≠ 0))
  rw [hg] at h2
  obtain ⟨fs, rfl, h3⟩ := h2.2.2.2.2.2.2.2.1 rfl
  exact ⟨fs, h1, h3.2.2.2.2.1 rfl⟩
theorem jv_c4 {fs : List Value} (h : jo4 X id fs) : jv_e ca X a (4, 30, id, 0, 0) (.inr (4, fs)) :=
  ⟨⟨fun q => absurd q (show ¬ (30 : Nat) = 20 by decide), fun q => absurd q (show ¬ (30 : Nat) = 21 by decide), fun q => absurd q (show ¬ (30 : Nat) = 22 by decide), fun q => absurd q (show ¬ (30 : Nat) = 23 by decide)⟩, fun q => absurd q (show ¬ (30 : Nat) = 24 by decide), fun q => absurd q (show ¬ (30 : Nat) = 25 by decide), fun q => absurd q (show ¬ (30 : Nat) = 29 by decide), fun q => absurd q (show ¬ (30 : Nat) = 26 by decide), fun q => absurd q (show ¬ (30 : Nat) = 27 by decide), fun q => absurd q (show ¬ (30 : Nat) = 28 by decide), fun _ => ⟨fs, rfl, fun q => absurd q (show ¬ (4 : Nat) = 0 by decide), fun q => absurd q (show ¬ (4 : Nat) = 1 by decide), fun q => absurd q (show ¬ (4 : Nat) = 2 by decide), fun q => absurd q (show ¬ (4 : Nat) = 3 by decide), fun _ => h, fun q => absurd q (show ¬ (4 : Nat) = 5 by decide), fun q => absurd q (show ¬ (4 : Nat) = 6 by decide), fun q => absurd q (show ¬ (4 : Nat) = 7 by decide), fun q => absurd q (show ¬ (4 : Nat) = 8 by decide), fun q => absurd q (show ¬ (4 : Nat) = 9 by decide), fun q => absurd q (show ¬ (4 : Nat) = 10 by decide)⟩, fun _ q => absurd q (show ¬ (30 : Nat) = 21 by decide)⟩
theorem jv_o5 (h : jv D ca A X H) (hg : X.1 a = (5, 30, id, 0, 0)) : ∃ fs : List Value, va_at D vwCl (a, .inr (5, fs)) H ∧ jo5 X id fs := by
  obtain ⟨-, x, h1, h2⟩ := h a (by rw [hg]; exact (by decide : (30 : Nat) ≠ 0))
  rw [hg] at h2
  obtain ⟨fs, rfl, h3⟩ := h2.2.2.2.2.2.2.2.1 rfl
  exact ⟨fs, h1, h3.2.2.2.2.2.1 rfl⟩
theorem jv_c5 {fs : List Value} (h : jo5 X id fs) : jv_e ca X a (5, 30, id, 0, 0) (.inr (5, fs)) :=
  ⟨⟨fun q => absurd q (show ¬ (30 : Nat) = 20 by decide), fun q => absurd q (show ¬ (30 : Nat) = 21 by decide), fun q => absurd q (show ¬ (30 : Nat) = 22 by decide), fun q => absurd q (show ¬ (30 : Nat) = 23 by decide)⟩, fun q => absurd q (show ¬ (30 : Nat) = 24 by decide), fun q => absurd q (show ¬ (30 : Nat) = 25 by decide), fun q => absurd q (show ¬ (30 : Nat) = 29 by decide), fun q => absurd q (show ¬ (30 : Nat) = 26 by decide), fun q => absurd q (show ¬ (30 : Nat) = 27 by decide), fun q => absurd q (show ¬ (30 : Nat) = 28 by decide), fun _ => ⟨fs, rfl, fun q => absurd q (show ¬ (5 : Nat) = 0 by decide), fun q => absurd q (show ¬ (5 : Nat) = 1 by decide), fun q => absurd q (show ¬ (5 : Nat) = 2 by decide), fun q => absurd q (show ¬ (5 : Nat) = 3 by decide), fun q => absurd q (show ¬ (5 : Nat) = 4 by decide), fun _ => h, fun q => absurd q (show ¬ (5 : Nat) = 6 by decide), fun q => absurd q (show ¬ (5 : Nat) = 7 by decide), fun q => absurd q (show ¬ (5 : Nat) = 8 by decide), fun q => absurd q (show ¬ (5 : Nat) = 9 by decide), fun q => absurd q (show ¬ (5 : Nat) = 10 by decide)⟩, fun _ q => absurd q (show ¬ (30 : Nat) = 21 by decide)⟩
theorem jv_o6 (h : jv D ca A X H) (hg : X.1 a = (6, 30, id, 0, 0)) : ∃ fs : List Value, va_at D vwCl (a, .inr (6, fs)) H ∧ jo6 X id fs := by
  obtain ⟨-, x, h1, h2⟩ := h a (by rw [hg]; exact (by decide : (30 : Nat) ≠ 0))
  rw [hg] at h2
  obtain ⟨fs, rfl, h3⟩ := h2.2.2.2.2.2.2.2.1 rfl
  exact ⟨fs, h1, h3.2.2.2.2.2.2.1 rfl⟩
theorem jv_c6 {fs : List Value} (h : jo6 X id fs) : jv_e ca X a (6, 30, id, 0, 0) (.inr (6, fs)) :=
  ⟨⟨fun q => absurd q (show ¬ (30 : Nat) = 20 by decide), fun q => absurd q (show ¬ (30 : Nat) = 21 by decide), fun q => absurd q (show ¬ (30 : Nat) = 22 by decide), fun q => absurd q (show ¬ (30 : Nat) = 23 by decide)⟩, fun q => absurd q (show ¬ (30 : Nat) = 24 by decide), fun q => absurd q (show ¬ (30 : Nat) = 25 by decide), fun q => absurd q (show ¬ (30 : Nat) = 29 by decide), fun q => absurd q (show ¬ (30 : Nat) = 26 by decide), fun q => absurd q (show ¬ (30 : Nat) = 27 by decide), fun q => absurd q (show ¬ (30 : Nat) = 28 by decide), fun _ => ⟨fs, rfl, fun q => absurd q (show ¬ (6 : Nat) = 0 by decide), fun q => absurd q (show ¬ (6 : Nat) = 1 by decide), fun q => absurd q (show ¬ (6 : Nat) = 2 by decide), fun q => absurd q (show ¬ (6 : Nat) = 3 by decide), fun q => absurd q (show ¬ (6 : Nat) = 4 by decide), fun q => absurd q (show ¬ (6 : Nat) = 5 by decide), fun _ => h, fun q => absurd q (show ¬ (6 : Nat) = 7 by decide), fun q => absurd q (show ¬ (6 : Nat) = 8 by decide), fun q => absurd q (show ¬ (6 : Nat) = 9 by decide), fun q => absurd q (show ¬ (6 : Nat) = 10 by decide)⟩, fun _ q => absurd q (show ¬ (30 : Nat) = 21 by decide)⟩
theorem jv_o7 (h : jv D ca A X H) (hg : X.1 a = (7, 30, id, 0, 0)) : ∃ fs : List Value, va_at D vwCl (a, .inr (7, fs)) H ∧ jo7 X id fs := by
  obtain ⟨-, x, h1, h2⟩ := h a (by rw [hg]; exact (by decide : (30 : Nat) ≠ 0))
  rw [hg] at h2
  obtain ⟨fs, rfl, h3⟩ := h2.2.2.2.2.2.2.2.1 rfl
  exact ⟨fs, h1, h3.2.2.2.2.2.2.2.1 rfl⟩
theorem jv_c7 {fs : List Value} (h : jo7 X id fs) : jv_e ca X a (7, 30, id, 0, 0) (.inr (7, fs)) :=
  ⟨⟨fun q => absurd q (show ¬ (30 : Nat) = 20 by decide), fun q => absurd q (show ¬ (30 : Nat) = 21 by decide), fun q => absurd q (show ¬ (30 : Nat) = 22 by decide), fun q => absurd q (show ¬ (30 : Nat) = 23 by decide)⟩, fun q => absurd q (show ¬ (30 : Nat) = 24 by decide), fun q => absurd q (show ¬ (30 : Nat) = 25 by decide), fun q => absurd q (show ¬ (30 : Nat) = 29 by decide), fun q => absurd q (show ¬ (30 : Nat) = 26 by decide), fun q => absurd q (show ¬ (30 : Nat) = 27 by decide), fun q => absurd q (show ¬ (30 : Nat) = 28 by decide), fun _ => ⟨fs, rfl, fun q => absurd q (show ¬ (7 : Nat) = 0 by decide), fun q => absurd q (show ¬ (7 : Nat) = 1 by decide), fun q => absurd q (show ¬ (7 : Nat) = 2 by decide), fun q => absurd q (show ¬ (7 : Nat) = 3 by decide), fun q => absurd q (show ¬ (7 : Nat) = 4 by decide), fun q => absurd q (show ¬ (7 : Nat) = 5 by decide), fun q => absurd q (show ¬ (7 : Nat) = 6 by decide), fun _ => h, fun q => absurd q (show ¬ (7 : Nat) = 8 by decide), fun q => absurd q (show ¬ (7 : Nat) = 9 by decide), fun q => absurd q (show ¬ (7 : Nat) = 10 by decide)⟩, fun _ q => absurd q (show ¬ (30 : Nat) = 21 by decide)⟩
theorem jv_o8 (h : jv D ca A X H) (hg : X.1 a = (8, 30, id, 0, 0)) : ∃ fs : List Value, va_at D vwCl (a, .inr (8, fs)) H ∧ jo8 X id fs := by
  obtain ⟨-, x, h1, h2⟩ := h a (by rw [hg]; exact (by decide : (30 : Nat) ≠ 0))
  rw [hg] at h2
  obtain ⟨fs, rfl, h3⟩ := h2.2.2.2.2.2.2.2.1 rfl
  exact ⟨fs, h1, h3.2.2.2.2.2.2.2.2.1 rfl⟩
theorem jv_c8 {fs : List Value} (h : jo8 X id fs) : jv_e ca X a (8, 30, id, 0, 0) (.inr (8, fs)) :=
  ⟨⟨fun q => absurd q (show ¬ (30 : Nat) = 20 by decide), fun q => absurd q (show ¬ (30 : Nat) = 21 by decide), fun q => absurd q (show ¬ (30 : Nat) = 22 by decide), fun q => absurd q (show ¬ (30 : Nat) = 23 by decide)⟩, fun q => absurd q (show ¬ (30 : Nat) = 24 by decide), fun q => absurd q (show ¬ (30 : Nat) = 25 by decide), fun q => absurd q (show ¬ (30 : Nat) = 29 by decide), fun q => absurd q (show ¬ (30 : Nat) = 26 by decide), fun q => absurd q (show ¬ (30 : Nat) = 27 by decide), fun q => absurd q (show ¬ (30 : Nat) = 28 by decide), fun _ => ⟨fs, rfl, fun q => absurd q (show ¬ (8 : Nat) = 0 by decide), fun q => absurd q (show ¬ (8 : Nat) = 1 by decide), fun q => absurd q (show ¬ (8 : Nat) = 2 by decide), fun q => absurd q (show ¬ (8 : Nat) = 3 by decide), fun q => absurd q (show ¬ (8 : Nat) = 4 by decide), fun q => absurd q (show ¬ (8 : Nat) = 5 by decide), fun q => absurd q (show ¬ (8 : Nat) = 6 by decide), fun q => absurd q (show ¬ (8 : Nat) = 7 by decide), fun _ => h, fun q => absurd q (show ¬ (8 : Nat) = 9 by decide), fun q => absurd q (show ¬ (8 : Nat) = 10 by decide)⟩, fun _ q => absurd q (show ¬ (30 : Nat) = 21 by decide)⟩
theorem jv_o9 (h : jv D ca A X H) (hg : X.1 a = (9, 30, id, 0, 0)) : ∃ fs : List Value, va_at D vwCl (a, .inr (9, fs)) H ∧ jo9 X id fs := by
  obtain ⟨-, x, h1, h2⟩ := h a (by rw [hg]; exact (by decide : (30 : Nat) ≠ 0))
  rw [hg] at h2
  obtain ⟨fs, rfl, h3⟩ := h2.2.2.2.2.2.2.2.1 rfl
  exact ⟨fs, h1, h3.2.2.2.2.2.2.2.2.2.1 rfl⟩
theorem jv_c9 {fs : List Value} (h : jo9 X id fs) : jv_e ca X a (9, 30, id, 0, 0) (.inr (9, fs)) :=
  ⟨⟨fun q => absurd q (show ¬ (30 : Nat) = 20 by decide), fun q => absurd q (show ¬ (30 : Nat) = 21 by decide), fun q => absurd q (show ¬ (30 : Nat) = 22 by decide), fun q => absurd q (show ¬ (30 : Nat) = 23 by decide)⟩, fun q => absurd q (show ¬ (30 : Nat) = 24 by decide), fun q => absurd q (show ¬ (30 : Nat) = 25 by decide), fun q => absurd q (show ¬ (30 : Nat) = 29 by decide), fun q => absurd q (show ¬ (30 : Nat) = 26 by decide), fun q => absurd q (show ¬ (30 : Nat) = 27 by decide), fun q => absurd q (show ¬ (30 : Nat) = 28 by decide), fun _ => ⟨fs, rfl, fun q => absurd q (show ¬ (9 : Nat) = 0 by decide), fun q => absurd q (show ¬ (9 : Nat) = 1 by decide), fun q => absurd q (show ¬ (9 : Nat) = 2 by decide), fun q => absurd q (show ¬ (9 : Nat) = 3 by decide), fun q => absurd q (show ¬ (9 : Nat) = 4 by decide), fun q => absurd q (show ¬ (9 : Nat) = 5 by decide), fun q => absurd q (show ¬ (9 : Nat) = 6 by decide), fun q => absurd q (show ¬ (9 : Nat) = 7 by decide), fun q => absurd q (show ¬ (9 : Nat) = 8 by decide), fun _ => h, fun q => absurd q (show ¬ (9 : Nat) = 10 by decide)⟩, fun _ q => absurd q (show ¬ (30 : Nat) = 21 by decide)⟩
theorem jv_o10 (h : jv D ca A X H) (hg : X.1 a = (10, 30, id, 0, 0)) : ∃ fs : List Value, va_at D vwCl (a, .inr (10, fs)) H ∧ jo10 X id fs := by
  obtain ⟨-, x, h1, h2⟩ := h a (by rw [hg]; exact (by decide : (30 : Nat) ≠ 0))
  rw [hg] at h2
  obtain ⟨fs, rfl, h3⟩ := h2.2.2.2.2.2.2.2.1 rfl
  exact ⟨fs, h1, h3.2.2.2.2.2.2.2.2.2.2 rfl⟩
theorem jv_c10 {fs : List Value} (h : jo10 X id fs) : jv_e ca X a (10, 30, id, 0, 0) (.inr (10, fs)) :=
  ⟨⟨fun q => absurd q (show ¬ (30 : Nat) = 20 by decide), fun q => absurd q (show ¬ (30 : Nat) = 21 by decide), fun q => absurd q (show ¬ (30 : Nat) = 22 by decide), fun q => absurd q (show ¬ (30 : Nat) = 23 by decide)⟩, fun q => absurd q (show ¬ (30 : Nat) = 24 by decide), fun q => absurd q (show ¬ (30 : Nat) = 25 by decide), fun q => absurd q (show ¬ (30 : Nat) = 29 by decide), fun q => absurd q (show ¬ (30 : Nat) = 26 by decide), fun q => absurd q (show ¬ (30 : Nat) = 27 by decide), fun q => absurd q (show ¬ (30 : Nat) = 28 by decide), fun _ => ⟨fs, rfl, fun q => absurd q (show ¬ (10 : Nat) = 0 by decide), fun q => absurd q (show ¬ (10 : Nat) = 1 by decide), fun q => absurd q (show ¬ (10 : Nat) = 2 by decide), fun q => absurd q (show ¬ (10 : Nat) = 3 by decide), fun q => absurd q (show ¬ (10 : Nat) = 4 by decide), fun q => absurd q (show ¬ (10 : Nat) = 5 by decide), fun q => absurd q (show ¬ (10 : Nat) = 6 by decide), fun q => absurd q (show ¬ (10 : Nat) = 7 by decide), fun q => absurd q (show ¬ (10 : Nat) = 8 by decide), fun q => absurd q (show ¬ (10 : Nat) = 9 by decide), fun _ => h⟩, fun _ q => absurd q (show ¬ (30 : Nat) = 21 by decide)⟩
theorem jv_q24 (h : jv D ca A X H) (hg : X.1 a = (cd, 24, n, lo, hi)) : ∃ f : Nat → Option Nat, va_at D vwCl (a, je_q ca n 24 f) H ∧ ∀ j : Nat, j < n → (∀ b : Nat, f j = some b → X.1 b = (2, 30, 0, 0, 0)) ∧ (j < X.2.1 a → f j ≠ none) := by
  obtain ⟨-, x, h1, h2⟩ := h a (by rw [hg]; exact (by decide : (24 : Nat) ≠ 0))
  rw [hg] at h2
  obtain ⟨f, rfl, h3⟩ := h2.2.1 rfl
  exact ⟨f, h1, h3⟩
theorem jv_q25 (h : jv D ca A X H) (hg : X.1 a = (cd, 25, n, lo, hi)) : ∃ f : Nat → Option Nat, va_at D vwCl (a, je_q ca n 25 f) H ∧ ∀ j : Nat, j < n → ∀ b : Nat, f j = some b → ∃ i : Nat, X.1 b = (7, 30, i, 0, 0) := by
  obtain ⟨-, x, h1, h2⟩ := h a (by rw [hg]; exact (by decide : (25 : Nat) ≠ 0))
  rw [hg] at h2
  obtain ⟨f, rfl, h3⟩ := h2.2.2.1 rfl
  exact ⟨f, h1, h3⟩
theorem jv_q29 (h : jv D ca A X H) (hg : X.1 a = (cd, 29, n, lo, hi)) : ∃ f : Nat → Option Nat, va_at D vwCl (a, je_q ca n 25 f) H ∧ ∀ j : Nat, j < n → (∀ b : Nat, f j = some b → X.1 b = (7, 30, j, 0, 0)) ∧ (j < X.2.1 a → f j ≠ none) := by
  obtain ⟨-, x, h1, h2⟩ := h a (by rw [hg]; exact (by decide : (29 : Nat) ≠ 0))
  rw [hg] at h2
  obtain ⟨f, rfl, h3⟩ := h2.2.2.2.1 rfl
  exact ⟨f, h1, h3⟩
theorem jv_q26 (h : jv D ca A X H) (hg : X.1 a = (cd, 26, n, lo, hi)) : ∃ f : Nat → Option Nat, va_at D vwCl (a, je_q ca n 26 f) H ∧ ∀ j : Nat, j < n → ∃ b : Nat, f j = some b ∧ X.1 b = (5, 30, 8 * lo.toNat + j, 0, 0) := by
  obtain ⟨-, x, h1, h2⟩ := h a (by rw [hg]; exact (by decide : (26 : Nat) ≠ 0))
  rw [hg] at h2
  obtain ⟨f, rfl, h3⟩ := h2.2.2.2.2.1 rfl
  exact ⟨f, h1, h3⟩
theorem jv_q27 (h : jv D ca A X H) (hg : X.1 a = (cd, 27, n, lo, hi)) : ∃ f : Nat → Option Nat, va_at D vwCl (a, je_q ca n 27 f) H ∧ ∀ j : Nat, j < n → ∃ b : Nat, f j = some b ∧ X.1 b = (lo.toNat, 20, hi.toNat, -2147483648, 2147483647) := by
  obtain ⟨-, x, h1, h2⟩ := h a (by rw [hg]; exact (by decide : (27 : Nat) ≠ 0))
  rw [hg] at h2
  obtain ⟨f, rfl, h3⟩ := h2.2.2.2.2.2.1 rfl
  exact ⟨f, h1, h3⟩
theorem jv_q28 (h : jv D ca A X H) (hg : X.1 a = (cd, 28, n, lo, hi)) : ∃ f : Nat → Option Nat, va_at D vwCl (a, je_q ca n 28 f) H ∧ ∀ j : Nat, j < n → ∃ b : Nat, f j = some b ∧ X.1 b = (lo.toNat, 23, hi.toNat, 0, 0) := by
  obtain ⟨-, x, h1, h2⟩ := h a (by rw [hg]; exact (by decide : (28 : Nat) ≠ 0))
  rw [hg] at h2
  obtain ⟨f, rfl, h3⟩ := h2.2.2.2.2.2.2.1 rfl
  exact ⟨f, h1, h3⟩
end JV
theorem kz_min {x y z : Int} (h : (if kz y < kz x then kz y else kz x) = kz z) (hr : rg2 y x) (hz : -2147483648 ≤ z ∧ z ≤ 2147483647) : z ≤ x ∧ z ≤ y ∧ (z = x ∨ z = y) := by
  by_cases q : y < x
  · rw [if_pos ((kz_lt hr).mpr q), kz_eq ⟨hr.1, hr.2.1, hz.1, hz.2⟩] at h
    omega
  · rw [if_neg (fun e => q ((kz_lt hr).mp e)), kz_eq ⟨hr.2.2.1, hr.2.2.2, hz.1, hz.2⟩] at h
    omega
theorem b_one : ∀ i, i < 32 → bt (kz 1) i = decide (i = 0) := by decide +kernel
/-- one rule more that may stand ahead -/
theorem jb_or {X : jG} {v z y : Int} {n j : Nat} (h : jb X v n) (hj : j < X.2.2.2) (hj2 : j < 24) (hr : X.2.2.1 j ≤ (n : Int)) (e1 : kz 1 <<< (kz (j : Int) &&& 31) = kz y) (e2 : kz v ||| kz y = kz z) : jb X z n := by
  have hb : ∀ i : Nat, i < 32 → bt (kz z) i = (bt (kz v) i || decide (i = j)) := by
    intro i hi
    rw [← e2, b_or, ← e1, kz_nI, b_shl j (by omega) _ hi]
    by_cases q : j ≤ i
    · rw [b_one (i - j) (by omega), decide_eq_true q]
      by_cases q2 : i = j
      · simp [q2]
      · rw [decide_eq_false q2, decide_eq_false (show ¬ i - j = 0 by omega)]
        simp
    · rw [decide_eq_false q, decide_eq_false (show ¬ i = j by omega)]
      simp
  refine ⟨fun i hi h1 => ?_, fun i h1 h2 => ?_⟩
  · rw [hb i hi, h.1 i hi h1, decide_eq_false (by omega)]
    rfl
  · by_cases hi : i < 32
    · rw [hb i hi] at h2
      by_cases q : i = j
      · rw [q]; exact hr
      · rw [decide_eq_false q, Bool.or_false] at h2
        exact h.2 i h1 h2
    · rw [b_big (by omega)] at h2
      cases h2
theorem kn_ne {T : Nat → kTy} {a b : Nat} {t u : kTy} (h1 : T a = t) (h2 : T b = u) (h : t.1 ≠ u.1) : a ≠ b := fun e => h (by rw [← h1, ← h2, e])
theorem kn_ne3 {T : Nat → kTy} {a b : Nat} {t u : kTy} (h1 : T a = t) (h2 : T b = u) (h : t.2.2.1 ≠ u.2.2.1) : a ≠ b := fun e => h (by rw [← h1, ← h2, e])
theorem kn_ne0 {T : Nat → kTy} {a b : Nat} {t : kTy} (h1 : T a = t) (h2 : (T b).2.1 = 0) (h : t.2.1 ≠ 0) : a ≠ b := fun e => h (by rw [← h1, e]; exact h2)
section JZ
variable {p : Program} {l : Launch} {e : Env} {R : Room} {s : State} {m : MethodId} {args : Array Value} {below : List Frame} {meth : Method} {c : Code} {H : Heap} {locs : List Loc} {cells slots : Nat} {Q : State → Prop}
variable {cc : ByteArray} {pc : Nat} {ls : Array Slot} {rest : List Value} {D : va_G} {A : Nat → Prop} {a : Nat} {tys : List (ClassId × FieldType)} {H0 : Heap} {ca : Nat → ClassId}
/-- a reference read out of an array; ty: its component's type -/
theorem jz_aald (hx : p.tables.exec = Jvm.exec) (hb : c.code = cc) (hK : va_K D vwCl tys s) (t0 : Nat) {n kd : Nat} {ty : FieldType} {f : Nat → Option Nat} (hc : va_at D vwCl (a, je_q ca n kd f) H) (ht : tys[t0]? = some (ca kd, ty)) (hr : ty.isReference = true) {z : Int} (h0 : 0 ≤ z ∧ z < n) (hn : n ≤ 2147483647) (hd : decode cc pc = .ok (.aaload, 1))
    (kk : W p l e R s m args below meth c H locs cells slots Q (F0 m (pc + 1) ls (va_rf (f z.toNat) :: rest))) : W p l e R s m args below meth c H locs cells slots Q (F0 m pc ls (.int (kz z) :: .ref a :: rest)) := by
  have hin := kz_in h0.1 h0.2 hn
  have hcl := kz_clamp h0.1 (by omega : z ≤ 2147483647)
  have hlt : (kz z).toNatClampNeg < n := by rw [hcl]; omega
  exact W.aald (v := va_rf (f z.toNat)) (ty := ty) hx hb hc ((hK.2 t0 _ ht).1 n (fun j => va_rf (f j))) hr (fun q => by cases q) (by show ¬ (kz z < 0 ∨ (arrV _ _ _).slots.size ≤ _); rw [arrV_size]; exact hin) (by show (arrV _ _ _).slots[_]? = _; rw [arrV_read _ _ hlt, hcl]) rfl rfl hd kk
end JZ
/-- cells of other kinds than these stay as they were -/
def kfm (X : jG) (L : List Nat) (H0 H : Heap) : Prop := ∀ q : Nat, (X.1 q).1 ∉ L → H[q]? = H0[q]?
theorem fm_rf (X : jG) (L : List Nat) (H : Heap) : kfm X L H H := fun _ _ => rfl
theorem fm_put {X : jG} {L : List Nat} {H0 H H1 : Heap} {a : Nat} {t : kTy} (h : kfm X L H0 H) (hg : X.1 a = t) (hc : t.1 ∈ L) (oq : ∀ q : Nat, q ≠ a → H1[q]? = H[q]?) : kfm X L H0 H1 := fun q hq => (oq q (fun e => hq (by rw [e, hg]; exact hc))).trans (h q hq)
theorem fm_tr {X : jG} {L L2 : List Nat} {H0 H H1 : Heap} (h : kfm X L H0 H) (h2 : kfm X L2 H H1) (hs : ∀ c ∈ L2, c ∈ L) : kfm X L H0 H1 := fun q hq => (h2 q (fun e => hq (hs _ e))).trans (h q hq)
theorem fm_at {D : va_G} {X : jG} {L : List Nat} {H0 H : Heap} {a : Nat} {t : kTy} {x : va_E} (h : kfm X L H0 H) (hg : X.1 a = t) (hc : t.1 ∉ L) (hx : va_at D vwCl (a, x) H0) : va_at D vwCl (a, x) H := hx.kept (h a (by rw [hg]; exact hc))
/-- kinds of which there is one cell at most -/
def uq (c : Nat) : Bool := (c != 2 && Nat.blt c 12) || c == 200 || (Nat.ble 203 c && Nat.ble c 229)
def jU (X : jG) : Prop := ∀ a b : Nat, X.1 a = X.1 b → (X.1 a).2.1 ≠ 0 → uq (X.1 a).1 = true → a = b
theorem jU_eq {X : jG} (h : jU X) {a b : Nat} {t : kTy} (h1 : X.1 a = t) (h2 : X.1 b = t) (h3 : t.2.1 ≠ 0) (h4 : uq t.1 = true) : a = b := h a b (by rw [h1, h2]) (by rw [h1]; exact h3) (by rw [h1]; exact h4)
/-- arrays of the class's own kinds, of arrays -/
def jAO (U : State) : Prop := va_AO RX2 U ∧ va_AO RX7 U ∧ va_AO RX5 U ∧ mn_AO .int U ∧ mn_AO .long U
theorem jAO_moved {s U : State} (hW : s.vm.Alike U.vm) (h : jAO s) : jAO U := ⟨va_AO.moved hW h.1, va_AO.moved hW h.2.1, va_AO.moved hW h.2.2.1, mn_AO_moved hW h.2.2.2.1, mn_AO_moved hW h.2.2.2.2⟩
/-- the links between mates of the nest -/
def jN (U : State) : Prop := va_Nw (.methodLinkNest RX3 92 yX11_capped "JoinBench") U ∧ va_Nw (.methodLinkNest RX3 125 yX11_hasRule "JoinBench") U ∧ va_Nw (.methodLinkNest RX4 55 yX5_init "JoinBench") U ∧ va_Nw (.methodLinkNest RX4 174 yX11_hasRule "JoinBench") U ∧ va_Nw (.methodLinkNest RX5 9 yX0_init "JoinBench") U ∧ va_Nw (.methodLinkNest RX6 11 yX0_init "JoinBench") U ∧ va_Nw (.methodLinkNest RX10 56 yX11_capped "JoinBench") U ∧ va_Nw (.methodLinkNest RX11 11 yX8_init "JoinBench") U ∧ va_Nw (.methodLinkNest RX11 18 yX9_init "JoinBench") U ∧ va_Nw (.methodLinkNest RX11 25 yX6_init "JoinBench") U ∧ va_Nw (.methodLinkNest RX11 39 yX1_init "JoinBench") U ∧ jAO U
theorem jN_warm {s U : State} (hW : s.WarmedH U.vm) (h : jN s) : jN U := ⟨va_Nw.warmM hW h.1, va_Nw.warmM hW h.2.1, va_Nw.warmM hW h.2.2.1, va_Nw.warmM hW h.2.2.2.1, va_Nw.warmM hW h.2.2.2.2.1, va_Nw.warmM hW h.2.2.2.2.2.1, va_Nw.warmM hW h.2.2.2.2.2.2.1, va_Nw.warmM hW h.2.2.2.2.2.2.2.1, va_Nw.warmM hW h.2.2.2.2.2.2.2.2.1, va_Nw.warmM hW h.2.2.2.2.2.2.2.2.2.1, va_Nw.warmM hW h.2.2.2.2.2.2.2.2.2.2.1, jAO_moved hW.alike h.2.2.2.2.2.2.2.2.2.2.2⟩
theorem jN_same {s U : State} (hW : s.vm = U.vm) (h : jN s) : jN U := ⟨va_Nw.same rfl hW h.1, va_Nw.same rfl hW h.2.1, va_Nw.same rfl hW h.2.2.1, va_Nw.same rfl hW h.2.2.2.1, va_Nw.same rfl hW h.2.2.2.2.1, va_Nw.same rfl hW h.2.2.2.2.2.1, va_Nw.same rfl hW h.2.2.2.2.2.2.1, va_Nw.same rfl hW h.2.2.2.2.2.2.2.1, va_Nw.same rfl hW h.2.2.2.2.2.2.2.2.1, va_Nw.same rfl hW h.2.2.2.2.2.2.2.2.2.1, va_Nw.same rfl hW h.2.2.2.2.2.2.2.2.2.2.1, jAO_moved (hW ▸ Vm.Alike.refl s.vm) h.2.2.2.2.2.2.2.2.2.2.2⟩
theorem jN_AO {U : State} (h : jN U) : jAO U := h.2.2.2.2.2.2.2.2.2.2.2
theorem jN_X3_92 {U : State} (h : jN U) : va_Nw (.methodLinkNest RX3 92 yX11_capped "JoinBench") U := h.1
theorem jN_X3_125 {U : State} (h : jN U) : va_Nw (.methodLinkNest RX3 125 yX11_hasRule "JoinBench") U := h.2.1
theorem jN_X4_55 {U : State} (h : jN U) : va_Nw (.methodLinkNest RX4 55 yX5_init "JoinBench") U := h.2.2.1
theorem jN_X4_174 {U : State} (h : jN U) : va_Nw (.methodLinkNest RX4 174 yX11_hasRule "JoinBench") U := h.2.2.2.1
theorem jN_X5_9 {U : State} (h : jN U) : va_Nw (.methodLinkNest RX5 9 yX0_init "JoinBench") U := h.2.2.2.2.1
theorem jN_X6_11 {U : State} (h : jN U) : va_Nw (.methodLinkNest RX6 11 yX0_init "JoinBench") U := h.2.2.2.2.2.1
theorem jN_X10_56 {U : State} (h : jN U) : va_Nw (.methodLinkNest RX10 56 yX11_capped "JoinBench") U := h.2.2.2.2.2.2.1
theorem jN_X11_11 {U : State} (h : jN U) : va_Nw (.methodLinkNest RX11 11 yX8_init "JoinBench") U := h.2.2.2.2.2.2.2.1
theorem jN_X11_18 {U : State} (h : jN U) : va_Nw (.methodLinkNest RX11 18 yX9_init "JoinBench") U := h.2.2.2.2.2.2.2.2.1
theorem jN_X11_25 {U : State} (h : jN U) : va_Nw (.methodLinkNest RX11 25 yX6_init "JoinBench") U := h.2.2.2.2.2.2.2.2.2.1
theorem jN_X11_39 {U : State} (h : jN U) : va_Nw (.methodLinkNest RX11 39 yX1_init "JoinBench") U := h.2.2.2.2.2.2.2.2.2.2.1
def jK (D : va_G) (ca : Nat → ClassId) (U : State) : Prop := va_K D vwCl (j_tys ca) U ∧ jN U
theorem jK_warm {D : va_G} {ca : Nat → ClassId} {s U : State} (hW : s.WarmedH U.vm) (h : jK D ca s) : jK D ca U := ⟨va_K.moved hW.alike h.1, jN_warm hW h.2⟩
