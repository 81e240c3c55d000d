/-! the kinds grow -/
def jle (X Y : jG) : Prop := (∀ q : Nat, (X.1 q).2.1 ≠ 0 → Y.1 q = X.1 q ∧ Y.2.1 q = X.2.1 q) ∧ Y.2.2 = X.2.2
theorem jle_rf (X : jG) : jle X X := ⟨fun _ _ => ⟨rfl, rfl⟩, rfl⟩
theorem le_t {X Y : jG} (h : jle X Y) {a : Nat} {t : kTy} (hg : X.1 a = t) (ht : t.2.1 ≠ 0) : Y.1 a = t := by
  rw [(h.1 a (by rw [hg]; exact ht)).1]
  exact hg
theorem jle_tr {X Y Z : jG} (h : jle X Y) (h2 : jle Y Z) : jle X Z := by
  refine ⟨fun q hq => ?_, h2.2.trans h.2⟩
  obtain ⟨e1, e2⟩ := h.1 q hq
  obtain ⟨e3, e4⟩ := h2.1 q (by rw [e1]; exact hq)
  exact ⟨e3.trans e1, e4.trans e2⟩
theorem jb_le {X Y : jG} (h : jle X Y) {v : Int} {n : Nat} (hb : jb X v n) : jb Y v n := by
  unfold jb at *
  rw [h.2]
  exact hb
theorem jo0_le {X Y : jG} (hle : jle X Y) {id : Nat} {fs : List Value} (h : jo0 X id fs) : jo0 Y id fs := by
  obtain ⟨forms, rules, size, e, g_forms, g_rules, i_size, x0⟩ := h
  exact ⟨forms, rules, size, e, le_t hle g_forms (show (24 : Nat) ≠ 0 by decide), le_t hle g_rules (show (25 : Nat) ≠ 0 by decide), i_size, by rw [(hle.1 forms (by rw [g_forms]; exact (by decide : (24 : Nat) ≠ 0))).2]; exact x0⟩
theorem jo1_le {X Y : jG} (hle : jle X Y) {id : Nat} {fs : List Value} (h : jo1 X id fs) : jo1 Y id fs := by
  obtain ⟨uses, size, cb, ub, fb, oldest, e, g_uses, i_size, g_cb, g_ub, g_fb, i_oldest⟩ := h
  exact ⟨uses, size, cb, ub, fb, oldest, e, le_t hle g_uses (show (20 : Nat) ≠ 0 by decide), i_size, le_t hle g_cb (show (27 : Nat) ≠ 0 by decide), le_t hle g_ub (show (27 : Nat) ≠ 0 by decide), le_t hle g_fb (show (20 : Nat) ≠ 0 by decide), i_oldest⟩
theorem jo2_le {X Y : jG} (hle : jle X Y) {id : Nat} {fs : List Value} (hid : (X.1 id).2.1 ≠ 0) (h : jo2 X id fs) : jo2 Y id fs := by
  obtain ⟨ln, letters, kind, stem, kept, cost, number, ends, begins, e, g_letters, i_kind, i_stem, i_kept, i_cost, i_number, i_ends, i_begins, x0, x1, x2, x3⟩ := h
  exact ⟨ln, letters, kind, stem, kept, cost, number, ends, begins, e, le_t hle g_letters (show (21 : Nat) ≠ 0 by decide), i_kind, i_stem, i_kept, i_cost, i_number, i_ends, i_begins, x0, x1, jb_le hle x2, by rw [(hle.1 id hid).2]; exact x3⟩
theorem jo3_le {X Y : jG} (hle : jle X Y) {id : Nat} {fs : List Value} (h : jo3 X id fs) : jo3 Y id fs := by
  obtain ⟨cheapest, size, tongue, line, ways, plainWays, plainCheapest, ruledWays, ruledCheapest, inForce, barred, e, g_cheapest, i_size, g_tongue, g_line, g_ways, g_plainWays, g_plainCheapest, g_ruledWays, g_ruledCheapest, i_inForce, g_barred⟩ := h
  exact ⟨cheapest, size, tongue, line, ways, plainWays, plainCheapest, ruledWays, ruledCheapest, inForce, barred, e, le_t hle g_cheapest (show (27 : Nat) ≠ 0 by decide), i_size, le_t hle g_tongue (show (30 : Nat) ≠ 0 by decide), le_t hle g_line (show (21 : Nat) ≠ 0 by decide), le_t hle g_ways (show (23 : Nat) ≠ 0 by decide), le_t hle g_plainWays (show (28 : Nat) ≠ 0 by decide), le_t hle g_plainCheapest (show (27 : Nat) ≠ 0 by decide), le_t hle g_ruledWays (show (28 : Nat) ≠ 0 by decide), le_t hle g_ruledCheapest (show (27 : Nat) ≠ 0 by decide), i_inForce, le_t hle g_barred (show (22 : Nat) ≠ 0 by decide)⟩
theorem jo4_le {X Y : jG} (hle : jle X Y) {id : Nat} {fs : List Value} (h : jo4 X id fs) : jo4 Y id fs := by
  obtain ⟨pp, countedUncut, counted, left, told, toldCount, grown, keys, keyCount, tongue, lattice, e, i_left, g_told, i_toldCount, g_grown, g_keys, i_keyCount, g_tongue, g_lattice, x0, x1⟩ := h
  exact ⟨pp, countedUncut, counted, left, told, toldCount, grown, keys, keyCount, tongue, lattice, e, i_left, le_t hle g_told (show (26 : Nat) ≠ 0 by decide), i_toldCount, le_t hle g_grown (show (26 : Nat) ≠ 0 by decide), le_t hle g_keys (show (20 : Nat) ≠ 0 by decide), i_keyCount, le_t hle g_tongue (show (30 : Nat) ≠ 0 by decide), le_t hle g_lattice (show (30 : Nat) ≠ 0 by decide), x0, x1⟩
theorem jo5_le {X Y : jG} (hle : jle X Y) {id : Nat} {fs : List Value} (h : jo5 X id fs) : jo5 Y id fs := by
  obtain ⟨chain, cost, spent, place, ended, rank, e, g_chain, i_cost, i_spent, i_place, i_ended, i_rank⟩ := h
  exact ⟨chain, cost, spent, place, ended, rank, e, le_t hle g_chain (show (30 : Nat) ≠ 0 by decide), i_cost, i_spent, i_place, i_ended, i_rank⟩
theorem jo6_le {X Y : jG} (hle : jle X Y) {id : Nat} {fs : List Value} (h : jo6 X id fs) : jo6 Y id fs := by
  obtain ⟨chain, out, day, outSize, e, g_chain, g_out, i_day, i_outSize⟩ := h
  exact ⟨chain, out, day, outSize, e, le_t hle g_chain (show (30 : Nat) ≠ 0 by decide), le_t hle g_out (show (21 : Nat) ≠ 0 by decide), i_day, i_outSize⟩
theorem jo7_le {X Y : jG} (hle : jle X Y) {id : Nat} {fs : List Value} (h : jo7 X id fs) : jo7 Y id fs := by
  obtain ⟨ln, letters, endSize, beginningSize, comesFrom, comesSize, cost, firstDay, lastDay, number, e, g_letters, i_endSize, i_beginningSize, i_comesFrom, i_comesSize, i_cost, i_firstDay, i_lastDay, i_number, x0, x1, x2, x3, x4, x5⟩ := h
  exact ⟨ln, letters, endSize, beginningSize, comesFrom, comesSize, cost, firstDay, lastDay, number, e, le_t hle g_letters (show (21 : Nat) ≠ 0 by decide), i_endSize, i_beginningSize, i_comesFrom, i_comesSize, i_cost, i_firstDay, i_lastDay, i_number, x0, x1, by rw [hle.2]; exact x2, by rw [hle.2]; exact x3, x4, by rw [hle.2]; exact x5⟩
theorem jo8_le {X Y : jG} (hle : jle X Y) {id : Nat} {fs : List Value} (h : jo8 X id fs) : jo8 Y id fs := by
  obtain ⟨bytes, size, e, g_bytes, i_size⟩ := h
  exact ⟨bytes, size, e, le_t hle g_bytes (show (21 : Nat) ≠ 0 by decide), i_size⟩
theorem jo9_le {X Y : jG} (hle : jle X Y) {id : Nat} {fs : List Value} (h : jo9 X id fs) : jo9 Y id fs := by
  obtain ⟨forms, rules, formCount, ruleCount, forbidden, e, g_forms, g_rules, i_formCount, i_ruleCount, g_forbidden, x0, x1, x2⟩ := h
  exact ⟨forms, rules, formCount, ruleCount, forbidden, e, le_t hle g_forms (show (24 : Nat) ≠ 0 by decide), le_t hle g_rules (show (29 : Nat) ≠ 0 by decide), i_formCount, i_ruleCount, le_t hle g_forbidden (show (22 : Nat) ≠ 0 by decide), by rw [(hle.1 forms (by rw [g_forms]; exact (by decide : (24 : Nat) ≠ 0))).2]; exact x0, by rw [(hle.1 rules (by rw [g_rules]; exact (by decide : (29 : Nat) ≠ 0))).2]; exact x1, by rw [hle.2]; exact x2⟩
theorem jo10_le {X Y : jG} (hle : jle X Y) {id : Nat} {fs : List Value} (h : jo10 X id fs) : jo10 Y id fs := by
  obtain ⟨kinds, ways, e, g_kinds, q_ways⟩ := h
  exact ⟨kinds, ways, e, le_t hle g_kinds (show (20 : Nat) ≠ 0 by decide), fun b9 q9 => le_t hle (q_ways b9 q9) (show (28 : Nat) ≠ 0 by decide)⟩
theorem jo_le {X Y : jG} (hle : jle X Y) {ci id : Nat} {fs : List Value} (hid : ci = 2 → (X.1 id).2.1 ≠ 0) (h : jo X ci id fs) : jo Y ci id fs := by
  obtain ⟨h0, h1, h2, h3, h4, h5, h6, h7, h8, h9, h10⟩ := h
  exact ⟨fun q => jo0_le hle (h0 q), fun q => jo1_le hle (h1 q), fun q => jo2_le hle (hid q) (h2 q), fun q => jo3_le hle (h3 q), fun q => jo4_le hle (h4 q), fun q => jo5_le hle (h5 q), fun q => jo6_le hle (h6 q), fun q => jo7_le hle (h7 q), fun q => jo8_le hle (h8 q), fun q => jo9_le hle (h9 q), fun q => jo10_le hle (h10 q)⟩
theorem jv_e_le {ca : Nat → ClassId} {X Y : jG} (hle : jle X Y) {a : Nat} {x : va_E} {t : kTy} (hx : X.1 a = t) (ht : t.2.1 ≠ 0) (h : jv_e ca X a t x) : jv_e ca Y a t x := by
  have ha : (X.1 a).2.1 ≠ 0 := by rw [hx]; exact ht
  obtain ⟨h1, h2, h3, h4, h5, h6, h7, h8, h9⟩ := h
  refine ⟨h1, fun q => ?_, fun q => ?_, fun q => ?_, fun q => ?_, fun q => ?_, fun q => ?_, fun q => ?_, h9⟩
  · obtain ⟨f, e, k⟩ := h2 q
    exact ⟨f, e, fun j hj => ⟨fun b hb => le_t hle ((k j hj).1 b hb) (show (30 : Nat) ≠ 0 by decide), fun hl => (k j hj).2 (by rw [(hle.1 a ha).2] at hl; exact hl)⟩⟩
  · obtain ⟨f, e, k⟩ := h3 q
    refine ⟨f, e, fun j hj b hb => ?_⟩
    obtain ⟨i, hi⟩ := k j hj b hb
    exact ⟨i, le_t hle hi (show (30 : Nat) ≠ 0 by decide)⟩
  · obtain ⟨f, e, k⟩ := h4 q
    exact ⟨f, e, fun j hj => ⟨fun b hb => le_t hle ((k j hj).1 b hb) (show (30 : Nat) ≠ 0 by decide), fun hl => (k j hj).2 (by rw [(hle.1 a ha).2] at hl; exact hl)⟩⟩
  · obtain ⟨f, e, k⟩ := h5 q
    refine ⟨f, e, fun j hj => ?_⟩
    obtain ⟨b, hb, hi⟩ := k j hj
    exact ⟨b, hb, le_t hle hi (show (30 : Nat) ≠ 0 by decide)⟩
  · obtain ⟨f, e, k⟩ := h6 q
    refine ⟨f, e, fun j hj => ?_⟩
    obtain ⟨b, hb, hi⟩ := k j hj
    exact ⟨b, hb, le_t hle hi (show (20 : Nat) ≠ 0 by decide)⟩
  · obtain ⟨f, e, k⟩ := h7 q
    refine ⟨f, e, fun j hj => ?_⟩
    obtain ⟨b, hb, hi⟩ := k j hj
    exact ⟨b, hb, le_t hle hi (show (23 : Nat) ≠ 0 by decide)⟩
  · obtain ⟨fs, e, k⟩ := h8 q
    refine ⟨fs, e, jo_le hle (fun e2 => ?_) k⟩
    unfold jid
    rw [if_pos e2]
    exact ha
theorem jv_grow {D : va_G} {ca : Nat → ClassId} {A : Nat → Prop} {X Y : jG} {H H1 : Heap} (h : jv D ca A X H) (hle : jle X Y) (oq : ∀ q : Nat, (X.1 q).2.1 ≠ 0 → H1[q]? = H[q]?) (hn : ∀ q : Nat, (X.1 q).2.1 = 0 → (Y.1 q).2.1 ≠ 0 → A q ∧ ∃ x : va_E, va_at D vwCl (q, x) H1 ∧ jv_e ca Y q (Y.1 q) x) : jv D ca A Y H1 := by
  intro q hq
  by_cases e : (X.1 q).2.1 = 0
  · exact hn q e hq
  · obtain ⟨h1, x, h2, h3⟩ := h q e
    refine ⟨h1, x, h2.kept (oq q e), ?_⟩
    rw [(hle.1 q e).1]
    exact jv_e_le hle rfl e h3
/-- a cell that isn't there has no kind -/
theorem jv_out {D : va_G} {ca : Nat → ClassId} {A : Nat → Prop} {X : jG} {H : Heap} (h : jv D ca A X H) {q : Nat} (hq : H.size ≤ q) : (X.1 q).2.1 = 0 := by
  by_cases e : (X.1 q).2.1 = 0
  · exact e
  · obtain ⟨h1, x, h2, h3⟩ := h q e
    have := h2.lt
    omega
theorem jv_lt {D : va_G} {ca : Nat → ClassId} {A : Nat → Prop} {X : jG} {H : Heap} (h : jv D ca A X H) {q : Nat} (hq : (X.1 q).2.1 ≠ 0) : q < H.size := by
  obtain ⟨h1, x, h2, h3⟩ := h q hq
  exact h2.lt
theorem jv_A2 {D : va_G} {ca : Nat → ClassId} {A B : Nat → Prop} {X : jG} {H : Heap} (h : jv D ca A X H) (hB : ∀ q : Nat, (X.1 q).2.1 ≠ 0 → B q) : jv D ca B X H := fun q hq => ⟨hB q hq, (h q hq).2⟩
theorem jv_keep {D : va_G} {ca : Nat → ClassId} {A : Nat → Prop} {X : jG} {H H1 : Heap} (h : jv D ca A X H) (oq : ∀ q : Nat, (X.1 q).2.1 ≠ 0 → H1[q]? = H[q]?) : jv D ca A X H1 := fun q hq => by
  obtain ⟨h1, x, h2, h3⟩ := h q hq
  exact ⟨h1, x, h2.kept (oq q hq), h3⟩
/-- one more cell of a kind -/
def jset (X : jG) (x : Nat) (t : kTy) (n : Nat) : jG := (fun q => if q = x then t else X.1 q, fun q => if q = x then n else X.2.1 q, X.2.2)
theorem jset_self (X : jG) (x : Nat) (t : kTy) (n : Nat) : (jset X x t n).1 x = t := if_pos rfl
theorem jset_n (X : jG) (x : Nat) (t : kTy) (n : Nat) : (jset X x t n).2.1 x = n := if_pos rfl
theorem jset_ne (X : jG) {x q : Nat} (t : kTy) (n : Nat) (h : q ≠ x) : (jset X x t n).1 q = X.1 q := if_neg h
theorem jset_ne2 (X : jG) {x q : Nat} (t : kTy) (n : Nat) (h : q ≠ x) : (jset X x t n).2.1 q = X.2.1 q := if_neg h
theorem jset_le {X : jG} {x : Nat} (t : kTy) (n : Nat) (h0 : (X.1 x).2.1 = 0) : jle X (jset X x t n) := ⟨fun q hq => by
  have hne : q ≠ x := fun e => hq (by rw [e]; exact h0)
  exact ⟨jset_ne X t n hne, jset_ne2 X t n hne⟩, rfl⟩
theorem jset_no {X : jG} {x : Nat} {t t2 : kTy} (n : Nat) (h : ∀ q : Nat, X.1 q ≠ t2) (hne : t ≠ t2) : ∀ q : Nat, (jset X x t n).1 q ≠ t2 := fun q => by
  by_cases e : q = x
  · rw [e, jset_self]
    exact hne
  · rw [jset_ne X t n e]
    exact h q
theorem jset_U {X : jG} {x : Nat} {t : kTy} (n : Nat) (hU : jU X) (h0 : (X.1 x).2.1 = 0) (h : uq t.1 = true → ∀ q : Nat, X.1 q ≠ t) : jU (jset X x t n) := by
  intro a b e ht hu
  by_cases e1 : a = x
  · by_cases e2 : b = x
    · rw [e1, e2]
    · rw [e1, jset_self] at hu e
      rw [jset_ne X t n e2] at e
      exact absurd e.symm (h hu b)
  · rw [jset_ne X t n e1] at e ht hu
    by_cases e2 : b = x
    · rw [e2, jset_self] at e
      rw [e] at hu
      exact absurd e (h hu a)
    · rw [jset_ne X t n e2] at e
      exact hU a b e ht hu
theorem jv_new1 {D : va_G} {ca : Nat → ClassId} {A : Nat → Prop} {X : jG} {H H1 : Heap} {x : Nat} {t : kTy} {n : Nat} {v : va_E} (h : jv D ca A X H) (h0 : (X.1 x).2.1 = 0) (hA : A x) (oq : ∀ q : Nat, (X.1 q).2.1 ≠ 0 → H1[q]? = H[q]?) (hc : va_at D vwCl (x, v) H1) (hv : jv_e ca (jset X x t n) x t v) : jv D ca A (jset X x t n) H1 := by
  refine jv_grow h (jset_le t n h0) oq (fun q e1 e2 => ?_)
  by_cases e : q = x
  · subst e
    exact ⟨hA, v, hc, by rw [jset_self]; exact hv⟩
  · rw [jset_ne X t n e] at e2
    exact absurd e1 e2
section ZE
variable {ca : Nat → ClassId} {X : jG} {a cd n : Nat} {lo hi : Int}
theorem jz_e20 (h : lo ≤ 0 ∧ 0 ≤ hi) : jv_e ca X a (cd, 20, n, lo, hi) (.inl (ca 20, n, .inl (fun _ => 0))) :=
  jv_e2 (by decide) (Or.inl (by decide)) (iv_e20 (fun z hz => by
    have e : ge1 (fun _ => (0 : Int32)) z = 0 := by
      show (0 : Int32).toInt = 0
      decide
    rw [e]
    exact ⟨h.1, h.2, fun q => absurd (show z < (0 : Nat) from q) (by omega)⟩))
theorem jz_e21 {f : Nat → Int32} (h : cd ≠ 200) : jv_e ca X a (cd, 21, n, lo, hi) (.inl (ca 21, n, .inl f)) := jv_e2 (by decide) (Or.inr h) iv_e21
theorem jz_e200 : jv_e ca X a (200, 21, n, lo, hi) (.inl (ca 21, n, .inl (fun _ => 0))) := jv_e200 (fun _ _ => by decide)
theorem jz_e22 {f : Nat → Int32} : jv_e ca X a (cd, 22, n, lo, hi) (.inl (ca 22, n, .inl f)) := jv_e2 (by decide) (Or.inl (by decide)) iv_e22
theorem jz_e23 {f : Nat → Int64} : jv_e ca X a (cd, 23, n, lo, hi) (.inl (ca 23, n, .inr (.inl f))) := jv_e2 (by decide) (Or.inl (by decide)) iv_e23
theorem jq_e24 {f : Nat → Option Nat} (h : ∀ j : Nat, j < n → (∀ b : Nat, f j = some b → X.1 b = (2, 30, 0, 0, 0)) ∧ (j < X.2.1 a → f j ≠ none)) : jv_e ca X a (cd, 24, n, lo, hi) (je_q ca n 24 f) :=
  ⟨⟨fun q => absurd q (show ¬ (24 : Nat) = 20 by decide), fun q => absurd q (show ¬ (24 : Nat) = 21 by decide), fun q => absurd q (show ¬ (24 : Nat) = 22 by decide), fun q => absurd q (show ¬ (24 : Nat) = 23 by decide)⟩, fun _ => ⟨f, rfl, h⟩, fun q => absurd q (show ¬ (24 : Nat) = 25 by decide), fun q => absurd q (show ¬ (24 : Nat) = 29 by decide), fun q => absurd q (show ¬ (24 : Nat) = 26 by decide), fun q => absurd q (show ¬ (24 : Nat) = 27 by decide), fun q => absurd q (show ¬ (24 : Nat) = 28 by decide), fun q => absurd q (show ¬ (24 : Nat) = 30 by decide), fun _ q => absurd q (show ¬ (24 : Nat) = 21 by decide)⟩
theorem jq_e25 {f : Nat → Option Nat} (h : ∀ j : Nat, j < n → ∀ b : Nat, f j = some b → ∃ i : Nat, X.1 b = (7, 30, i, 0, 0)) : jv_e ca X a (cd, 25, n, lo, hi) (je_q ca n 25 f) :=
  ⟨⟨fun q => absurd q (show ¬ (25 : Nat) = 20 by decide), fun q => absurd q (show ¬ (25 : Nat) = 21 by decide), fun q => absurd q (show ¬ (25 : Nat) = 22 by decide), fun q => absurd q (show ¬ (25 : Nat) = 23 by decide)⟩, fun q => absurd q (show ¬ (25 : Nat) = 24 by decide), fun _ => ⟨f, rfl, h⟩, fun q => absurd q (show ¬ (25 : Nat) = 29 by decide), fun q => absurd q (show ¬ (25 : Nat) = 26 by decide), fun q => absurd q (show ¬ (25 : Nat) = 27 by decide), fun q => absurd q (show ¬ (25 : Nat) = 28 by decide), fun q => absurd q (show ¬ (25 : Nat) = 30 by decide), fun _ q => absurd q (show ¬ (25 : Nat) = 21 by decide)⟩
theorem jq_e29 {f : Nat → Option Nat} (h : ∀ j : Nat, j < n → (∀ b : Nat, f j = some b → X.1 b = (7, 30, j, 0, 0)) ∧ (j < X.2.1 a → f j ≠ none)) : jv_e ca X a (cd, 29, n, lo, hi) (je_q ca n 25 f) :=
  ⟨⟨fun q => absurd q (show ¬ (29 : Nat) = 20 by decide), fun q => absurd q (show ¬ (29 : Nat) = 21 by decide), fun q => absurd q (show ¬ (29 : Nat) = 22 by decide), fun q => absurd q (show ¬ (29 : Nat) = 23 by decide)⟩, fun q => absurd q (show ¬ (29 : Nat) = 24 by decide), fun q => absurd q (show ¬ (29 : Nat) = 25 by decide), fun _ => ⟨f, rfl, h⟩, fun q => absurd q (show ¬ (29 : Nat) = 26 by decide), fun q => absurd q (show ¬ (29 : Nat) = 27 by decide), fun q => absurd q (show ¬ (29 : Nat) = 28 by decide), fun q => absurd q (show ¬ (29 : Nat) = 30 by decide), fun _ q => absurd q (show ¬ (29 : Nat) = 21 by decide)⟩
theorem jq_e26 {f : Nat → Option Nat} (h : ∀ j : Nat, j < n → ∃ b : Nat, f j = some b ∧ X.1 b = (5, 30, 8 * lo.toNat + j, 0, 0)) : jv_e ca X a (cd, 26, n, lo, hi) (je_q ca n 26 f) :=
  ⟨⟨fun q => absurd q (show ¬ (26 : Nat) = 20 by decide), fun q => absurd q (show ¬ (26 : Nat) = 21 by decide), fun q => absurd q (show ¬ (26 : Nat) = 22 by decide), fun q => absurd q (show ¬ (26 : Nat) = 23 by decide)⟩, fun q => absurd q (show ¬ (26 : Nat) = 24 by decide), fun q => absurd q (show ¬ (26 : Nat) = 25 by decide), fun q => absurd q (show ¬ (26 : Nat) = 29 by decide), fun _ => ⟨f, rfl, h⟩, fun q => absurd q (show ¬ (26 : Nat) = 27 by decide), fun q => absurd q (show ¬ (26 : Nat) = 28 by decide), fun q => absurd q (show ¬ (26 : Nat) = 30 by decide), fun _ q => absurd q (show ¬ (26 : Nat) = 21 by decide)⟩
theorem jq_e27 {f : Nat → Option Nat} (h : ∀ j : Nat, j < n → ∃ b : Nat, f j = some b ∧ X.1 b = (lo.toNat, 20, hi.toNat, -2147483648, 2147483647)) : jv_e ca X a (cd, 27, n, lo, hi) (je_q ca n 27 f) :=
  ⟨⟨fun q => absurd q (show ¬ (27 : Nat) = 20 by decide), fun q => absurd q (show ¬ (27 : Nat) = 21 by decide), fun q => absurd q (show ¬ (27 : Nat) = 22 by decide), fun q => absurd q (show ¬ (27 : Nat) = 23 by decide)⟩, fun q => absurd q (show ¬ (27 : Nat) = 24 by decide), fun q => absurd q (show ¬ (27 : Nat) = 25 by decide), fun q => absurd q (show ¬ (27 : Nat) = 29 by decide), fun q => absurd q (show ¬ (27 : Nat) = 26 by decide), fun _ => ⟨f, rfl, h⟩, fun q => absurd q (show ¬ (27 : Nat) = 28 by decide), fun q => absurd q (show ¬ (27 : Nat) = 30 by decide), fun _ q => absurd q (show ¬ (27 : Nat) = 21 by decide)⟩
theorem jq_e28 {f : Nat → Option Nat} (h : ∀ j : Nat, j < n → ∃ b : Nat, f j = some b ∧ X.1 b = (lo.toNat, 23, hi.toNat, 0, 0)) : jv_e ca X a (cd, 28, n, lo, hi) (je_q ca n 28 f) :=
  ⟨⟨fun q => absurd q (show ¬ (28 : Nat) = 20 by decide), fun q => absurd q (show ¬ (28 : Nat) = 21 by decide), fun q => absurd q (show ¬ (28 : Nat) = 22 by decide), fun q => absurd q (show ¬ (28 : Nat) = 23 by decide)⟩, fun q => absurd q (show ¬ (28 : Nat) = 24 by decide), fun q => absurd q (show ¬ (28 : Nat) = 25 by decide), fun q => absurd q (show ¬ (28 : Nat) = 29 by decide), fun q => absurd q (show ¬ (28 : Nat) = 26 by decide), fun q => absurd q (show ¬ (28 : Nat) = 27 by decide), fun _ => ⟨f, rfl, h⟩, fun q => absurd q (show ¬ (28 : Nat) = 30 by decide), fun _ q => absurd q (show ¬ (28 : Nat) = 21 by decide)⟩
end ZE
/-- an array of arrays and its rows -/
def jmul (X : jG) (x N : Nat) (t tr : kTy) : jG := (fun q => if q = x then t else if x < q ∧ q < x + 1 + N then tr else X.1 q, X.2)
theorem jmul_self (X : jG) (x N : Nat) (t tr : kTy) : (jmul X x N t tr).1 x = t := if_pos rfl
theorem jmul_row (X : jG) {x N q : Nat} (t tr : kTy) (h : x < q ∧ q < x + 1 + N) : (jmul X x N t tr).1 q = tr := by
  show (if q = x then t else if x < q ∧ q < x + 1 + N then tr else X.1 q) = tr
  rw [if_neg (by omega), if_pos h]
theorem jmul_ne (X : jG) {x N q : Nat} (t tr : kTy) (h : q < x ∨ x + 1 + N ≤ q) : (jmul X x N t tr).1 q = X.1 q := by
  show (if q = x then t else if x < q ∧ q < x + 1 + N then tr else X.1 q) = X.1 q
  rw [if_neg (by omega), if_neg (by omega)]
theorem jmul_le {X : jG} {x N : Nat} (t tr : kTy) (h0 : ∀ q : Nat, x ≤ q → (X.1 q).2.1 = 0) : jle X (jmul X x N t tr) := ⟨fun q hq => by
  have hlt : q < x := by
    rcases Nat.lt_or_ge q x with h | h
    · exact h
    · exact absurd (h0 q h) hq
  exact ⟨jmul_ne X t tr (Or.inl hlt), rfl⟩, rfl⟩
theorem jmul_no {X : jG} {x N : Nat} {t tr t2 : kTy} (h : ∀ q : Nat, X.1 q ≠ t2) (hne : t ≠ t2) (hnr : tr ≠ t2) : ∀ q : Nat, (jmul X x N t tr).1 q ≠ t2 := fun q => by
  by_cases e : q = x
  · rw [e, jmul_self]
    exact hne
  · by_cases e2 : x < q ∧ q < x + 1 + N
    · rw [jmul_row X t tr e2]
      exact hnr
    · rw [jmul_ne X t tr (by omega)]
      exact h q
theorem jmul_U {X : jG} {x N : Nat} {t tr : kTy} (hU : jU X) (h : uq t.1 = true → ∀ q : Nat, X.1 q ≠ t) (hr : uq tr.1 = false) : jU (jmul X x N t tr) := by
  have nr : ∀ q : Nat, uq ((jmul X x N t tr).1 q).1 = true → ¬ (x < q ∧ q < x + 1 + N) := fun q hq e => by
    rw [jmul_row X t tr e, hr] at hq
    cases hq
  intro a b e ht hu
  have na := nr a hu
  have nb := nr b (by rw [← e]; exact hu)
  by_cases e1 : a = x
  · by_cases e2 : b = x
    · rw [e1, e2]
    · rw [e1, jmul_self] at hu e
      rw [jmul_ne X t tr (by omega)] at e
      exact absurd e.symm (h hu b)
  · rw [jmul_ne X t tr (by omega)] at e ht hu
    by_cases e2 : b = x
    · rw [e2, jmul_self] at e
      rw [e] at hu
      exact absurd e (h hu a)
    · rw [jmul_ne X t tr (by omega)] at e
      exact hU a b e ht hu
theorem jv_mul {D : va_G} {ca : Nat → ClassId} {A : Nat → Prop} {X : jG} {H H1 : Heap} {x N : Nat} {t tr : kTy} {v r : va_E} (h : jv D ca A X H) (hx : H.size ≤ x) (hA : ∀ q : Nat, x ≤ q → A q) (oq : ∀ q : Nat, (X.1 q).2.1 ≠ 0 → H1[q]? = H[q]?) (hc : va_at D vwCl (x, v) H1) (hr : ∀ j : Nat, j < N → va_at D vwCl (x + 1 + j, r) H1) (hv : jv_e ca (jmul X x N t tr) x t v) (hv2 : ∀ q : Nat, jv_e ca (jmul X x N t tr) q tr r) : jv D ca A (jmul X x N t tr) H1 := by
  refine jv_grow h (jmul_le t tr (fun q hq => jv_out h (by omega))) oq (fun q e1 e2 => ?_)
  by_cases e : q = x
  · subst e
    exact ⟨hA _ (Nat.le_refl _), v, hc, by rw [jmul_self]; exact hv⟩
  · by_cases e3 : x < q ∧ q < x + 1 + N
    · have h9 := hr (q - x - 1) (by omega)
      rw [show x + 1 + (q - x - 1) = q by omega] at h9
      exact ⟨hA q (by omega), r, h9, by rw [jmul_row X t tr e3]; exact hv2 q⟩
    · rw [jmul_ne X t tr (by omega)] at e2
      exact absurd e1 e2
