/-! one rule more -/
def jrr (X Y : jG) (ar : Nat) : Prop := (∀ (q : Nat) (t : kTy), X.1 q = t → t.2.1 ≠ 0 → Y.1 q = t) ∧ (∀ q : Nat, q ≠ ar → Y.2.1 q = X.2.1 q) ∧ (∀ i : Nat, i < X.2.2.2 → Y.2.2.1 i = X.2.2.1 i ∧ Y.2.2.1 (100 + i) = X.2.2.1 (100 + i)) ∧ (∀ (v : Int) (n : Nat), jb X v n → jb Y v n) ∧ Y.2.2.2 = X.2.2.2 + 1
def jru (X : jG) (x ar : Nat) (b d : Int) : jG := (fun q => if q = x then (7, 30, X.2.2.2, 0, 0) else X.1 q, fun q => if q = ar then X.2.2.2 + 1 else X.2.1 q, fun i => if i = X.2.2.2 then b else if i = 100 + X.2.2.2 then d else X.2.2.1 i, X.2.2.2 + 1)
theorem jru_rr {X : jG} {x ar : Nat} (b d : Int) (h0 : (X.1 x).2.1 = 0) (hr : X.2.2.2 < 24) : jrr X (jru X x ar b d) ar := by
  have e1 : ∀ i : Nat, i < X.2.2.2 → (jru X x ar b d).2.2.1 i = X.2.2.1 i := fun i hi => by
    show (if i = X.2.2.2 then b else if i = 100 + X.2.2.2 then d else X.2.2.1 i) = _
    rw [if_neg (by omega), if_neg (by omega)]
  refine ⟨fun q t hg ht => ?_, fun q hq => if_neg hq, fun i hi => ⟨e1 i hi, ?_⟩, fun v n hb => ⟨fun i hi h9 => hb.1 i hi (Nat.le_trans (Nat.le_succ _) h9), fun j hj h9 => ?_⟩, rfl⟩
  · show (if q = x then _ else X.1 q) = t
    rw [if_neg (fun e => ht (by rw [← hg, e]; exact h0))]
    exact hg
  · show (if 100 + i = X.2.2.2 then b else if 100 + i = 100 + X.2.2.2 then d else X.2.2.1 (100 + i)) = _
    rw [if_neg (by omega), if_neg (by omega)]
  · have hj : j < X.2.2.2 + 1 := hj
    by_cases e : j = X.2.2.2
    · rw [hb.1 j (by omega) (by omega)] at h9
      cases h9
    · rw [e1 j (by omega)]
      exact hb.2 j (by omega) h9
theorem jo0_ru {X Y : jG} {ar : Nat} (h : jrr X Y ar) (har : X.1 ar = (213, 29, 24, 7, 0)) {id : Nat} {fs : List Value} (h0 : jo0 X id fs) : jo0 Y id fs := by
  obtain ⟨forms, rules, size, e, g_forms, g_rules, i_size, x0⟩ := h0
  exact ⟨forms, rules, size, e, h.1 _ _ g_forms (show (24 : Nat) ≠ 0 by decide), h.1 _ _ g_rules (show (25 : Nat) ≠ 0 by decide), i_size, by rw [h.2.1 forms (kn_ne g_forms har (show (210 : Nat) ≠ 213 by decide))]; exact x0⟩
theorem jo1_ru {X Y : jG} {ar : Nat} (h : jrr X Y ar) (har : X.1 ar = (213, 29, 24, 7, 0)) {id : Nat} {fs : List Value} (h0 : jo1 X id fs) : jo1 Y id fs := by
  obtain ⟨uses, size, cb, ub, fb, oldest, e, g_uses, i_size, g_cb, g_ub, g_fb, i_oldest⟩ := h0
  exact ⟨uses, size, cb, ub, fb, oldest, e, h.1 _ _ g_uses (show (20 : Nat) ≠ 0 by decide), i_size, h.1 _ _ g_cb (show (27 : Nat) ≠ 0 by decide), h.1 _ _ g_ub (show (27 : Nat) ≠ 0 by decide), h.1 _ _ g_fb (show (20 : Nat) ≠ 0 by decide), i_oldest⟩
theorem jo2_ru {X Y : jG} {ar : Nat} (h : jrr X Y ar) (har : X.1 ar = (213, 29, 24, 7, 0)) {id : Nat} {fs : List Value} (hid : id ≠ ar) (h0 : jo2 X id fs) : jo2 Y id fs := by
  obtain ⟨ln, letters, kind, stem, kept, cost, number, ends, begins, e, g_letters, i_kind, i_stem, i_kept, i_cost, i_number, i_ends, i_begins, x0, x1, x2, x3⟩ := h0
  exact ⟨ln, letters, kind, stem, kept, cost, number, ends, begins, e, h.1 _ _ g_letters (show (21 : Nat) ≠ 0 by decide), i_kind, i_stem, i_kept, i_cost, i_number, i_ends, i_begins, x0, x1, h.2.2.2.1 _ _ x2, by rw [h.2.1 id hid]; exact x3⟩
theorem jo3_ru {X Y : jG} {ar : Nat} (h : jrr X Y ar) (har : X.1 ar = (213, 29, 24, 7, 0)) {id : Nat} {fs : List Value} (h0 : jo3 X id fs) : jo3 Y id fs := by
  obtain ⟨cheapest, size, tongue, line, ways, plainWays, plainCheapest, ruledWays, ruledCheapest, inForce, barred, e, g_cheapest, i_size, g_tongue, g_line, g_ways, g_plainWays, g_plainCheapest, g_ruledWays, g_ruledCheapest, i_inForce, g_barred⟩ := h0
  exact ⟨cheapest, size, tongue, line, ways, plainWays, plainCheapest, ruledWays, ruledCheapest, inForce, barred, e, h.1 _ _ g_cheapest (show (27 : Nat) ≠ 0 by decide), i_size, h.1 _ _ g_tongue (show (30 : Nat) ≠ 0 by decide), h.1 _ _ g_line (show (21 : Nat) ≠ 0 by decide), h.1 _ _ g_ways (show (23 : Nat) ≠ 0 by decide), h.1 _ _ g_plainWays (show (28 : Nat) ≠ 0 by decide), h.1 _ _ g_plainCheapest (show (27 : Nat) ≠ 0 by decide), h.1 _ _ g_ruledWays (show (28 : Nat) ≠ 0 by decide), h.1 _ _ g_ruledCheapest (show (27 : Nat) ≠ 0 by decide), i_inForce, h.1 _ _ g_barred (show (22 : Nat) ≠ 0 by decide)⟩
theorem jo4_ru {X Y : jG} {ar : Nat} (h : jrr X Y ar) (har : X.1 ar = (213, 29, 24, 7, 0)) {id : Nat} {fs : List Value} (h0 : jo4 X id fs) : jo4 Y id fs := by
  obtain ⟨pp, countedUncut, counted, left, told, toldCount, grown, keys, keyCount, tongue, lattice, e, i_left, g_told, i_toldCount, g_grown, g_keys, i_keyCount, g_tongue, g_lattice, x0, x1⟩ := h0
  exact ⟨pp, countedUncut, counted, left, told, toldCount, grown, keys, keyCount, tongue, lattice, e, i_left, h.1 _ _ g_told (show (26 : Nat) ≠ 0 by decide), i_toldCount, h.1 _ _ g_grown (show (26 : Nat) ≠ 0 by decide), h.1 _ _ g_keys (show (20 : Nat) ≠ 0 by decide), i_keyCount, h.1 _ _ g_tongue (show (30 : Nat) ≠ 0 by decide), h.1 _ _ g_lattice (show (30 : Nat) ≠ 0 by decide), x0, x1⟩
theorem jo5_ru {X Y : jG} {ar : Nat} (h : jrr X Y ar) (har : X.1 ar = (213, 29, 24, 7, 0)) {id : Nat} {fs : List Value} (h0 : jo5 X id fs) : jo5 Y id fs := by
  obtain ⟨chain, cost, spent, place, ended, rank, e, g_chain, i_cost, i_spent, i_place, i_ended, i_rank⟩ := h0
  exact ⟨chain, cost, spent, place, ended, rank, e, h.1 _ _ g_chain (show (30 : Nat) ≠ 0 by decide), i_cost, i_spent, i_place, i_ended, i_rank⟩
theorem jo6_ru {X Y : jG} {ar : Nat} (h : jrr X Y ar) (har : X.1 ar = (213, 29, 24, 7, 0)) {id : Nat} {fs : List Value} (h0 : jo6 X id fs) : jo6 Y id fs := by
  obtain ⟨chain, out, day, outSize, e, g_chain, g_out, i_day, i_outSize⟩ := h0
  exact ⟨chain, out, day, outSize, e, h.1 _ _ g_chain (show (30 : Nat) ≠ 0 by decide), h.1 _ _ g_out (show (21 : Nat) ≠ 0 by decide), i_day, i_outSize⟩
theorem jo7_ru {X Y : jG} {ar : Nat} (h : jrr X Y ar) (har : X.1 ar = (213, 29, 24, 7, 0)) {id : Nat} {fs : List Value} (h0 : jo7 X id fs) : jo7 Y id fs := by
  obtain ⟨ln, letters, endSize, beginningSize, comesFrom, comesSize, cost, firstDay, lastDay, number, e, g_letters, i_endSize, i_beginningSize, i_comesFrom, i_comesSize, i_cost, i_firstDay, i_lastDay, i_number, x0, x1, x2, x3, x4, x5⟩ := h0
  exact ⟨ln, letters, endSize, beginningSize, comesFrom, comesSize, cost, firstDay, lastDay, number, e, h.1 _ _ g_letters (show (21 : Nat) ≠ 0 by decide), i_endSize, i_beginningSize, i_comesFrom, i_comesSize, i_cost, i_firstDay, i_lastDay, i_number, x0, x1, by rw [h.2.2.2.2]; omega, by rw [(h.2.2.1 id (by omega)).1]; exact x3, x4, by rw [(h.2.2.1 id (by omega)).2]; exact x5⟩
theorem jo8_ru {X Y : jG} {ar : Nat} (h : jrr X Y ar) (har : X.1 ar = (213, 29, 24, 7, 0)) {id : Nat} {fs : List Value} (h0 : jo8 X id fs) : jo8 Y id fs := by
  obtain ⟨bytes, size, e, g_bytes, i_size⟩ := h0
  exact ⟨bytes, size, e, h.1 _ _ g_bytes (show (21 : Nat) ≠ 0 by decide), i_size⟩
theorem jo10_ru {X Y : jG} {ar : Nat} (h : jrr X Y ar) (har : X.1 ar = (213, 29, 24, 7, 0)) {id : Nat} {fs : List Value} (h0 : jo10 X id fs) : jo10 Y id fs := by
  obtain ⟨kinds, ways, e, g_kinds, q_ways⟩ := h0
  exact ⟨kinds, ways, e, h.1 _ _ g_kinds (show (20 : Nat) ≠ 0 by decide), fun b9 q9 => h.1 _ _ (q_ways b9 q9) (show (28 : Nat) ≠ 0 by decide)⟩
theorem jo_ru {X Y : jG} {ar : Nat} (hr : jrr X Y ar) (har : X.1 ar = (213, 29, 24, 7, 0)) {ci id : Nat} {fs : List Value} (hid : ci = 2 → id ≠ ar) (h9 : ci ≠ 9) (h : jo X ci id fs) : jo Y ci id fs := by
  obtain ⟨h0, h1, h2, h3, h4, h5, h6, h7, h8, -, h10⟩ := h
  exact ⟨fun q => jo0_ru hr har (h0 q), fun q => jo1_ru hr har (h1 q), fun q => jo2_ru hr har (hid q) (h2 q), fun q => jo3_ru hr har (h3 q), fun q => jo4_ru hr har (h4 q), fun q => jo5_ru hr har (h5 q), fun q => jo6_ru hr har (h6 q), fun q => jo7_ru hr har (h7 q), fun q => jo8_ru hr har (h8 q), fun q => absurd q h9, fun q => jo10_ru hr har (h10 q)⟩
theorem jv_e_ru {ca : Nat → ClassId} {X Y : jG} {ar : Nat} (hr : jrr X Y ar) (har : X.1 ar = (213, 29, 24, 7, 0)) {a : Nat} {x : va_E} {t : kTy} (hne : a ≠ ar) (h9 : t.1 ≠ 9) (h : jv_e ca X a t x) : jv_e ca Y a t x := by
  obtain ⟨h1, h2, h3, h4, h5, h6, h7, h8, hb⟩ := h
  refine ⟨h1, fun q => ?_, fun q => ?_, fun q => ?_, fun q => ?_, fun q => ?_, fun q => ?_, fun q => ?_, hb⟩
  · obtain ⟨f, e, k⟩ := h2 q
    exact ⟨f, e, fun j hj => ⟨fun b hb => hr.1 _ _ ((k j hj).1 b hb) (show (30 : Nat) ≠ 0 by decide), fun hl => (k j hj).2 (by rw [hr.2.1 a hne] at hl; exact hl)⟩⟩
  · obtain ⟨f, e, k⟩ := h3 q
    refine ⟨f, e, fun j hj b hb => ?_⟩
    obtain ⟨i, hi⟩ := k j hj b hb
    exact ⟨i, hr.1 _ _ hi (show (30 : Nat) ≠ 0 by decide)⟩
  · obtain ⟨f, e, k⟩ := h4 q
    exact ⟨f, e, fun j hj => ⟨fun b hb => hr.1 _ _ ((k j hj).1 b hb) (show (30 : Nat) ≠ 0 by decide), fun hl => (k j hj).2 (by rw [hr.2.1 a hne] at hl; exact hl)⟩⟩
  · obtain ⟨f, e, k⟩ := h5 q
    refine ⟨f, e, fun j hj => ?_⟩
    obtain ⟨b, hb, hi⟩ := k j hj
    exact ⟨b, hb, hr.1 _ _ hi (show (30 : Nat) ≠ 0 by decide)⟩
  · obtain ⟨f, e, k⟩ := h6 q
    refine ⟨f, e, fun j hj => ?_⟩
    obtain ⟨b, hb, hi⟩ := k j hj
    exact ⟨b, hb, hr.1 _ _ hi (show (20 : Nat) ≠ 0 by decide)⟩
  · obtain ⟨f, e, k⟩ := h7 q
    refine ⟨f, e, fun j hj => ?_⟩
    obtain ⟨b, hb, hi⟩ := k j hj
    exact ⟨b, hb, hr.1 _ _ hi (show (23 : Nat) ≠ 0 by decide)⟩
  · obtain ⟨fs, e, k⟩ := h8 q
    refine ⟨fs, e, jo_ru hr har (fun e2 => ?_) h9 k⟩
    unfold jid
    rw [if_pos e2]
    exact hne
theorem jv_rule {D : va_G} {ca : Nat → ClassId} {A : Nat → Prop} {X : jG} {H H1 : Heap} {x tg ar lt ln fo fb : Nat} {e b cs co fd ld fc rc : Int} {f : Nat → Option Nat} (h : jv D ca A X H) (h9 : ∀ q : Nat, (X.1 q).2.1 ≠ 0 → (X.1 q).1 = 9 → q = tg) (h0 : (X.1 x).2.1 = 0) (hA : A x) (hr : X.2.2.2 < 24) (g_tg : X.1 tg = (9, 30, 0, 0, 0)) (g_ar : X.1 ar = (213, 29, 24, 7, 0)) (g_lt : X.1 lt = (202, 21, ln, 0, 0)) (g_fo : X.1 fo = (212, 24, 40, 2, 0)) (g_fb : X.1 fb = (214, 22, 36, 0, 0))
    (hfc : 0 ≤ fc ∧ fc ≤ 40) (hfc2 : fc ≤ (X.2.1 fo : Int)) (hrc : rc = (X.2.2.2 : Int)) (hrc2 : rc ≤ (X.2.1 ar : Int)) (he : 0 ≤ e ∧ e ≤ 3) (hb : 0 ≤ b ∧ b ≤ 3) (hcs : 0 ≤ cs ∧ cs ≤ 4) (hln : (ln : Int) = e + b + cs) (hco : -2147483648 ≤ co ∧ co ≤ 2147483647) (hfd : -2147483648 ≤ fd ∧ fd ≤ 2147483647) (hld : -2147483648 ≤ ld ∧ ld ≤ 2147483647)
    (kf : ∀ j : Nat, j < 24 → (∀ b : Nat, f j = some b → X.1 b = (7, 30, j, 0, 0)) ∧ (j < X.2.1 ar → f j ≠ none)) (c_ar : va_at D vwCl (ar, je_q ca 24 25 (va_up f rc.toNat (some x))) H1) (c_tg : va_at D vwCl (tg, .inr (9, [.ref fo, .ref ar, .int (kz fc), .int (kz (rc + 1)), .ref fb])) H1) (c_x : va_at D vwCl (x, .inr (7, [.ref lt, .int (kz e), .int (kz b), .int (kz (e + b)), .int (kz cs), .int (kz co), .int (kz fd), .int (kz ld), .int (kz rc)])) H1)
    (oq : ∀ q : Nat, (X.1 q).2.1 ≠ 0 → q ≠ tg → q ≠ ar → H1[q]? = H[q]?) : jv D ca A (jru X x ar b (cs - e)) H1 := by
  have hrr := jru_rr (ar := ar) b (cs - e) h0 hr
  have xar : x ≠ ar := fun e9 => by
    rw [e9, g_ar] at h0
    cases h0
  have xtg : x ≠ tg := fun e9 => by
    rw [e9, g_tg] at h0
    cases h0
  have tar : tg ≠ ar := kn_ne g_tg g_ar (show (9 : Nat) ≠ 213 by decide)
  have hz : rc.toNat = X.2.2.2 := by omega
  have ex : (jru X x ar b (cs - e)).1 x = (7, 30, X.2.2.2, 0, 0) := if_pos rfl
  have ea : (jru X x ar b (cs - e)).2.1 ar = X.2.2.2 + 1 := if_pos rfl
  intro q hq
  by_cases e1 : q = x
  · subst e1
    refine ⟨hA, _, c_x, ?_⟩
    rw [ex]
    refine jv_c7 ⟨ln, lt, e, b, e + b, cs, co, fd, ld, rc, rfl, hrr.1 _ _ g_lt (show (21 : Nat) ≠ 0 by decide), he, hb, ⟨by omega, by omega⟩, hcs, hco, hfd, hld, ⟨by omega, by omega⟩, rfl, hln, Nat.lt_succ_self _, ?_, hrc, ?_⟩
    · exact if_pos rfl
    · show (if 100 + X.2.2.2 = X.2.2.2 then b else if 100 + X.2.2.2 = 100 + X.2.2.2 then cs - e else _) = _
      rw [if_neg (by omega), if_pos rfl]
  · by_cases e2 : q = tg
    · subst e2
      refine ⟨(h q (by rw [g_tg]; exact (by decide : (30 : Nat) ≠ 0))).1, _, c_tg, ?_⟩
      rw [hrr.1 _ _ g_tg (show (30 : Nat) ≠ 0 by decide)]
      refine jv_c9 ⟨fo, ar, fc, rc + 1, fb, rfl, hrr.1 _ _ g_fo (show (24 : Nat) ≠ 0 by decide), hrr.1 _ _ g_ar (show (29 : Nat) ≠ 0 by decide), hfc, ⟨by omega, by omega⟩, hrr.1 _ _ g_fb (show (22 : Nat) ≠ 0 by decide), ?_, ?_, ?_⟩
      · rw [hrr.2.1 fo (kn_ne g_fo g_ar (show (212 : Nat) ≠ 213 by decide))]
        exact hfc2
      · rw [ea]
        omega
      · rw [hrr.2.2.2.2]
        omega
    · by_cases e3 : q = ar
      · subst e3
        refine ⟨(h q (by rw [g_ar]; exact (by decide : (29 : Nat) ≠ 0))).1, _, c_ar, ?_⟩
        rw [hrr.1 _ _ g_ar (show (29 : Nat) ≠ 0 by decide)]
        refine jq_e29 (fun j hj => ?_)
        rw [ea]
        unfold va_up
        by_cases e4 : j = rc.toNat
        · rw [if_pos e4]
          refine ⟨fun b9 hb9 => ?_, fun _ => by simp⟩
          cases hb9
          rw [ex, e4, hz]
        · rw [if_neg e4]
          exact ⟨fun b9 hb9 => hrr.1 _ _ ((kf j hj).1 b9 hb9) (show (30 : Nat) ≠ 0 by decide), fun hl => (kf j hj).2 (by omega)⟩
      · have eq : (jru X x ar b (cs - e)).1 q = X.1 q := if_neg e1
        rw [eq] at hq
        obtain ⟨h1, y, h2, h3⟩ := h q hq
        refine ⟨h1, y, h2.kept (oq q hq e2 e3), ?_⟩
        rw [eq]
        by_cases e4 : (X.1 q).1 = 9
        · exact absurd (h9 q hq e4) e2
        · exact jv_e_ru hrr g_ar e3 e4 h3
