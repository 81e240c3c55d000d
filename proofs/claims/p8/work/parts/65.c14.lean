set_option maxHeartbeats 4000000 in
set_option maxRecDepth 100000 in
/-- X11_hasRule -/
theorem c_hasRuleX (l : Launch) (v : Int) (k : Int) (vr : -2147483648 ≤ v ∧ v ≤ 2147483647) (ki : 0 ≤ k ∧ k ≤ 31) : Met l yX11_hasRule wsX11_hasRule ({ frames := 0, cells := 0, slots := 0, locals := 0 }) (va_Pc [.int (kz v), .int (kz k)] (fun U => True)) (vp_Si (fun r => (r = kz 1 ∧ bt (kz v) k.toNat = true) ∨ r = kz 0)) 0 0 (fun _ => False) := by
  refine Met.ofW (cc := cX11_hasRule) (maxL := 2) (ret := (some .boolean)) (by decide) rfl ?_
  intro p e s m args below meth c s₁ B hml hv
  obtain ⟨rfl, -⟩ := hv
  have hx := B.exec
  have hb := B.bytes
  have hr := B.returns
  have hts := atoms_spec (ws := wsX11_hasRule) B.pre
  have hown : s.vm.findClass RX11 = some m.cls := findClass_of_methodNamed B.named
  have hl := lv_entry ([.int (kz v), .int (kz k)]) (n := 2) (Nat.le_of_ble_eq_true rfl)
  rw [lg_entry_eq]
  generalize (lg_sl ([.int (kz v), .int (kz k)]) ++ List.replicate (2 - (lg_sl ([.int (kz v), .int (kz k)])).length) Slot.unset).toArray = ls at hl ⊢
  have hl : lv_has ls 2 [(0, .int (kz v)), (1, .int (kz k))] := hl
  refine lv_iload_n hx hb dX11_hasRule_0 rfl (lv_at hl 0 rfl) ?_
  refine lv_iload_n hx hb dX11_hasRule_1 rfl (lv_at hl 1 rfl) ?_
  refine lv_ishr hx hb dX11_hasRule_2 ?_
  refine iz_any (fun z_1 z_1a z_1b z_1e => ?_)
  refine lv_iconst (v := kz 1) hx hb dX11_hasRule_3 rfl ?_
  refine iz_iand hx hb dX11_hasRule_4 (by decide) (fun z_2 z_2a z_2b z_2e => ?_)
  refine lv_iconst (v := kz 1) hx hb dX11_hasRule_5 rfl ?_
  refine iz_ne (tgt := 13) hx hb dX11_hasRule_6 (by decide) (by unfold rg2; omega) (fun br_3 => ?_) (fun br_3 => ?_)
  · refine lv_iconst (v := kz 0) hx hb dX11_hasRule_13 rfl ?_
    exact W.zret (v := kz 0) hx hb hr (by decide) (fun t9 ht hW => ⟨kz 0, rfl, Or.inr rfl, ht⟩) (fun q h => absurd h List.not_mem_nil) dX11_hasRule_14
  · refine lv_iconst (v := kz 1) hx hb dX11_hasRule_9 rfl ?_
    refine lv_goto (tgt := 14) hx hb dX11_hasRule_10 (by decide) ?_
    exact W.zret (v := kz 1) hx hb hr (by decide) (fun t9 ht hW => ⟨kz 1, rfl, Or.inl ⟨rfl, has_bit (by omega) z_1e z_2e (by omega)⟩, ht⟩) (fun q h => absurd h List.not_mem_nil) dX11_hasRule_14
set_option maxHeartbeats 4000000 in
set_option maxRecDepth 100000 in
/-- X3_canMeetBy -/
theorem c_canMeetByX (l : Launch) (dC : Nat → ClassId) (dI : Nat → Nat → Nat) (ca : Nat → ClassId) (A : Nat → Prop) (X : jG) (hU : jU X) (a0 : Nat) (k : Int) (f1 : Nat) (f2 : Nat) (ln_f2 : Nat) (letters_f2 : Nat) (kind_f2 : Int) (stem_f2 : Int) (kept_f2 : Int) (cost_f2 : Int) (number_f2 : Int) (ends_f2 : Int) (begins_f2 : Int) (g_a0 : X.1 a0 = (3, 30, 0, 0, 0)) (g_f1 : X.1 f1 = (2, 30, 0, 0, 0)) (g_f2 : X.1 f2 = (2, 30, 0, 0, 0)) (g_letters_f2 : X.1 letters_f2 = (201, 21, ln_f2, 0, 0)) (kind_f2i : 0 ≤ kind_f2 ∧ kind_f2 ≤ 5) (stem_f2i : 0 ≤ stem_f2 ∧ stem_f2 ≤ 19) (kept_f2i : -2147483648 ≤ kept_f2 ∧ kept_f2 ≤ 2147483647) (cost_f2i : -2147483648 ≤ cost_f2 ∧ cost_f2 ≤ 2147483647) (number_f2i : 0 ≤ number_f2 ∧ number_f2 ≤ 39) (ends_f2i : -2147483648 ≤ ends_f2 ∧ ends_f2 ≤ 2147483647) (begins_f2i : -2147483648 ≤ begins_f2 ∧ begins_f2 ≤ 2147483647) (x_f2_0 : 1 ≤ ln_f2) (x_f2_1 : ln_f2 ≤ 8) (x_f2_2 : jb X begins_f2 ln_f2) (x_f2_3 : ln_f2 = X.2.1 f2) (ki : 0 ≤ k ∧ k < (X.2.2.2 : Int)) (ki2 : k ≤ 23) : Met l yX3_canMeetBy wsX3_canMeetBy ({ frames := 1, cells := 0, slots := 0, locals := 21 }) (va_Pc [.ref a0, .int (kz k), .ref f1, .ref f2] (fun U => jK (dC, dI) ca U ∧ jv (dC, dI) ca A X U.heap ∧ va_at (dC, dI) vwCl (f2, .inr (2, [.ref letters_f2, .int (kz kind_f2), .int (kz stem_f2), .int (kz kept_f2), .int (kz cost_f2), .int (kz number_f2), .int (kz ends_f2), .int (kz begins_f2)])) U.heap)) (vp_Si (fun r => (r = kz 1 ∧ X.2.2.1 k.toNat ≤ (X.2.1 f2 : Int)) ∨ r = kz 0)) 0 0 (fun _ => False) := by
  refine Met.ofW (cc := cX3_canMeetBy) (maxL := 4) (ret := (some .boolean)) (by decide) rfl ?_
  intro p e s m args below meth c s₁ B hml hv
  obtain ⟨rfl, ⟨hK, hN⟩, hI, co_f2⟩ := hv
  have hx := B.exec
  have hb := B.bytes
  have hr := B.returns
  have hts := atoms_spec (ws := wsX3_canMeetBy) B.pre
  have hown : s.vm.findClass RX3 = some m.cls := findClass_of_methodNamed B.named
  have hL119 := hts (.fieldLink RX3 119 "JoinBench$Form" "ends" "I") (by decide +kernel)
  have hL157 := hts (.fieldLink RX3 157 "JoinBench$Form" "begins" "I") (by decide +kernel)
  have hL42 := hts (.fieldLink RX3 42 "JoinBench$Lattice" "inForce" "I") (by decide +kernel)
  have hL45 := hts (.fieldLink RX3 45 "JoinBench$Lattice" "barred" "[Z") (by decide +kernel)
  have hL137 := hts (.fieldLink RX3 137 "JoinBench$Form" "kind" "I") (by decide +kernel)
  have hinX2 : ∀ w ∈ u_ws RX2 TX2 8, w ∈ wsX3_canMeetBy := by decide +kernel
  have hinX3 : ∀ w ∈ u_ws RX3 TX3 11, w ∈ wsX3_canMeetBy := by decide +kernel
  have hl := lv_entry ([.ref a0, .int (kz k), .ref f1, .ref f2]) (n := 4) (Nat.le_of_ble_eq_true rfl)
  rw [lg_entry_eq]
  generalize (lg_sl ([.ref a0, .int (kz k), .ref f1, .ref f2]) ++ List.replicate (4 - (lg_sl ([.ref a0, .int (kz k), .ref f1, .ref f2])).length) Slot.unset).toArray = ls at hl ⊢
  have hl : lv_has ls 4 [(0, .ref a0), (1, .int (kz k)), (2, .ref f1), (3, .ref f2)] := hl
  refine lv_aload_n hx hb dX3_canMeetBy_0 rfl (lv_at hl 2 rfl) ?_
  obtain ⟨fs9, co_1, jo9⟩ := jv_o2 hI g_f1
  obtain ⟨ln_1, letters_1, kind_1, stem_1, kept_1, cost_1, number_1, ends_1, begins_1, rfl, g_letters_1, ⟨kind_1a, kind_1b⟩, ⟨stem_1a, stem_1b⟩, ⟨kept_1a, kept_1b⟩, ⟨cost_1a, cost_1b⟩, ⟨number_1a, number_1b⟩, ⟨ends_1a, ends_1b⟩, ⟨begins_1a, begins_1b⟩, x_1_0, x_1_1, x_1_2, x_1_3⟩ := jo9
  refine iz_get (D := (dC, dI)) (ci := 2) (v := .int (kz ends_1)) (C := RX2) (T := TX2) (N := 8) hx hb hts hinX2 hown hK co_1 rfl 6 (by decide) hL119 (fun _ h9 => h9) rfl dX3_canMeetBy_1 ?_
  refine lv_aload_n hx hb dX3_canMeetBy_4 rfl (lv_at hl 3 rfl) ?_
  refine iz_get (D := (dC, dI)) (ci := 2) (v := .int (kz begins_f2)) (C := RX2) (T := TX2) (N := 8) hx hb hts hinX2 hown hK co_f2 rfl 7 (by decide) hL157 (fun _ h9 => h9) rfl dX3_canMeetBy_5 ?_
  refine lv_iand hx hb dX3_canMeetBy_8 ?_
  refine iz_any (fun z_2 z_2a z_2b z_2e => ?_)
  refine lv_aload_n hx hb dX3_canMeetBy_9 rfl (lv_at hl 0 rfl) ?_
  obtain ⟨fs9, co_3, jo9⟩ := jv_o3 hI g_a0
  obtain ⟨cheapest_3, size_3, tongue_3, line_3, ways_3, plainWays_3, plainCheapest_3, ruledWays_3, ruledCheapest_3, inForce_3, barred_3, rfl, g_cheapest_3, ⟨size_3a, size_3b⟩, g_tongue_3, g_line_3, g_ways_3, g_plainWays_3, g_plainCheapest_3, g_ruledWays_3, g_ruledCheapest_3, ⟨inForce_3a, inForce_3b⟩, g_barred_3⟩ := jo9
  refine iz_get (D := (dC, dI)) (ci := 3) (v := .int (kz inForce_3)) (C := RX3) (T := TX3) (N := 11) hx hb hts hinX3 hown hK co_3 rfl 9 (by decide) hL42 (fun _ h9 => h9) rfl dX3_canMeetBy_10 ?_
  refine lv_iand hx hb dX3_canMeetBy_13 ?_
  refine iz_any (fun z_4 z_4a z_4b z_4e => ?_)
  refine lv_iload_n hx hb dX3_canMeetBy_14 rfl (lv_at hl 1 rfl) ?_
  refine vp_callSi (va_Run.run (va_runSN (As := [.int (kz z_4), .int (kz k)]) (rest := []) ⟨hx, hb, hml, hown, hts⟩ (c_hasRuleX l z_4 k (by omega) (by omega)) ⟨va_cnB 2 hts gX3_canMeetBy_X11_hasRule_n125 rfl rfl rfl (jN_X3_125 hN) (hts (.initialized RX11) (by decide +kernel)) (by decide +kernel) ⟨Nat.le_of_ble_eq_true rfl, Nat.le_of_ble_eq_true rfl⟩, hts (.static yX11_hasRule) (by decide +kernel), trivial⟩ ⟨fun a U g mk q => q, fun U hU hW => ⟨rfl, trivial⟩⟩ rfl rfl hl.1 rfl (lv_room (Nat.le_of_ble_eq_true rfl)) dX3_canMeetBy_15 ⟨Nat.le_of_ble_eq_true rfl, Nat.le_of_ble_eq_true rfl⟩)) (fun r_6 hw_5 => ?_)
  rcases hw_5 with ⟨rfl, hw_5⟩ | rfl
  · refine iz_eqz (tgt := 45) hx hb dX3_canMeetBy_18 (by decide) (by unfold rg2; omega) (fun q9 => absurd q9 (by decide)) (fun _ => ?_)
    refine lv_aload_n hx hb dX3_canMeetBy_21 rfl (lv_at hl 0 rfl) ?_
    refine iz_get (D := (dC, dI)) (ci := 3) (v := .ref barred_3) (C := RX3) (T := TX3) (N := 11) hx hb hts hinX3 hown hK co_3 rfl 10 (by decide) hL45 (fun _ h9 => h9) rfl dX3_canMeetBy_22 ?_
    refine lv_aload_n hx hb dX3_canMeetBy_25 rfl (lv_at hl 2 rfl) ?_
    refine iz_get (D := (dC, dI)) (ci := 2) (v := .int (kz kind_1)) (C := RX2) (T := TX2) (N := 8) hx hb hts hinX2 hown hK co_1 rfl 1 (by decide) hL137 (fun _ h9 => h9) rfl dX3_canMeetBy_26 ?_
    refine lv_bipush (v := kz 6) hx hb dX3_canMeetBy_29 (by decide) ?_
    refine iz_imul hx hb dX3_canMeetBy_31 ?_
    refine lv_aload_n hx hb dX3_canMeetBy_32 rfl (lv_at hl 3 rfl) ?_
    refine iz_get (D := (dC, dI)) (ci := 2) (v := .int (kz kind_f2)) (C := RX2) (T := TX2) (N := 8) hx hb hts hinX2 hown hK co_f2 rfl 1 (by decide) hL137 (fun _ h9 => h9) rfl dX3_canMeetBy_33 ?_
    refine iz_iadd hx hb dX3_canMeetBy_36 ?_
    obtain ⟨f_7, c_f_7⟩ := iv_o22 (jv_iv hI) g_barred_3
    refine iz_zald hx hb hK 2 c_f_7 rfl (by omega) (by decide) dX3_canMeetBy_37 ?_
    have v_8a := kz_lo (f_7 (Int.toNat ((kind_1 * 6) + kind_f2)))
    have v_8b := kz_hi (f_7 (Int.toNat ((kind_1 * 6) + kind_f2)))
    change _ ≤ ge1 f_7 ((kind_1 * 6) + kind_f2) at v_8a
    change ge1 f_7 ((kind_1 * 6) + kind_f2) ≤ _ at v_8b
    obtain ⟨v_8, ev_8⟩ : ∃ z9 : Int, ge1 f_7 ((kind_1 * 6) + kind_f2) = z9 := ⟨_, rfl⟩
    rw [ev_8] at v_8a v_8b ⊢
    refine iz_nez (tgt := 45) hx hb dX3_canMeetBy_38 (by decide) (by unfold rg2; omega) (fun br_9 => ?_) (fun br_9 => ?_)
    · refine lv_iconst (v := kz 0) hx hb dX3_canMeetBy_45 rfl ?_
      exact W.zret (v := kz 0) hx hb hr (by decide) (fun t9 ht hW => ⟨kz 0, rfl, Or.inr rfl, ht⟩) (fun q h => absurd h List.not_mem_nil) dX3_canMeetBy_46
    · refine lv_iconst (v := kz 1) hx hb dX3_canMeetBy_41 rfl ?_
      refine lv_goto (tgt := 46) hx hb dX3_canMeetBy_42 (by decide) ?_
      exact W.zret (v := kz 1) hx hb hr (by decide) (fun t9 ht hW => ⟨kz 1, rfl, Or.inl ⟨rfl, by rw [← x_f2_3]; exact x_f2_2.2 _ (by omega) (and_bit z_2e z_4e hw_5)⟩, ht⟩) (fun q h => absurd h List.not_mem_nil) dX3_canMeetBy_46
  · refine iz_eqz (tgt := 45) hx hb dX3_canMeetBy_18 (by decide) (by unfold rg2; omega) (fun _ => ?_) (fun q9 => absurd q9 (by decide))
    refine lv_iconst (v := kz 0) hx hb dX3_canMeetBy_45 rfl ?_
    exact W.zret (v := kz 0) hx hb hr (by decide) (fun t9 ht hW => ⟨kz 0, rfl, Or.inr rfl, ht⟩) (fun q h => absurd h List.not_mem_nil) dX3_canMeetBy_46
set_option maxHeartbeats 4000000 in
set_option maxRecDepth 100000 in
/-- X0_formAt -/
theorem c_chFormAtX (l : Launch) (dC : Nat → ClassId) (dI : Nat → Nat → Nat) (ca : Nat → ClassId) (A : Nat → Prop) (X : jG) (hU : jU X) (a0 : Nat) (k : Int) (id : Nat) (forms_a0 : Nat) (rules_a0 : Nat) (size_a0 : Int) (ff : Nat → Option Nat) (g_a0 : X.1 a0 = (0, 30, id, 0, 0)) (g_forms_a0 : X.1 forms_a0 = (210, 24, 40, 2, (id : Int))) (g_rules_a0 : X.1 rules_a0 = (211, 25, 40, 7, (id : Int))) (size_a0i : 0 ≤ size_a0 ∧ size_a0 ≤ 40) (x_a0_0 : size_a0 ≤ (X.2.1 forms_a0 : Int)) (kr : -2147483648 ≤ k ∧ k ≤ 2147483647) : Met l yX0_formAt wsX0_formAt ({ frames := 0, cells := 0, slots := 0, locals := 0 }) (va_Pc [.ref a0, .int (kz k)] (fun U => jK (dC, dI) ca U ∧ jv (dC, dI) ca A X U.heap ∧ va_at (dC, dI) vwCl (a0, .inr (0, [.ref forms_a0, .ref rules_a0, .int (kz size_a0)])) U.heap ∧ va_at (dC, dI) vwCl (forms_a0, je_q ca 40 24 ff) U.heap)) (va_Sq (fun r => (∀ b9 : Nat, r = some b9 → X.1 b9 = (2, 30, 0, 0, 0)) ∧ r = (if 0 ≤ k ∧ k < size_a0 then ff (Int.toNat k) else none))) 0 0 (fun _ => False) := by
  refine Met.ofW (cc := cX0_formAt) (maxL := 2) (ret := (some (.object "JoinBench$Form"))) (by decide) rfl ?_
  intro p e s m args below meth c s₁ B hml hv
  obtain ⟨rfl, ⟨hK, hN⟩, hI, co_a0, c_ff⟩ := hv
  have hx := B.exec
  have hb := B.bytes
  have hr := B.returns
  have hts := atoms_spec (ws := wsX0_formAt) B.pre
  have hown : s.vm.findClass RX0 = some m.cls := findClass_of_methodNamed B.named
  have hL23 := hts (.fieldLink RX0 23 "JoinBench$Chain" "size" "I") (by decide +kernel)
  have hL11 := hts (.fieldLink RX0 11 "JoinBench$Chain" "forms" "[LJoinBench$Form;") (by decide +kernel)
  have hinX0 : ∀ w ∈ u_ws RX0 TX0 3, w ∈ wsX0_formAt := by decide +kernel
  have k_ff := kq24 hI g_forms_a0 c_ff
  have hl := lv_entry ([.ref a0, .int (kz k)]) (n := 2) (Nat.le_of_ble_eq_true rfl)
  rw [lg_entry_eq]
  generalize (lg_sl ([.ref a0, .int (kz k)]) ++ List.replicate (2 - (lg_sl ([.ref a0, .int (kz k)])).length) Slot.unset).toArray = ls at hl ⊢
  have hl : lv_has ls 2 [(0, .ref a0), (1, .int (kz k))] := hl
  refine lv_iload_n hx hb dX0_formAt_0 rfl (lv_at hl 1 rfl) ?_
  refine iz_ltz (tgt := 21) hx hb dX0_formAt_1 (by decide) (by unfold rg2; omega) (fun br_1 => ?_) (fun br_1 => ?_)
  · refine lv_null hx hb dX0_formAt_21 ?_
    exact W.aret (v := .null) hx hb hr (Or.inl ⟨_, rfl⟩) (Or.inl rfl) (fun t9 ht hW => ⟨none, rfl, ⟨(fun b9 q9 => by cases q9), by rw [if_neg (by omega)]⟩, ht⟩) (fun q h => absurd h List.not_mem_nil) dX0_formAt_22
  · refine lv_iload_n hx hb dX0_formAt_4 rfl (lv_at hl 1 rfl) ?_
    refine lv_aload_n hx hb dX0_formAt_5 rfl (lv_at hl 0 rfl) ?_
    refine iz_get (D := (dC, dI)) (ci := 0) (v := .int (kz size_a0)) (C := RX0) (T := TX0) (N := 3) hx hb hts hinX0 hown hK co_a0 rfl 2 (by decide) hL23 (fun _ h9 => h9) rfl dX0_formAt_6 ?_
    refine iz_ge (tgt := 21) hx hb dX0_formAt_9 (by decide) (by unfold rg2; omega) (fun br_2 => ?_) (fun br_2 => ?_)
    · refine lv_null hx hb dX0_formAt_21 ?_
      exact W.aret (v := .null) hx hb hr (Or.inl ⟨_, rfl⟩) (Or.inl rfl) (fun t9 ht hW => ⟨none, rfl, ⟨(fun b9 q9 => by cases q9), by rw [if_neg (by omega)]⟩, ht⟩) (fun q h => absurd h List.not_mem_nil) dX0_formAt_22
    · refine lv_aload_n hx hb dX0_formAt_12 rfl (lv_at hl 0 rfl) ?_
      refine iz_get (D := (dC, dI)) (ci := 0) (v := .ref forms_a0) (C := RX0) (T := TX0) (N := 3) hx hb hts hinX0 hown hK co_a0 rfl 0 (by decide) hL11 (fun _ h9 => h9) rfl dX0_formAt_13 ?_
      refine lv_iload_n hx hb dX0_formAt_16 rfl (lv_at hl 1 rfl) ?_
      refine jz_aald hx hb hK 4 c_ff rfl rfl (by omega) (by decide) dX0_formAt_17 ?_
      obtain ⟨b_3, eb_3⟩ : ∃ b9 : Nat, ff (Int.toNat k) = some b9 := Option.ne_none_iff_exists'.mp ((k_ff (Int.toNat k) (by omega)).2 (by omega))
      have g_b_3 := (k_ff (Int.toNat k) (by omega)).1 b_3 eb_3
      rw [eb_3]
      refine W.eq (g2 := F0 m 18 ls [.ref b_3]) rfl ?_
      refine lv_goto (tgt := 22) hx hb dX0_formAt_18 (by decide) ?_
      exact W.aret (v := .ref b_3) hx hb hr (Or.inl ⟨_, rfl⟩) (Or.inr ⟨_, rfl⟩) (fun t9 ht hW => ⟨some b_3, rfl, ⟨(fun b9 q9 => by cases q9; exact g_b_3), by rw [if_pos (by omega)]; first | done | exact eb_3.symm⟩, ht⟩) (fun q h => absurd h List.not_mem_nil) dX0_formAt_22
set_option maxHeartbeats 4000000 in
set_option maxRecDepth 100000 in
/-- X0_ruleAheadOf -/
theorem c_ruleAheadOfX (l : Launch) (dC : Nat → ClassId) (dI : Nat → Nat → Nat) (ca : Nat → ClassId) (A : Nat → Prop) (X : jG) (hU : jU X) (a0 : Nat) (k : Int) (id : Nat) (forms_a0 : Nat) (rules_a0 : Nat) (size_a0 : Int) (fr : Nat → Option Nat) (g_a0 : X.1 a0 = (0, 30, id, 0, 0)) (g_forms_a0 : X.1 forms_a0 = (210, 24, 40, 2, (id : Int))) (g_rules_a0 : X.1 rules_a0 = (211, 25, 40, 7, (id : Int))) (size_a0i : 0 ≤ size_a0 ∧ size_a0 ≤ 40) (x_a0_0 : size_a0 ≤ (X.2.1 forms_a0 : Int)) (kr : -2147483648 ≤ k ∧ k ≤ 2147483647) : Met l yX0_ruleAheadOf wsX0_ruleAheadOf ({ frames := 0, cells := 0, slots := 0, locals := 0 }) (va_Pc [.ref a0, .int (kz k)] (fun U => jK (dC, dI) ca U ∧ jv (dC, dI) ca A X U.heap ∧ va_at (dC, dI) vwCl (a0, .inr (0, [.ref forms_a0, .ref rules_a0, .int (kz size_a0)])) U.heap ∧ va_at (dC, dI) vwCl (rules_a0, je_q ca 40 25 fr) U.heap)) (va_Sq (fun r => (∀ b9 : Nat, r = some b9 → ∃ i9 : Nat, X.1 b9 = (7, 30, i9, 0, 0)) ∧ r = (if 0 ≤ k ∧ k < size_a0 then fr (Int.toNat k) else none))) 0 0 (fun _ => False) := by
  refine Met.ofW (cc := cX0_ruleAheadOf) (maxL := 2) (ret := (some (.object "JoinBench$Rule"))) (by decide) rfl ?_
  intro p e s m args below meth c s₁ B hml hv
  obtain ⟨rfl, ⟨hK, hN⟩, hI, co_a0, c_fr⟩ := hv
  have hx := B.exec
  have hb := B.bytes
  have hr := B.returns
  have hts := atoms_spec (ws := wsX0_ruleAheadOf) B.pre
  have hown : s.vm.findClass RX0 = some m.cls := findClass_of_methodNamed B.named
  have hL23 := hts (.fieldLink RX0 23 "JoinBench$Chain" "size" "I") (by decide +kernel)
  have hL19 := hts (.fieldLink RX0 19 "JoinBench$Chain" "rules" "[LJoinBench$Rule;") (by decide +kernel)
  have hinX0 : ∀ w ∈ u_ws RX0 TX0 3, w ∈ wsX0_ruleAheadOf := by decide +kernel
  have k_fr := kq25 hI g_rules_a0 c_fr
  have hl := lv_entry ([.ref a0, .int (kz k)]) (n := 2) (Nat.le_of_ble_eq_true rfl)
  rw [lg_entry_eq]
  generalize (lg_sl ([.ref a0, .int (kz k)]) ++ List.replicate (2 - (lg_sl ([.ref a0, .int (kz k)])).length) Slot.unset).toArray = ls at hl ⊢
  have hl : lv_has ls 2 [(0, .ref a0), (1, .int (kz k))] := hl
  refine lv_iload_n hx hb dX0_ruleAheadOf_0 rfl (lv_at hl 1 rfl) ?_
  refine iz_ltz (tgt := 21) hx hb dX0_ruleAheadOf_1 (by decide) (by unfold rg2; omega) (fun br_1 => ?_) (fun br_1 => ?_)
  · refine lv_null hx hb dX0_ruleAheadOf_21 ?_
    exact W.aret (v := .null) hx hb hr (Or.inl ⟨_, rfl⟩) (Or.inl rfl) (fun t9 ht hW => ⟨none, rfl, ⟨(fun b9 q9 => by cases q9), by rw [if_neg (by omega)]⟩, ht⟩) (fun q h => absurd h List.not_mem_nil) dX0_ruleAheadOf_22
  · refine lv_iload_n hx hb dX0_ruleAheadOf_4 rfl (lv_at hl 1 rfl) ?_
    refine lv_aload_n hx hb dX0_ruleAheadOf_5 rfl (lv_at hl 0 rfl) ?_
    refine iz_get (D := (dC, dI)) (ci := 0) (v := .int (kz size_a0)) (C := RX0) (T := TX0) (N := 3) hx hb hts hinX0 hown hK co_a0 rfl 2 (by decide) hL23 (fun _ h9 => h9) rfl dX0_ruleAheadOf_6 ?_
    refine iz_ge (tgt := 21) hx hb dX0_ruleAheadOf_9 (by decide) (by unfold rg2; omega) (fun br_2 => ?_) (fun br_2 => ?_)
    · refine lv_null hx hb dX0_ruleAheadOf_21 ?_
      exact W.aret (v := .null) hx hb hr (Or.inl ⟨_, rfl⟩) (Or.inl rfl) (fun t9 ht hW => ⟨none, rfl, ⟨(fun b9 q9 => by cases q9), by rw [if_neg (by omega)]⟩, ht⟩) (fun q h => absurd h List.not_mem_nil) dX0_ruleAheadOf_22
    · refine lv_aload_n hx hb dX0_ruleAheadOf_12 rfl (lv_at hl 0 rfl) ?_
      refine iz_get (D := (dC, dI)) (ci := 0) (v := .ref rules_a0) (C := RX0) (T := TX0) (N := 3) hx hb hts hinX0 hown hK co_a0 rfl 1 (by decide) hL19 (fun _ h9 => h9) rfl dX0_ruleAheadOf_13 ?_
      refine lv_iload_n hx hb dX0_ruleAheadOf_16 rfl (lv_at hl 1 rfl) ?_
      refine jz_aald hx hb hK 5 c_fr rfl rfl (by omega) (by decide) dX0_ruleAheadOf_17 ?_
      rcases eb_3 : fr (Int.toNat k) with _ | b_3
      · refine W.eq (g2 := F0 m 18 ls [.null]) rfl ?_
        refine lv_goto (tgt := 22) hx hb dX0_ruleAheadOf_18 (by decide) ?_
        exact W.aret (v := .null) hx hb hr (Or.inl ⟨_, rfl⟩) (Or.inl rfl) (fun t9 ht hW => ⟨none, rfl, ⟨(fun b9 q9 => by cases q9), by rw [if_pos (by omega)]; first | done | exact eb_3.symm⟩, ht⟩) (fun q h => absurd h List.not_mem_nil) dX0_ruleAheadOf_22
      · obtain ⟨i_b_3, g_b_3⟩ := k_fr (Int.toNat k) (by omega) b_3 eb_3
        refine W.eq (g2 := F0 m 18 ls [.ref b_3]) rfl ?_
        refine lv_goto (tgt := 22) hx hb dX0_ruleAheadOf_18 (by decide) ?_
        exact W.aret (v := .ref b_3) hx hb hr (Or.inl ⟨_, rfl⟩) (Or.inr ⟨_, rfl⟩) (fun t9 ht hW => ⟨some b_3, rfl, ⟨(fun b9 q9 => by cases q9; exact ⟨_, g_b_3⟩), by rw [if_pos (by omega)]; first | done | exact eb_3.symm⟩, ht⟩) (fun q h => absurd h List.not_mem_nil) dX0_ruleAheadOf_22
set_option maxHeartbeats 4000000 in
set_option maxRecDepth 100000 in
/-- X0_last -/
theorem c_lastX (l : Launch) (dC : Nat → ClassId) (dI : Nat → Nat → Nat) (ca : Nat → ClassId) (A : Nat → Prop) (X : jG) (hU : jU X) (a0 : Nat) (id : Nat) (forms_a0 : Nat) (rules_a0 : Nat) (size_a0 : Int) (ff : Nat → Option Nat) (g_a0 : X.1 a0 = (0, 30, id, 0, 0)) (g_forms_a0 : X.1 forms_a0 = (210, 24, 40, 2, (id : Int))) (g_rules_a0 : X.1 rules_a0 = (211, 25, 40, 7, (id : Int))) (size_a0i : 0 ≤ size_a0 ∧ size_a0 ≤ 40) (x_a0_0 : size_a0 ≤ (X.2.1 forms_a0 : Int)) : Met l yX0_last wsX0_last ({ frames := 1, cells := 0, slots := 0, locals := 21 }) (va_Pc [.ref a0] (fun U => jK (dC, dI) ca U ∧ jv (dC, dI) ca A X U.heap ∧ va_at (dC, dI) vwCl (a0, .inr (0, [.ref forms_a0, .ref rules_a0, .int (kz size_a0)])) U.heap ∧ va_at (dC, dI) vwCl (forms_a0, je_q ca 40 24 ff) U.heap)) (va_Sq (fun r => (∀ b9 : Nat, r = some b9 → X.1 b9 = (2, 30, 0, 0, 0)) ∧ r = lst ff size_a0)) 0 0 (fun _ => False) := by
  refine Met.ofW (cc := cX0_last) (maxL := 1) (ret := (some (.object "JoinBench$Form"))) (by decide) rfl ?_
  intro p e s m args below meth c s₁ B hml hv
  obtain ⟨rfl, ⟨hK, hN⟩, hI, co_a0, c_ff⟩ := hv
  have hx := B.exec
  have hb := B.bytes
  have hr := B.returns
  have hts := atoms_spec (ws := wsX0_last) B.pre
  have hown : s.vm.findClass RX0 = some m.cls := findClass_of_methodNamed B.named
  have hL23 := hts (.fieldLink RX0 23 "JoinBench$Chain" "size" "I") (by decide +kernel)
  have hinX0 : ∀ w ∈ u_ws RX0 TX0 3, w ∈ wsX0_last := by decide +kernel
  have k_ff := kq24 hI g_forms_a0 c_ff
  have hl := lv_entry ([.ref a0]) (n := 1) (Nat.le_of_ble_eq_true rfl)
  rw [lg_entry_eq]
  generalize (lg_sl ([.ref a0]) ++ List.replicate (1 - (lg_sl ([.ref a0])).length) Slot.unset).toArray = ls at hl ⊢
  have hl : lv_has ls 1 [(0, .ref a0)] := hl
  refine lv_aload_n hx hb dX0_last_0 rfl (lv_at hl 0 rfl) ?_
  refine lv_aload_n hx hb dX0_last_1 rfl (lv_at hl 0 rfl) ?_
  refine iz_get (D := (dC, dI)) (ci := 0) (v := .int (kz size_a0)) (C := RX0) (T := TX0) (N := 3) hx hb hts hinX0 hown hK co_a0 rfl 2 (by decide) hL23 (fun _ h9 => h9) rfl dX0_last_2 ?_
  refine lv_iconst (v := kz 1) hx hb dX0_last_5 rfl ?_
  refine iz_isub hx hb dX0_last_6 ?_
  refine va_csq (va_Run.run (va_runV (As := [.int (kz (size_a0 - 1))]) (rest := []) ⟨hx, hb, hml, hown, hts⟩ (c_chFormAtX l dC dI ca A X hU a0 (size_a0 - 1) id forms_a0 rules_a0 size_a0 ff g_a0 g_forms_a0 g_rules_a0 (by omega) (by omega) (by omega)) (cwV 1 hts gX0_last_X0_formAt rfl rfl rfl (by decide +kernel) ⟨Nat.le_of_ble_eq_true rfl, Nat.le_of_ble_eq_true rfl⟩) ⟨fun a U g mk q => by obtain ⟨q0, ⟨qK, qN⟩, qI⟩ := q; exact ⟨q0, ⟨va_K.moved (u := U) (U := U.calling g mk a) (Vm.Alike.refl U.vm) qK, jN_same (U := U.calling g mk a) rfl qN⟩, qI⟩, va_recv hK (at_P co_a0) (ci := 0) (q0 := 0) rfl rfl, fun U hU hW => ⟨rfl, jK_warm hW ⟨hK, hN⟩, by rw [hU]; exact ⟨hI, co_a0, c_ff⟩⟩⟩ rfl rfl hl.1 rfl (lv_room (Nat.le_of_ble_eq_true rfl)) dX0_last_7 ⟨Nat.le_of_ble_eq_true rfl, Nat.le_of_ble_eq_true rfl⟩)) (fun r_2 hw_1 => ?_)
  obtain ⟨hw_1, hw_1x⟩ := hw_1
  rcases r_2 with _ | b_3
  · refine W.eq (g2 := F0 m 10 ls [.null]) rfl ?_
    exact W.aret (v := .null) hx hb hr (Or.inl ⟨_, rfl⟩) (Or.inl rfl) (fun t9 ht hW => ⟨none, rfl, ⟨(fun b9 q9 => by cases q9), hw_1x⟩, ht⟩) (fun q h => absurd h List.not_mem_nil) dX0_last_10
  · have g_b_3 := hw_1 b_3 rfl
    refine W.eq (g2 := F0 m 10 ls [.ref b_3]) rfl ?_
    exact W.aret (v := .ref b_3) hx hb hr (Or.inl ⟨_, rfl⟩) (Or.inr ⟨_, rfl⟩) (fun t9 ht hW => ⟨some b_3, rfl, ⟨(fun b9 q9 => by cases q9; exact g_b_3), hw_1x⟩, ht⟩) (fun q h => absurd h List.not_mem_nil) dX0_last_10
set_option maxHeartbeats 4000000 in
set_option maxRecDepth 100000 in
/-- X0_cutAtBeginning -/
theorem c_cutAtBeginningX (l : Launch) (dC : Nat → ClassId) (dI : Nat → Nat → Nat) (ca : Nat → ClassId) (A : Nat → Prop) (X : jG) (hU : jU X) (a0 : Nat) (k : Int) (id : Nat) (forms_a0 : Nat) (rules_a0 : Nat) (size_a0 : Int) (fr : Nat → Option Nat) (g_a0 : X.1 a0 = (0, 30, id, 0, 0)) (g_forms_a0 : X.1 forms_a0 = (210, 24, 40, 2, (id : Int))) (g_rules_a0 : X.1 rules_a0 = (211, 25, 40, 7, (id : Int))) (size_a0i : 0 ≤ size_a0 ∧ size_a0 ≤ 40) (x_a0_0 : size_a0 ≤ (X.2.1 forms_a0 : Int)) (kr : -2147483648 ≤ k ∧ k ≤ 2147483647) : Met l yX0_cutAtBeginning wsX0_cutAtBeginning ({ frames := 1, cells := 0, slots := 0, locals := 21 }) (va_Pc [.ref a0, .int (kz k)] (fun U => jK (dC, dI) ca U ∧ jv (dC, dI) ca A X U.heap ∧ va_at (dC, dI) vwCl (a0, .inr (0, [.ref forms_a0, .ref rules_a0, .int (kz size_a0)])) U.heap ∧ va_at (dC, dI) vwCl (rules_a0, je_q ca 40 25 fr) U.heap)) (vp_Si (fun r => ∃ z : Int, r = kz z ∧ (0 ≤ z ∧ z ≤ 3) ∧ z = cutv X (if 0 ≤ k ∧ k < size_a0 then fr (Int.toNat k) else none))) 0 0 (fun _ => False) := by
  refine Met.ofW (cc := cX0_cutAtBeginning) (maxL := 3) (ret := (some .int)) (by decide) rfl ?_
  intro p e s m args below meth c s₁ B hml hv
  obtain ⟨rfl, ⟨hK, hN⟩, hI, co_a0, c_fr⟩ := hv
  have hx := B.exec
  have hb := B.bytes
  have hr := B.returns
  have hts := atoms_spec (ws := wsX0_cutAtBeginning) B.pre
  have hown : s.vm.findClass RX0 = some m.cls := findClass_of_methodNamed B.named
  have hL39 := hts (.fieldLink RX0 39 "JoinBench$Rule" "beginningSize" "I") (by decide +kernel)
  have hinX7 : ∀ w ∈ u_ws RX7 TX7 9, w ∈ wsX0_cutAtBeginning := by decide +kernel
  have k_fr := kq25 hI g_rules_a0 c_fr
  have hl := lv_entry ([.ref a0, .int (kz k)]) (n := 3) (Nat.le_of_ble_eq_true rfl)
  rw [lg_entry_eq]
  generalize (lg_sl ([.ref a0, .int (kz k)]) ++ List.replicate (3 - (lg_sl ([.ref a0, .int (kz k)])).length) Slot.unset).toArray = ls at hl ⊢
  have hl : lv_has ls 3 [(0, .ref a0), (1, .int (kz k))] := hl
  refine lv_aload_n hx hb dX0_cutAtBeginning_0 rfl (lv_at hl 0 rfl) ?_
  refine lv_iload_n hx hb dX0_cutAtBeginning_1 rfl (lv_at hl 1 rfl) ?_
  refine va_csq (va_Run.run (va_runV (As := [.int (kz k)]) (rest := []) ⟨hx, hb, hml, hown, hts⟩ (c_ruleAheadOfX l dC dI ca A X hU a0 k id forms_a0 rules_a0 size_a0 fr g_a0 g_forms_a0 g_rules_a0 (by omega) (by omega) (by omega)) (cwV 1 hts gX0_cutAtBeginning_X0_ruleAheadOf rfl rfl rfl (by decide +kernel) ⟨Nat.le_of_ble_eq_true rfl, Nat.le_of_ble_eq_true rfl⟩) ⟨fun a U g mk q => by obtain ⟨q0, ⟨qK, qN⟩, qI⟩ := q; exact ⟨q0, ⟨va_K.moved (u := U) (U := U.calling g mk a) (Vm.Alike.refl U.vm) qK, jN_same (U := U.calling g mk a) rfl qN⟩, qI⟩, va_recv hK (at_P co_a0) (ci := 0) (q0 := 0) rfl rfl, fun U hU hW => ⟨rfl, jK_warm hW ⟨hK, hN⟩, by rw [hU]; exact ⟨hI, co_a0, c_fr⟩⟩⟩ rfl rfl hl.1 rfl (lv_room (Nat.le_of_ble_eq_true rfl)) dX0_cutAtBeginning_2 ⟨Nat.le_of_ble_eq_true rfl, Nat.le_of_ble_eq_true rfl⟩)) (fun r_2 hw_1 => ?_)
  obtain ⟨hw_1, hw_1x⟩ := hw_1
  rcases r_2 with _ | b_3
  · refine W.eq (g2 := F0 m 5 ls [.null]) rfl ?_
    refine lv_astore_nN (lv' := [(2, .null), (0, .ref a0), (1, .int (kz k))]) hx hb dX0_cutAtBeginning_5 rfl hl (by decide) rfl (fun ls hl => ?_)
    refine lv_aload_nN hx hb dX0_cutAtBeginning_6 rfl (lv_at hl 0 rfl) ?_
    refine lv_ifnonnullN hx hb dX0_cutAtBeginning_7 ?_
    refine lv_iconst (v := kz 0) hx hb dX0_cutAtBeginning_10 rfl ?_
    refine lv_goto (tgt := 18) hx hb dX0_cutAtBeginning_11 (by decide) ?_
    exact W.iret (v := kz 0) hx hb hr (fun t9 ht hW => ⟨kz 0, rfl, ⟨0, rfl, by omega, by rw [← hw_1x]; rfl⟩, ht⟩) (fun q h => absurd h List.not_mem_nil) dX0_cutAtBeginning_18
  · obtain ⟨i_b_3, g_b_3⟩ := hw_1 b_3 rfl
    refine W.eq (g2 := F0 m 5 ls [.ref b_3]) rfl ?_
    refine lv_astore_n (lv' := [(2, .ref b_3), (0, .ref a0), (1, .int (kz k))]) hx hb dX0_cutAtBeginning_5 rfl hl (by decide) rfl (fun ls hl => ?_)
    refine lv_aload_n hx hb dX0_cutAtBeginning_6 rfl (lv_at hl 0 rfl) ?_
    refine lv_ifnonnull (tgt := 14) hx hb dX0_cutAtBeginning_7 (by decide) ?_
    refine lv_aload_n hx hb dX0_cutAtBeginning_14 rfl (lv_at hl 0 rfl) ?_
    obtain ⟨fs9, co_4, jo9⟩ := jv_o7 hI g_b_3
    obtain ⟨ln_4, letters_4, endSize_4, beginningSize_4, comesFrom_4, comesSize_4, cost_4, firstDay_4, lastDay_4, number_4, rfl, g_letters_4, ⟨endSize_4a, endSize_4b⟩, ⟨beginningSize_4a, beginningSize_4b⟩, ⟨comesFrom_4a, comesFrom_4b⟩, ⟨comesSize_4a, comesSize_4b⟩, ⟨cost_4a, cost_4b⟩, ⟨firstDay_4a, firstDay_4b⟩, ⟨lastDay_4a, lastDay_4b⟩, ⟨number_4a, number_4b⟩, x_4_0, x_4_1, x_4_2, x_4_3, x_4_4, x_4_5⟩ := jo9
    refine iz_get (D := (dC, dI)) (ci := 7) (v := .int (kz beginningSize_4)) (C := RX7) (T := TX7) (N := 9) hx hb hts hinX7 hown hK co_4 rfl 2 (by decide) hL39 (fun _ h9 => h9) rfl dX0_cutAtBeginning_15 ?_
    exact W.iret (v := kz beginningSize_4) hx hb hr (fun t9 ht hW => ⟨kz beginningSize_4, rfl, ⟨beginningSize_4, rfl, by omega, by rw [← hw_1x]; show beginningSize_4 = X.2.2.1 (X.1 b_3).2.2.1; rw [g_b_3]; exact x_4_3.symm⟩, ht⟩) (fun q h => absurd h List.not_mem_nil) dX0_cutAtBeginning_18
set_option maxHeartbeats 4000000 in
set_option maxRecDepth 100000 in
/-- X0_lastCut -/
theorem c_lastCutX (l : Launch) (dC : Nat → ClassId) (dI : Nat → Nat → Nat) (ca : Nat → ClassId) (A : Nat → Prop) (X : jG) (hU : jU X) (a0 : Nat) (id : Nat) (forms_a0 : Nat) (rules_a0 : Nat) (size_a0 : Int) (fr : Nat → Option Nat) (g_a0 : X.1 a0 = (0, 30, id, 0, 0)) (g_forms_a0 : X.1 forms_a0 = (210, 24, 40, 2, (id : Int))) (g_rules_a0 : X.1 rules_a0 = (211, 25, 40, 7, (id : Int))) (size_a0i : 0 ≤ size_a0 ∧ size_a0 ≤ 40) (x_a0_0 : size_a0 ≤ (X.2.1 forms_a0 : Int)) : Met l yX0_lastCut wsX0_lastCut ({ frames := 2, cells := 0, slots := 0, locals := 43 }) (va_Pc [.ref a0] (fun U => jK (dC, dI) ca U ∧ jv (dC, dI) ca A X U.heap ∧ va_at (dC, dI) vwCl (a0, .inr (0, [.ref forms_a0, .ref rules_a0, .int (kz size_a0)])) U.heap ∧ va_at (dC, dI) vwCl (rules_a0, je_q ca 40 25 fr) U.heap)) (vp_Si (fun r => ∃ z : Int, r = kz z ∧ (0 ≤ z ∧ z ≤ 3) ∧ z = cutv X (lst fr size_a0))) 0 0 (fun _ => False) := by
  refine Met.ofW (cc := cX0_lastCut) (maxL := 1) (ret := (some .int)) (by decide) rfl ?_
  intro p e s m args below meth c s₁ B hml hv
  obtain ⟨rfl, ⟨hK, hN⟩, hI, co_a0, c_fr⟩ := hv
  have hx := B.exec
  have hb := B.bytes
  have hr := B.returns
  have hts := atoms_spec (ws := wsX0_lastCut) B.pre
  have hown : s.vm.findClass RX0 = some m.cls := findClass_of_methodNamed B.named
  have hL23 := hts (.fieldLink RX0 23 "JoinBench$Chain" "size" "I") (by decide +kernel)
  have hinX0 : ∀ w ∈ u_ws RX0 TX0 3, w ∈ wsX0_lastCut := by decide +kernel
  have k_fr := kq25 hI g_rules_a0 c_fr
  have hl := lv_entry ([.ref a0]) (n := 1) (Nat.le_of_ble_eq_true rfl)
  rw [lg_entry_eq]
  generalize (lg_sl ([.ref a0]) ++ List.replicate (1 - (lg_sl ([.ref a0])).length) Slot.unset).toArray = ls at hl ⊢
  have hl : lv_has ls 1 [(0, .ref a0)] := hl
  refine lv_aload_n hx hb dX0_lastCut_0 rfl (lv_at hl 0 rfl) ?_
  refine lv_aload_n hx hb dX0_lastCut_1 rfl (lv_at hl 0 rfl) ?_
  refine iz_get (D := (dC, dI)) (ci := 0) (v := .int (kz size_a0)) (C := RX0) (T := TX0) (N := 3) hx hb hts hinX0 hown hK co_a0 rfl 2 (by decide) hL23 (fun _ h9 => h9) rfl dX0_lastCut_2 ?_
  refine lv_iconst (v := kz 1) hx hb dX0_lastCut_5 rfl ?_
  refine iz_isub hx hb dX0_lastCut_6 ?_
  refine vp_callSi (va_Run.run (va_runV (As := [.int (kz (size_a0 - 1))]) (rest := []) ⟨hx, hb, hml, hown, hts⟩ (c_cutAtBeginningX l dC dI ca A X hU a0 (size_a0 - 1) id forms_a0 rules_a0 size_a0 fr g_a0 g_forms_a0 g_rules_a0 (by omega) (by omega) (by omega)) (cwV 1 hts gX0_lastCut_X0_cutAtBeginning rfl rfl rfl (by decide +kernel) ⟨Nat.le_of_ble_eq_true rfl, Nat.le_of_ble_eq_true rfl⟩) ⟨fun a U g mk q => by obtain ⟨q0, ⟨qK, qN⟩, qI⟩ := q; exact ⟨q0, ⟨va_K.moved (u := U) (U := U.calling g mk a) (Vm.Alike.refl U.vm) qK, jN_same (U := U.calling g mk a) rfl qN⟩, qI⟩, va_recv hK (at_P co_a0) (ci := 0) (q0 := 0) rfl rfl, fun U hU hW => ⟨rfl, jK_warm hW ⟨hK, hN⟩, by rw [hU]; exact ⟨hI, co_a0, c_fr⟩⟩⟩ rfl rfl hl.1 rfl (lv_room (Nat.le_of_ble_eq_true rfl)) dX0_lastCut_7 ⟨Nat.le_of_ble_eq_true rfl, Nat.le_of_ble_eq_true rfl⟩)) (fun r_2 hw_1 => ?_)
  obtain ⟨z_3, rfl, z_3h, z_3x⟩ := hw_1
  exact W.iret (v := kz z_3) hx hb hr (fun t9 ht hW => ⟨kz z_3, rfl, ⟨z_3, rfl, by omega, z_3x⟩, ht⟩) (fun q h => absurd h List.not_mem_nil) dX0_lastCut_10
set_option maxHeartbeats 4000000 in
set_option maxRecDepth 100000 in
/-- X9_formAt -/
theorem c_tgFormAtX (l : Launch) (dC : Nat → ClassId) (dI : Nat → Nat → Nat) (ca : Nat → ClassId) (A : Nat → Prop) (X : jG) (hU : jU X) (a0 : Nat) (k : Int) (forms_a0 : Nat) (rules_a0 : Nat) (formCount_a0 : Int) (ruleCount_a0 : Int) (forbidden_a0 : Nat) (tf : Nat → Option Nat) (g_a0 : X.1 a0 = (9, 30, 0, 0, 0)) (g_forms_a0 : X.1 forms_a0 = (212, 24, 40, 2, 0)) (g_rules_a0 : X.1 rules_a0 = (213, 29, 24, 7, 0)) (formCount_a0i : 0 ≤ formCount_a0 ∧ formCount_a0 ≤ 40) (ruleCount_a0i : 0 ≤ ruleCount_a0 ∧ ruleCount_a0 ≤ 24) (g_forbidden_a0 : X.1 forbidden_a0 = (214, 22, 36, 0, 0)) (x_a0_0 : formCount_a0 ≤ (X.2.1 forms_a0 : Int)) (x_a0_1 : ruleCount_a0 ≤ (X.2.1 rules_a0 : Int)) (x_a0_2 : ruleCount_a0 = (X.2.2.2 : Int)) (kr : -2147483648 ≤ k ∧ k ≤ 2147483647) : Met l yX9_formAt wsX9_formAt ({ frames := 0, cells := 0, slots := 0, locals := 0 }) (va_Pc [.ref a0, .int (kz k)] (fun U => jK (dC, dI) ca U ∧ jv (dC, dI) ca A X U.heap ∧ va_at (dC, dI) vwCl (a0, .inr (9, [.ref forms_a0, .ref rules_a0, .int (kz formCount_a0), .int (kz ruleCount_a0), .ref forbidden_a0])) U.heap ∧ va_at (dC, dI) vwCl (forms_a0, je_q ca 40 24 tf) U.heap)) (va_Sq (fun r => (∀ b9 : Nat, r = some b9 → X.1 b9 = (2, 30, 0, 0, 0)) ∧ r = (if 0 ≤ k ∧ k < formCount_a0 then tf (Int.toNat k) else none))) 0 0 (fun _ => False) := by
  refine Met.ofW (cc := cX9_formAt) (maxL := 2) (ret := (some (.object "JoinBench$Form"))) (by decide) rfl ?_
  intro p e s m args below meth c s₁ B hml hv
  obtain ⟨rfl, ⟨hK, hN⟩, hI, co_a0, c_tf⟩ := hv
  have hx := B.exec
  have hb := B.bytes
  have hr := B.returns
  have hts := atoms_spec (ws := wsX9_formAt) B.pre
  have hown : s.vm.findClass RX9 = some m.cls := findClass_of_methodNamed B.named
  have hL23 := hts (.fieldLink RX9 23 "JoinBench$Tongue" "formCount" "I") (by decide +kernel)
  have hL11 := hts (.fieldLink RX9 11 "JoinBench$Tongue" "forms" "[LJoinBench$Form;") (by decide +kernel)
  have hinX9 : ∀ w ∈ u_ws RX9 TX9 5, w ∈ wsX9_formAt := by decide +kernel
  have k_tf := kq24 hI g_forms_a0 c_tf
  have hl := lv_entry ([.ref a0, .int (kz k)]) (n := 2) (Nat.le_of_ble_eq_true rfl)
  rw [lg_entry_eq]
  generalize (lg_sl ([.ref a0, .int (kz k)]) ++ List.replicate (2 - (lg_sl ([.ref a0, .int (kz k)])).length) Slot.unset).toArray = ls at hl ⊢
  have hl : lv_has ls 2 [(0, .ref a0), (1, .int (kz k))] := hl
  refine lv_iload_n hx hb dX9_formAt_0 rfl (lv_at hl 1 rfl) ?_
  refine iz_ltz (tgt := 21) hx hb dX9_formAt_1 (by decide) (by unfold rg2; omega) (fun br_1 => ?_) (fun br_1 => ?_)
  · refine lv_null hx hb dX9_formAt_21 ?_
    exact W.aret (v := .null) hx hb hr (Or.inl ⟨_, rfl⟩) (Or.inl rfl) (fun t9 ht hW => ⟨none, rfl, ⟨(fun b9 q9 => by cases q9), by rw [if_neg (by omega)]⟩, ht⟩) (fun q h => absurd h List.not_mem_nil) dX9_formAt_22
  · refine lv_iload_n hx hb dX9_formAt_4 rfl (lv_at hl 1 rfl) ?_
    refine lv_aload_n hx hb dX9_formAt_5 rfl (lv_at hl 0 rfl) ?_
    refine iz_get (D := (dC, dI)) (ci := 9) (v := .int (kz formCount_a0)) (C := RX9) (T := TX9) (N := 5) hx hb hts hinX9 hown hK co_a0 rfl 2 (by decide) hL23 (fun _ h9 => h9) rfl dX9_formAt_6 ?_
    refine iz_ge (tgt := 21) hx hb dX9_formAt_9 (by decide) (by unfold rg2; omega) (fun br_2 => ?_) (fun br_2 => ?_)
    · refine lv_null hx hb dX9_formAt_21 ?_
      exact W.aret (v := .null) hx hb hr (Or.inl ⟨_, rfl⟩) (Or.inl rfl) (fun t9 ht hW => ⟨none, rfl, ⟨(fun b9 q9 => by cases q9), by rw [if_neg (by omega)]⟩, ht⟩) (fun q h => absurd h List.not_mem_nil) dX9_formAt_22
    · refine lv_aload_n hx hb dX9_formAt_12 rfl (lv_at hl 0 rfl) ?_
      refine iz_get (D := (dC, dI)) (ci := 9) (v := .ref forms_a0) (C := RX9) (T := TX9) (N := 5) hx hb hts hinX9 hown hK co_a0 rfl 0 (by decide) hL11 (fun _ h9 => h9) rfl dX9_formAt_13 ?_
      refine lv_iload_n hx hb dX9_formAt_16 rfl (lv_at hl 1 rfl) ?_
      refine jz_aald hx hb hK 4 c_tf rfl rfl (by omega) (by decide) dX9_formAt_17 ?_
      obtain ⟨b_3, eb_3⟩ : ∃ b9 : Nat, tf (Int.toNat k) = some b9 := Option.ne_none_iff_exists'.mp ((k_tf (Int.toNat k) (by omega)).2 (by omega))
      have g_b_3 := (k_tf (Int.toNat k) (by omega)).1 b_3 eb_3
      rw [eb_3]
      refine W.eq (g2 := F0 m 18 ls [.ref b_3]) rfl ?_
      refine lv_goto (tgt := 22) hx hb dX9_formAt_18 (by decide) ?_
      exact W.aret (v := .ref b_3) hx hb hr (Or.inl ⟨_, rfl⟩) (Or.inr ⟨_, rfl⟩) (fun t9 ht hW => ⟨some b_3, rfl, ⟨(fun b9 q9 => by cases q9; exact g_b_3), by rw [if_pos (by omega)]; first | done | exact eb_3.symm⟩, ht⟩) (fun q h => absurd h List.not_mem_nil) dX9_formAt_22
set_option maxHeartbeats 4000000 in
set_option maxRecDepth 100000 in
/-- X9_ruleAt -/
theorem c_ruleAtX (l : Launch) (dC : Nat → ClassId) (dI : Nat → Nat → Nat) (ca : Nat → ClassId) (A : Nat → Prop) (X : jG) (hU : jU X) (a0 : Nat) (k : Int) (g_a0 : X.1 a0 = (9, 30, 0, 0, 0)) (kr : -2147483648 ≤ k ∧ k ≤ 2147483647) : Met l yX9_ruleAt wsX9_ruleAt ({ frames := 0, cells := 0, slots := 0, locals := 0 }) (va_Pc [.ref a0, .int (kz k)] (fun U => jK (dC, dI) ca U ∧ jv (dC, dI) ca A X U.heap)) (va_Sq (fun r => (∀ b9 : Nat, r = some b9 → X.1 b9 = (7, 30, Int.toNat k, 0, 0) ∧ 0 ≤ k ∧ k < (X.2.2.2 : Int)) ∧ (r = none → ¬ (0 ≤ k ∧ k < (X.2.2.2 : Int))))) 0 0 (fun _ => False) := by
  refine Met.ofW (cc := cX9_ruleAt) (maxL := 2) (ret := (some (.object "JoinBench$Rule"))) (by decide) rfl ?_
  intro p e s m args below meth c s₁ B hml hv
  obtain ⟨rfl, ⟨hK, hN⟩, hI⟩ := hv
  have hx := B.exec
  have hb := B.bytes
  have hr := B.returns
  have hts := atoms_spec (ws := wsX9_ruleAt) B.pre
  have hown : s.vm.findClass RX9 = some m.cls := findClass_of_methodNamed B.named
  have hL27 := hts (.fieldLink RX9 27 "JoinBench$Tongue" "ruleCount" "I") (by decide +kernel)
  have hL19 := hts (.fieldLink RX9 19 "JoinBench$Tongue" "rules" "[LJoinBench$Rule;") (by decide +kernel)
  have hinX9 : ∀ w ∈ u_ws RX9 TX9 5, w ∈ wsX9_ruleAt := by decide +kernel
  have hl := lv_entry ([.ref a0, .int (kz k)]) (n := 2) (Nat.le_of_ble_eq_true rfl)
  rw [lg_entry_eq]
  generalize (lg_sl ([.ref a0, .int (kz k)]) ++ List.replicate (2 - (lg_sl ([.ref a0, .int (kz k)])).length) Slot.unset).toArray = ls at hl ⊢
  have hl : lv_has ls 2 [(0, .ref a0), (1, .int (kz k))] := hl
  refine lv_iload_n hx hb dX9_ruleAt_0 rfl (lv_at hl 1 rfl) ?_
  refine iz_ltz (tgt := 21) hx hb dX9_ruleAt_1 (by decide) (by unfold rg2; omega) (fun br_1 => ?_) (fun br_1 => ?_)
  · refine lv_null hx hb dX9_ruleAt_21 ?_
    exact W.aret (v := .null) hx hb hr (Or.inl ⟨_, rfl⟩) (Or.inl rfl) (fun t9 ht hW => ⟨none, rfl, ⟨fun b9 q9 => (by cases q9), fun _ => (by omega)⟩, ht⟩) (fun q h => absurd h List.not_mem_nil) dX9_ruleAt_22
  · refine lv_iload_n hx hb dX9_ruleAt_4 rfl (lv_at hl 1 rfl) ?_
    refine lv_aload_n hx hb dX9_ruleAt_5 rfl (lv_at hl 0 rfl) ?_
    obtain ⟨fs9, co_2, jo9⟩ := jv_o9 hI g_a0
    obtain ⟨forms_2, rules_2, formCount_2, ruleCount_2, forbidden_2, rfl, g_forms_2, g_rules_2, ⟨formCount_2a, formCount_2b⟩, ⟨ruleCount_2a, ruleCount_2b⟩, g_forbidden_2, x_2_0, x_2_1, x_2_2⟩ := jo9
    refine iz_get (D := (dC, dI)) (ci := 9) (v := .int (kz ruleCount_2)) (C := RX9) (T := TX9) (N := 5) hx hb hts hinX9 hown hK co_2 rfl 3 (by decide) hL27 (fun _ h9 => h9) rfl dX9_ruleAt_6 ?_
    refine iz_ge (tgt := 21) hx hb dX9_ruleAt_9 (by decide) (by unfold rg2; omega) (fun br_3 => ?_) (fun br_3 => ?_)
    · refine lv_null hx hb dX9_ruleAt_21 ?_
      exact W.aret (v := .null) hx hb hr (Or.inl ⟨_, rfl⟩) (Or.inl rfl) (fun t9 ht hW => ⟨none, rfl, ⟨fun b9 q9 => (by cases q9), fun _ => (by omega)⟩, ht⟩) (fun q h => absurd h List.not_mem_nil) dX9_ruleAt_22
    · refine lv_aload_n hx hb dX9_ruleAt_12 rfl (lv_at hl 0 rfl) ?_
      refine iz_get (D := (dC, dI)) (ci := 9) (v := .ref rules_2) (C := RX9) (T := TX9) (N := 5) hx hb hts hinX9 hown hK co_2 rfl 1 (by decide) hL19 (fun _ h9 => h9) rfl dX9_ruleAt_13 ?_
      refine lv_iload_n hx hb dX9_ruleAt_16 rfl (lv_at hl 1 rfl) ?_
      obtain ⟨f_4, c_f_4, k_f_4⟩ := jv_q29 hI g_rules_2
      refine jz_aald hx hb hK 5 c_f_4 rfl rfl (by omega) (by decide) dX9_ruleAt_17 ?_
      obtain ⟨b_5, eb_5⟩ : ∃ b9 : Nat, f_4 (Int.toNat k) = some b9 := Option.ne_none_iff_exists'.mp ((k_f_4 (Int.toNat k) (by omega)).2 (by omega))
      have g_b_5 := (k_f_4 (Int.toNat k) (by omega)).1 b_5 eb_5
      rw [eb_5]
      refine W.eq (g2 := F0 m 18 ls [.ref b_5]) rfl ?_
      refine lv_goto (tgt := 22) hx hb dX9_ruleAt_18 (by decide) ?_
      exact W.aret (v := .ref b_5) hx hb hr (Or.inl ⟨_, rfl⟩) (Or.inr ⟨_, rfl⟩) (fun t9 ht hW => ⟨some b_5, rfl, ⟨fun b9 q9 => (by cases q9; exact ⟨g_b_5, by omega, by omega⟩), fun q9 => (by cases q9)⟩, ht⟩) (fun q h => absurd h List.not_mem_nil) dX9_ruleAt_22
set_option maxHeartbeats 4000000 in
set_option maxRecDepth 100000 in
/-- X4_keyForm -/
theorem c_keyForm (l : Launch) (k : Int) (kr : -2147483648 ≤ k ∧ k ≤ 2147483647) : Met l yX4_keyForm wsX4_keyForm ({ frames := 0, cells := 0, slots := 0, locals := 0 }) (va_Pc [.int (kz k)] (fun U => True)) (vp_Si (fun r => ∃ z : Int, r = kz z ∧ z = k % 64)) 0 0 (fun _ => False) := by
  refine Met.ofW (cc := cX4_keyForm) (maxL := 1) (ret := (some .int)) (by decide) rfl ?_
  intro p e s m args below meth c s₁ B hml hv
  obtain ⟨rfl, -⟩ := hv
  have hx := B.exec
  have hb := B.bytes
  have hr := B.returns
  have hts := atoms_spec (ws := wsX4_keyForm) B.pre
  have hown : s.vm.findClass RX4 = some m.cls := findClass_of_methodNamed B.named
  have hl := lv_entry ([.int (kz k)]) (n := 1) (Nat.le_of_ble_eq_true rfl)
  rw [lg_entry_eq]
  generalize (lg_sl ([.int (kz k)]) ++ List.replicate (1 - (lg_sl ([.int (kz k)])).length) Slot.unset).toArray = ls at hl ⊢
  have hl : lv_has ls 1 [(0, .int (kz k))] := hl
  refine lv_iload_n hx hb dX4_keyForm_0 rfl (lv_at hl 0 rfl) ?_
  refine lv_bipush (v := kz 63) hx hb dX4_keyForm_1 (by decide) ?_
  refine iz_iand hx hb dX4_keyForm_3 (by decide) (fun z_1 z_1a z_1b z_1e => ?_)
  exact W.iret (v := kz z_1) hx hb hr (fun t9 ht hW => ⟨kz z_1, rfl, ⟨z_1, rfl, by have h9 := and_mod (k := 6) (by decide) (by decide) z_1e (by omega); omega⟩, ht⟩) (fun q h => absurd h List.not_mem_nil) dX4_keyForm_4
set_option maxHeartbeats 4000000 in
set_option maxRecDepth 100000 in
/-- X4_allEnded -/
theorem c_allEnded (l : Launch) (dC : Nat → ClassId) (dI : Nat → Nat → Nat) (ca : Nat → ClassId) (A : Nat → Prop) (X : jG) (hU : jU X) (a0 : Nat) (g_a0 : X.1 a0 = (4, 30, 0, 0, 0)) : Met l yX4_allEnded wsX4_allEnded ({ frames := 0, cells := 0, slots := 0, locals := 0 }) (va_Pc [.ref a0] (fun U => jK (dC, dI) ca U ∧ jv (dC, dI) ca A X U.heap)) (vp_Si (fun r => r = kz 1 ∨ r = kz 0)) 0 0 (fun _ => False) := by
  refine Met.ofW (cc := cX4_allEnded) (maxL := 2) (ret := (some .boolean)) (by decide) rfl ?_
  intro p e s m args below meth c s₁ B hml hv
  obtain ⟨rfl, ⟨hK, hN⟩, hI⟩ := hv
  have hx := B.exec
  have hb := B.bytes
  have hr := B.returns
  have hts := atoms_spec (ws := wsX4_allEnded) B.pre
  have hown : s.vm.findClass RX4 = some m.cls := findClass_of_methodNamed B.named
  have hL28 := hts (.fieldLink RX4 28 "JoinBench$Parter" "toldCount" "I") (by decide +kernel)
  have hL24 := hts (.fieldLink RX4 24 "JoinBench$Parter" "told" "[LJoinBench$Path;") (by decide +kernel)
  have hL82 := hts (.fieldLink RX4 82 "JoinBench$Path" "ended" "Z") (by decide +kernel)
  have hinX4 : ∀ w ∈ u_ws RX4 TX4 10, w ∈ wsX4_allEnded := by decide +kernel
  have hinX5 : ∀ w ∈ u_ws RX5 TX5 6, w ∈ wsX4_allEnded := by decide +kernel
  have hl := lv_entry ([.ref a0]) (n := 2) (Nat.le_of_ble_eq_true rfl)
  rw [lg_entry_eq]
  generalize (lg_sl ([.ref a0]) ++ List.replicate (2 - (lg_sl ([.ref a0])).length) Slot.unset).toArray = ls at hl ⊢
  have hl : lv_has ls 2 [(0, .ref a0)] := hl
  refine lv_iconst (v := kz 0) hx hb dX4_allEnded_0 rfl ?_
  refine lv_istore_n (lv' := [(1, .int (kz 0)), (0, .ref a0)]) hx hb dX4_allEnded_1 rfl hl (by decide) rfl (fun ls hl => ?_)
  refine iz_loopS1 (P := fun N9 k ls => (0 ≤ k) ∧ (k ≤ 8) ∧ 8 - k ≤ (N9 : Int) ∧ lv_has ls 2 [(1, .int (kz k)), (0, .ref a0)]) 100000 (x0 := 0) ?_ ⟨by omega, by omega, by omega, lv_sub hl [0, 1] rfl⟩
  intro n_1 k ls ⟨n_1f0, n_1f1, n_1f2, hl⟩ ihn_1
  refine lv_iload_n hx hb dX4_allEnded_2 rfl (lv_at hl 0 rfl) ?_
  refine lv_aload_n hx hb dX4_allEnded_3 rfl (lv_at hl 1 rfl) ?_
  obtain ⟨fs9, co_2, jo9⟩ := jv_o4 hI g_a0
  obtain ⟨pp_2, countedUncut_2, counted_2, left_2, told_2, toldCount_2, grown_2, keys_2, keyCount_2, tongue_2, lattice_2, rfl, ⟨left_2a, left_2b⟩, g_told_2, ⟨toldCount_2a, toldCount_2b⟩, g_grown_2, g_keys_2, ⟨keyCount_2a, keyCount_2b⟩, g_tongue_2, g_lattice_2, x_2_0, x_2_1⟩ := jo9
  refine iz_get (D := (dC, dI)) (ci := 4) (v := .int (kz toldCount_2)) (C := RX4) (T := TX4) (N := 10) hx hb hts hinX4 hown hK co_2 rfl 4 (by decide) hL28 (fun _ h9 => h9) rfl dX4_allEnded_4 ?_
  refine iz_ge (tgt := 30) hx hb dX4_allEnded_7 (by decide) (by unfold rg2; omega) (fun br_3 => ?_) (fun br_3 => ?_)
  · refine lv_iconst (v := kz 1) hx hb dX4_allEnded_30 rfl ?_
    exact W.zret (v := kz 1) hx hb hr (by decide) (fun t9 ht hW => ⟨kz 1, rfl, Or.inl rfl, ht⟩) (fun q h => absurd h List.not_mem_nil) dX4_allEnded_31
  · refine lv_aload_n hx hb dX4_allEnded_10 rfl (lv_at hl 1 rfl) ?_
    refine iz_get (D := (dC, dI)) (ci := 4) (v := .ref told_2) (C := RX4) (T := TX4) (N := 10) hx hb hts hinX4 hown hK co_2 rfl 3 (by decide) hL24 (fun _ h9 => h9) rfl dX4_allEnded_11 ?_
    refine lv_iload_n hx hb dX4_allEnded_14 rfl (lv_at hl 0 rfl) ?_
    obtain ⟨f_4, c_f_4, k_f_4⟩ := jv_q26 hI g_told_2
    refine jz_aald hx hb hK 6 c_f_4 rfl rfl (by omega) (by decide) dX4_allEnded_15 ?_
    obtain ⟨b_5, eb_5, g_b_5⟩ := k_f_4 (Int.toNat k) (by omega)
    rw [eb_5]
    refine W.eq (g2 := F0 m 16 ls [.ref b_5]) rfl ?_
    obtain ⟨fs9, co_6, jo9⟩ := jv_o5 hI g_b_5
    obtain ⟨chain_6, cost_6, spent_6, place_6, ended_6, rank_6, rfl, g_chain_6, ⟨cost_6a, cost_6b⟩, ⟨spent_6a, spent_6b⟩, ⟨place_6a, place_6b⟩, ⟨ended_6a, ended_6b⟩, ⟨rank_6a, rank_6b⟩⟩ := jo9
    refine iz_get (D := (dC, dI)) (ci := 5) (v := .int (kz ended_6)) (C := RX5) (T := TX5) (N := 6) hx hb hts hinX5 hown hK co_6 rfl 4 (by decide) hL82 (fun _ h9 => h9) rfl dX4_allEnded_16 ?_
    refine iz_nez (tgt := 24) hx hb dX4_allEnded_19 (by decide) (by unfold rg2; omega) (fun br_7 => ?_) (fun br_7 => ?_)
    · refine lv_iinc (v := kz (k + 1)) (lv' := [(1, .int (kz (k + 1))), (0, .ref a0)]) hx hb dX4_allEnded_24 hl (k := 0) rfl (kz_add k 1) (by decide) rfl (fun ls hl => ?_)
      refine lv_goto (tgt := 2) hx hb dX4_allEnded_27 (by decide) ?_
      exact ihn_1 (n_1 - 1) (by omega) (k + 1) _ ⟨by omega, by omega, by omega, lv_sub hl [0, 1] rfl⟩
    · refine lv_iconst (v := kz 0) hx hb dX4_allEnded_22 rfl ?_
      exact W.zret (v := kz 0) hx hb hr (by decide) (fun t9 ht hW => ⟨kz 0, rfl, Or.inr rfl, ht⟩) (fun q h => absurd h List.not_mem_nil) dX4_allEnded_23
set_option maxHeartbeats 4000000 in
set_option maxRecDepth 100000 in
/-- X4_countLine -/
theorem c_countLine (l : Launch) (dC : Nat → ClassId) (dI : Nat → Nat → Nat) (ca : Nat → ClassId) (A : Nat → Prop) (X : jG) (hU : jU X) (Hp : Heap) (a0 : Nat) (lt : Nat) (n1 : Int) (day : Int) (g_a0 : X.1 a0 = (4, 30, 0, 0, 0)) (g_lt : X.1 lt = (200, 21, 60, 0, 0)) (n1i : 0 ≤ n1 ∧ n1 ≤ 60) (dayr : -2147483648 ≤ day ∧ day ≤ 2147483647) : Met l yX4_countLine wsX4_countLine ({ frames := 6, cells := 0, slots := 0, locals := 141 }) (va_Pc [.ref a0, .ref lt, .int (kz n1), .int (kz day)] (fun U => U.heap = Hp ∧ jK (dC, dI) ca U ∧ jv (dC, dI) ca A X U.heap)) (va_Qv (fun (u : Unit) => True) (fun u U => jK (dC, dI) ca U ∧ jv (dC, dI) ca A X U.heap ∧ kfm X [3, 4, 204, 220, 225, 232, 233, 234, 235, 236] Hp U.heap) A) 0 0 A := by
  refine Met.ofW (cc := cX4_countLine) (maxL := 4) (ret := none) (by decide) rfl ?_
  intro p e s m args below meth c s₁ B hml hv
  obtain ⟨rfl, hHp, ⟨hK, hN⟩, hI⟩ := hv
  have hx := B.exec
  have hb := B.bytes
  have hr := B.returns
  have hts := atoms_spec (ws := wsX4_countLine) B.pre
  have hown : s.vm.findClass RX4 = some m.cls := findClass_of_methodNamed B.named
  have hL51 := hts (.fieldLink RX4 51 "JoinBench$Parter" "lattice" "LJoinBench$Lattice;") (by decide +kernel)
  have hL11 := hts (.fieldLink RX4 11 "JoinBench$Parter" "countedUncut" "J") (by decide +kernel)
  have hL15 := hts (.fieldLink RX4 15 "JoinBench$Parter" "counted" "J") (by decide +kernel)
  have hL18 := hts (.fieldLink RX4 18 "JoinBench$Parter" "left" "Z") (by decide +kernel)
  have hL42 := hts (.fieldLink RX4 42 "JoinBench$Parter" "tongue" "LJoinBench$Tongue;") (by decide +kernel)
  have hinX4 : ∀ w ∈ u_ws RX4 TX4 10, w ∈ wsX4_countLine := by decide +kernel
  obtain ⟨H, hH⟩ : ∃ H : Heap, H = s.heap := ⟨_, rfl⟩
  have hS : va_S A s.heap H [] := by rw [hH]; exact va_S.rf
  have hF : kfm X [3, 4, 204, 220, 225, 232, 233, 234, 235, 236] Hp H := by rw [hH, hHp]; exact fm_rf _ _ _
  rw [← hH] at hI ⊢
  clear hH
  have hl := lv_entry ([.ref a0, .ref lt, .int (kz n1), .int (kz day)]) (n := 4) (Nat.le_of_ble_eq_true rfl)
  rw [lg_entry_eq]
  generalize (lg_sl ([.ref a0, .ref lt, .int (kz n1), .int (kz day)]) ++ List.replicate (4 - (lg_sl ([.ref a0, .ref lt, .int (kz n1), .int (kz day)])).length) Slot.unset).toArray = ls at hl ⊢
  have hl : lv_has ls 4 [(0, .ref a0), (1, .ref lt), (2, .int (kz n1)), (3, .int (kz day))] := hl
  refine lv_aload_n hx hb dX4_countLine_0 rfl (lv_at hl 0 rfl) ?_
  obtain ⟨fs9, co_1, jo9⟩ := jv_o4 hI g_a0
  obtain ⟨pp_1, countedUncut_1, counted_1, left_1, told_1, toldCount_1, grown_1, keys_1, keyCount_1, tongue_1, lattice_1, rfl, ⟨left_1a, left_1b⟩, g_told_1, ⟨toldCount_1a, toldCount_1b⟩, g_grown_1, g_keys_1, ⟨keyCount_1a, keyCount_1b⟩, g_tongue_1, g_lattice_1, x_1_0, x_1_1⟩ := jo9
  refine iz_get (D := (dC, dI)) (ci := 4) (v := .ref lattice_1) (C := RX4) (T := TX4) (N := 10) hx hb hts hinX4 hown hK co_1 rfl 9 (by decide) hL51 (fun _ h9 => h9) rfl dX4_countLine_1 ?_
  refine lv_aload_n hx hb dX4_countLine_4 rfl (lv_at hl 1 rfl) ?_
  refine lv_iload_n hx hb dX4_countLine_5 rfl (lv_at hl 2 rfl) ?_
  refine lv_iload_n hx hb dX4_countLine_6 rfl (lv_at hl 3 rfl) ?_
  obtain ⟨fs9, co_2, jo9⟩ := jv_o3 hI g_lattice_1
  obtain ⟨cheapest_2, size_2, tongue_2, line_2, ways_2, plainWays_2, plainCheapest_2, ruledWays_2, ruledCheapest_2, inForce_2, barred_2, rfl, g_cheapest_2, ⟨size_2a, size_2b⟩, g_tongue_2, g_line_2, g_ways_2, g_plainWays_2, g_plainCheapest_2, g_ruledWays_2, g_ruledCheapest_2, ⟨inForce_2a, inForce_2b⟩, g_barred_2⟩ := jo9
  have e9 : tongue_1 = tongue_2 := jU_eq hU g_tongue_1 g_tongue_2 (show (30 : Nat) ≠ 0 by decide) (show uq 9 = true by decide)
  subst e9
  refine va_callv (va_runV (As := [.ref lt, .int (kz n1), .int (kz day)]) (rest := []) ⟨hx, hb, hml, hown, hts⟩ (c_setLine l dC dI ca A X hU H lattice_1 lt n1 day g_lattice_1 g_lt (by omega) (by omega)) (cwV 3 hts gX4_countLine_X3_setLine rfl rfl rfl (by decide +kernel) ⟨Nat.le_of_ble_eq_true rfl, Nat.le_of_ble_eq_true rfl⟩) ⟨fun a U g mk q => by obtain ⟨q0, qH, ⟨qK, qN⟩, qI⟩ := q; exact ⟨q0, qH, ⟨va_K.moved (u := U) (U := U.calling g mk a) (Vm.Alike.refl U.vm) qK, jN_same (U := U.calling g mk a) rfl qN⟩, qI⟩, va_recv hK (at_P co_2) (ci := 3) (q0 := 0) rfl rfl, fun U hU hW => ⟨rfl, hU, jK_warm hW ⟨hK, hN⟩, by rw [hU]; exact hI⟩⟩ rfl rfl hl.1 rfl (lv_room (Nat.le_of_ble_eq_true rfl)) dX4_countLine_7 ⟨Nat.le_of_ble_eq_true rfl, Nat.le_of_ble_eq_true rfl⟩) hS (fun q _ h => h) (fun q h => h) (fun u t9 H locs ht hvm hw_3 hB hz1 hk1 hS => ?_)
  obtain ⟨-, hI, hf9⟩ := hB
  rw [ht] at hI hf9
  clear ht hvm hz1
  have co_1 := fm_at hf9 g_a0 (show (4 : Nat) ∉ ([3, 204] : List Nat) by decide) co_1
  have hF := fm_tr hF hf9 (by decide)
  clear hk1 hf9
  refine lv_aload_n hx hb dX4_countLine_10 rfl (lv_at hl 0 rfl) ?_
  refine lv_aload_n hx hb dX4_countLine_11 rfl (lv_at hl 0 rfl) ?_
  refine iz_get (D := (dC, dI)) (ci := 4) (v := .ref lattice_1) (C := RX4) (T := TX4) (N := 10) hx hb hts hinX4 hown hK co_1 rfl 9 (by decide) hL51 (fun _ h9 => h9) rfl dX4_countLine_12 ?_
  refine lv_iconst (v := kz 0) hx hb dX4_countLine_15 rfl ?_
  obtain ⟨fs9, co_5, jo9⟩ := jv_o3 hI g_lattice_1
  obtain ⟨cheapest_5, size_5, tongue_5, line_5, ways_5, plainWays_5, plainCheapest_5, ruledWays_5, ruledCheapest_5, inForce_5, barred_5, rfl, g_cheapest_5, ⟨size_5a, size_5b⟩, g_tongue_5, g_line_5, g_ways_5, g_plainWays_5, g_plainCheapest_5, g_ruledWays_5, g_ruledCheapest_5, ⟨inForce_5a, inForce_5b⟩, g_barred_5⟩ := jo9
  have e9 : cheapest_2 = cheapest_5 := jU_eq hU g_cheapest_2 g_cheapest_5 (show (27 : Nat) ≠ 0 by decide) (show uq 219 = true by decide)
  subst e9
  have e9 : tongue_1 = tongue_5 := jU_eq hU g_tongue_1 g_tongue_5 (show (30 : Nat) ≠ 0 by decide) (show uq 9 = true by decide)
  subst e9
  have e9 : line_2 = line_5 := jU_eq hU g_line_2 g_line_5 (show (21 : Nat) ≠ 0 by decide) (show uq 204 = true by decide)
  subst e9
  have e9 : ways_2 = ways_5 := jU_eq hU g_ways_2 g_ways_5 (show (23 : Nat) ≠ 0 by decide) (show uq 220 = true by decide)
  subst e9
  have e9 : plainWays_2 = plainWays_5 := jU_eq hU g_plainWays_2 g_plainWays_5 (show (28 : Nat) ≠ 0 by decide) (show uq 221 = true by decide)
  subst e9
  have e9 : plainCheapest_2 = plainCheapest_5 := jU_eq hU g_plainCheapest_2 g_plainCheapest_5 (show (27 : Nat) ≠ 0 by decide) (show uq 222 = true by decide)
  subst e9
  have e9 : ruledWays_2 = ruledWays_5 := jU_eq hU g_ruledWays_2 g_ruledWays_5 (show (28 : Nat) ≠ 0 by decide) (show uq 223 = true by decide)
  subst e9
  have e9 : ruledCheapest_2 = ruledCheapest_5 := jU_eq hU g_ruledCheapest_2 g_ruledCheapest_5 (show (27 : Nat) ≠ 0 by decide) (show uq 224 = true by decide)
  subst e9
  have e9 : barred_2 = barred_5 := jU_eq hU g_barred_2 g_barred_5 (show (22 : Nat) ≠ 0 by decide) (show uq 225 = true by decide)
  subst e9
  refine va_calll (va_runV (As := [.int (kz 0)]) (rest := [.ref a0]) ⟨hx, hb, hml, hown, hts⟩ (c_fill l dC dI ca A X hU H lattice_1 0 g_lattice_1 (by omega)) (cwV 1 hts gX4_countLine_X3_fill rfl rfl rfl (by decide +kernel) ⟨Nat.le_of_ble_eq_true rfl, Nat.le_of_ble_eq_true rfl⟩) ⟨fun a U g mk q => by obtain ⟨q0, qH, ⟨qK, qN⟩, qI⟩ := q; exact ⟨q0, qH, ⟨va_K.moved (u := U) (U := U.calling g mk a) (Vm.Alike.refl U.vm) qK, jN_same (U := U.calling g mk a) rfl qN⟩, qI⟩, va_recv hK (at_P co_5) (ci := 3) (q0 := 0) rfl rfl, fun U hU hW => ⟨rfl, hU, jK_warm hW ⟨hK, hN⟩, by rw [hU]; exact hI⟩⟩ rfl rfl hl.1 rfl (lv_room (Nat.le_of_ble_eq_true rfl)) dX4_countLine_16 ⟨Nat.le_of_ble_eq_true rfl, Nat.le_of_ble_eq_true rfl⟩) hS (fun q _ h => h) (fun q h => h) (fun r_7 u t9 H locs ht hvm hw_6 hB hz1 hk1 hS => ?_)
  obtain ⟨-, hI, hf9⟩ := hB
  rw [ht] at hI hf9
  clear ht hvm hz1
  have co_1 := fm_at hf9 g_a0 (show (4 : Nat) ∉ ([220, 225, 232, 233, 234, 235, 236] : List Nat) by decide) co_1
  have co_5 := fm_at hf9 g_lattice_1 (show (3 : Nat) ∉ ([220, 225, 232, 233, 234, 235, 236] : List Nat) by decide) co_5
  have hF := fm_tr hF hf9 (by decide)
  clear hk1 hf9
  refine iz_put (D := (dC, dI)) (ci := 4) (v := .long r_7) (ty := .long) (C := RX4) (T := TX4) (N := 10) hx hb hts hinX4 tyX4 tyX4_ok nmX4 hown hK co_1 hS (jv_A hI g_a0 (show (30 : Nat) ≠ 0 by decide)) rfl 0 (by decide) hL11 (fun _ h9 => h9) rfl (by decide +kernel) rfl rfl (Nat.le_of_ble_eq_true rfl) dX4_countLine_19 (fun H locs c9 oq hS => ?_)
  have hI := jv_set hI c9 oq (by rw [g_a0]; exact jv_c4 ⟨pp_1, r_7, counted_1, left_1, told_1, toldCount_1, grown_1, keys_1, keyCount_1, tongue_1, lattice_1, rfl, ⟨by omega, by omega⟩, g_told_1, ⟨by omega, by omega⟩, g_grown_1, g_keys_1, ⟨by omega, by omega⟩, g_tongue_1, g_lattice_1, by omega, by omega⟩)
  have hF := fm_put hF g_a0 (show (4 : Nat) ∈ [3, 4, 204, 220, 225, 232, 233, 234, 235, 236] by decide) oq
  have co_5 := co_5.kept (oq _ (kn_ne g_lattice_1 g_a0 (show (3 : Nat) ≠ 4 by decide)))
  have co_1 := c9
  clear oq c9
  refine lv_aload_n hx hb dX4_countLine_22 rfl (lv_at hl 0 rfl) ?_
  refine lv_aload_n hx hb dX4_countLine_23 rfl (lv_at hl 0 rfl) ?_
  refine iz_get (D := (dC, dI)) (ci := 4) (v := .long r_7) (C := RX4) (T := TX4) (N := 10) hx hb hts hinX4 hown hK co_1 rfl 0 (by decide) hL11 (fun _ h9 => h9) rfl dX4_countLine_24 ?_
  refine iz_put (D := (dC, dI)) (ci := 4) (v := .long r_7) (ty := .long) (C := RX4) (T := TX4) (N := 10) hx hb hts hinX4 tyX4 tyX4_ok nmX4 hown hK co_1 hS (jv_A hI g_a0 (show (30 : Nat) ≠ 0 by decide)) rfl 1 (by decide) hL15 (fun _ h9 => h9) rfl (by decide +kernel) rfl rfl (Nat.le_of_ble_eq_true rfl) dX4_countLine_27 (fun H locs c9 oq hS => ?_)
  have hI := jv_set hI c9 oq (by rw [g_a0]; exact jv_c4 ⟨pp_1, r_7, r_7, left_1, told_1, toldCount_1, grown_1, keys_1, keyCount_1, tongue_1, lattice_1, rfl, ⟨by omega, by omega⟩, g_told_1, ⟨by omega, by omega⟩, g_grown_1, g_keys_1, ⟨by omega, by omega⟩, g_tongue_1, g_lattice_1, by omega, by omega⟩)
  have hF := fm_put hF g_a0 (show (4 : Nat) ∈ [3, 4, 204, 220, 225, 232, 233, 234, 235, 236] by decide) oq
  have co_5 := co_5.kept (oq _ (kn_ne g_lattice_1 g_a0 (show (3 : Nat) ≠ 4 by decide)))
  have co_1 := c9
  clear oq c9
  refine lv_aload_n hx hb dX4_countLine_30 rfl (lv_at hl 0 rfl) ?_
  refine lv_iconst (v := kz 0) hx hb dX4_countLine_31 rfl ?_
  refine iz_put (D := (dC, dI)) (ci := 4) (v := .int (kz 0)) (ty := .boolean) (C := RX4) (T := TX4) (N := 10) hx hb hts hinX4 tyX4 tyX4_ok nmX4 hown hK co_1 hS (jv_A hI g_a0 (show (30 : Nat) ≠ 0 by decide)) rfl 2 (by decide) hL18 (fun _ h9 => h9) rfl (by decide +kernel) (by decide) rfl (Nat.le_of_ble_eq_true rfl) dX4_countLine_32 (fun H locs c9 oq hS => ?_)
  have hI := jv_set hI c9 oq (by rw [g_a0]; exact jv_c4 ⟨pp_1, r_7, r_7, 0, told_1, toldCount_1, grown_1, keys_1, keyCount_1, tongue_1, lattice_1, rfl, ⟨by omega, by omega⟩, g_told_1, ⟨by omega, by omega⟩, g_grown_1, g_keys_1, ⟨by omega, by omega⟩, g_tongue_1, g_lattice_1, by omega, by omega⟩)
  have hF := fm_put hF g_a0 (show (4 : Nat) ∈ [3, 4, 204, 220, 225, 232, 233, 234, 235, 236] by decide) oq
  have co_5 := co_5.kept (oq _ (kn_ne g_lattice_1 g_a0 (show (3 : Nat) ≠ 4 by decide)))
  have co_1 := c9
  clear oq c9
  refine lv_aload_n hx hb dX4_countLine_35 rfl (lv_at hl 0 rfl) ?_
  refine iz_get (D := (dC, dI)) (ci := 4) (v := .long r_7) (C := RX4) (T := TX4) (N := 10) hx hb hts hinX4 hown hK co_1 rfl 0 (by decide) hL11 (fun _ h9 => h9) rfl dX4_countLine_36 ?_
  refine lv_lconst (v := 0) hx hb dX4_countLine_39 (by decide) ?_
  refine W.lcmp hx hb dX4_countLine_40 ?_
  refine iz_any (fun z_8 z_8a z_8b z_8e => ?_)
  refine iz_lez (tgt := 84) hx hb dX4_countLine_41 (by decide) (by unfold rg2; omega) (fun br_9 => ?_) (fun br_9 => ?_)
  · refine lv_aload_n hx hb dX4_countLine_84 rfl (lv_at hl 0 rfl) ?_
    refine iz_get (D := (dC, dI)) (ci := 4) (v := .int (kz 0)) (C := RX4) (T := TX4) (N := 10) hx hb hts hinX4 hown hK co_1 rfl 2 (by decide) hL18 (fun _ h9 => h9) rfl dX4_countLine_85 ?_
    refine iz_eqz (tgt := 103) hx hb dX4_countLine_88 (by decide) (by unfold rg2; omega) (fun _ => ?_) (fun q9 => absurd q9 (by decide))
    exact W.vret hx hb hr (fun t9 ht hW => ⟨⟨(), rfl, trivial, jK_warm hW ⟨hK, hN⟩, by rw [ht]; exact ⟨hI, hF⟩⟩, hS.F ht⟩) hS.2.2 dX4_countLine_103
  · refine lv_aload_n hx hb dX4_countLine_44 rfl (lv_at hl 0 rfl) ?_
    refine iz_get (D := (dC, dI)) (ci := 4) (v := .ref tongue_1) (C := RX4) (T := TX4) (N := 10) hx hb hts hinX4 hown hK co_1 rfl 8 (by decide) hL42 (fun _ h9 => h9) rfl dX4_countLine_45 ?_
    obtain ⟨fs9, co_10, jo9⟩ := jv_o9 hI g_tongue_1
    obtain ⟨forms_10, rules_10, formCount_10, ruleCount_10, forbidden_10, rfl, g_forms_10, g_rules_10, ⟨formCount_10a, formCount_10b⟩, ⟨ruleCount_10a, ruleCount_10b⟩, g_forbidden_10, x_10_0, x_10_1, x_10_2⟩ := jo9
    refine vp_callSi (va_Run.run (va_runV (As := []) (rest := []) ⟨hx, hb, hml, hown, hts⟩ (c_allMayMeet l dC dI ca A X hU tongue_1 g_tongue_1) (cwV 0 hts gX4_countLine_X9_allMayMeet rfl rfl rfl (by decide +kernel) ⟨Nat.le_of_ble_eq_true rfl, Nat.le_of_ble_eq_true rfl⟩) ⟨fun a U g mk q => by obtain ⟨q0, ⟨qK, qN⟩, qI⟩ := q; exact ⟨q0, ⟨va_K.moved (u := U) (U := U.calling g mk a) (Vm.Alike.refl U.vm) qK, jN_same (U := U.calling g mk a) rfl qN⟩, qI⟩, va_recv hK (at_P co_10) (ci := 9) (q0 := 0) rfl rfl, fun U hU hW => ⟨rfl, jK_warm hW ⟨hK, hN⟩, by rw [hU]; exact hI⟩⟩ rfl rfl hl.1 rfl (lv_room (Nat.le_of_ble_eq_true rfl)) dX4_countLine_48 ⟨Nat.le_of_ble_eq_true rfl, Nat.le_of_ble_eq_true rfl⟩)) (fun r_12 hw_11 => ?_)
    rcases hw_11 with rfl | rfl
    · refine iz_nez (tgt := 84) hx hb dX4_countLine_51 (by decide) (by unfold rg2; omega) (fun _ => ?_) (fun q9 => absurd q9 (by decide))
      refine lv_aload_n hx hb dX4_countLine_84 rfl (lv_at hl 0 rfl) ?_
      refine iz_get (D := (dC, dI)) (ci := 4) (v := .int (kz 0)) (C := RX4) (T := TX4) (N := 10) hx hb hts hinX4 hown hK co_1 rfl 2 (by decide) hL18 (fun _ h9 => h9) rfl dX4_countLine_85 ?_
      refine iz_eqz (tgt := 103) hx hb dX4_countLine_88 (by decide) (by unfold rg2; omega) (fun _ => ?_) (fun q9 => absurd q9 (by decide))
      exact W.vret hx hb hr (fun t9 ht hW => ⟨⟨(), rfl, trivial, jK_warm hW ⟨hK, hN⟩, by rw [ht]; exact ⟨hI, hF⟩⟩, hS.F ht⟩) hS.2.2 dX4_countLine_103
    · refine iz_nez (tgt := 84) hx hb dX4_countLine_51 (by decide) (by unfold rg2; omega) (fun q9 => absurd q9 (by decide)) (fun _ => ?_)
      refine lv_aload_n hx hb dX4_countLine_54 rfl (lv_at hl 0 rfl) ?_
      refine lv_aload_n hx hb dX4_countLine_55 rfl (lv_at hl 0 rfl) ?_
      refine iz_get (D := (dC, dI)) (ci := 4) (v := .ref lattice_1) (C := RX4) (T := TX4) (N := 10) hx hb hts hinX4 hown hK co_1 rfl 9 (by decide) hL51 (fun _ h9 => h9) rfl dX4_countLine_56 ?_
      refine lv_iconst (v := kz 1) hx hb dX4_countLine_59 rfl ?_
      refine va_calll (va_runV (As := [.int (kz 1)]) (rest := [.ref a0]) ⟨hx, hb, hml, hown, hts⟩ (c_fill l dC dI ca A X hU H lattice_1 1 g_lattice_1 (by omega)) (cwV 1 hts gX4_countLine_X3_fill rfl rfl rfl (by decide +kernel) ⟨Nat.le_of_ble_eq_true rfl, Nat.le_of_ble_eq_true rfl⟩) ⟨fun a U g mk q => by obtain ⟨q0, qH, ⟨qK, qN⟩, qI⟩ := q; exact ⟨q0, qH, ⟨va_K.moved (u := U) (U := U.calling g mk a) (Vm.Alike.refl U.vm) qK, jN_same (U := U.calling g mk a) rfl qN⟩, qI⟩, va_recv hK (at_P co_5) (ci := 3) (q0 := 0) rfl rfl, fun U hU hW => ⟨rfl, hU, jK_warm hW ⟨hK, hN⟩, by rw [hU]; exact hI⟩⟩ rfl rfl hl.1 rfl (lv_room (Nat.le_of_ble_eq_true rfl)) dX4_countLine_60 ⟨Nat.le_of_ble_eq_true rfl, Nat.le_of_ble_eq_true rfl⟩) hS (fun q _ h => h) (fun q h => h) (fun r_14 u t9 H locs ht hvm hw_13 hB hz1 hk1 hS => ?_)
      obtain ⟨-, hI, hf9⟩ := hB
      rw [ht] at hI hf9
      clear ht hvm hz1
      have co_1 := fm_at hf9 g_a0 (show (4 : Nat) ∉ ([220, 225, 232, 233, 234, 235, 236] : List Nat) by decide) co_1
      have co_5 := fm_at hf9 g_lattice_1 (show (3 : Nat) ∉ ([220, 225, 232, 233, 234, 235, 236] : List Nat) by decide) co_5
      have co_10 := fm_at hf9 g_tongue_1 (show (9 : Nat) ∉ ([220, 225, 232, 233, 234, 235, 236] : List Nat) by decide) co_10
      have hF := fm_tr hF hf9 (by decide)
      clear hk1 hf9
      refine iz_put (D := (dC, dI)) (ci := 4) (v := .long r_14) (ty := .long) (C := RX4) (T := TX4) (N := 10) hx hb hts hinX4 tyX4 tyX4_ok nmX4 hown hK co_1 hS (jv_A hI g_a0 (show (30 : Nat) ≠ 0 by decide)) rfl 1 (by decide) hL15 (fun _ h9 => h9) rfl (by decide +kernel) rfl rfl (Nat.le_of_ble_eq_true rfl) dX4_countLine_63 (fun H locs c9 oq hS => ?_)
      have hI := jv_set hI c9 oq (by rw [g_a0]; exact jv_c4 ⟨pp_1, r_7, r_14, 0, told_1, toldCount_1, grown_1, keys_1, keyCount_1, tongue_1, lattice_1, rfl, ⟨by omega, by omega⟩, g_told_1, ⟨by omega, by omega⟩, g_grown_1, g_keys_1, ⟨by omega, by omega⟩, g_tongue_1, g_lattice_1, by omega, by omega⟩)
      have hF := fm_put hF g_a0 (show (4 : Nat) ∈ [3, 4, 204, 220, 225, 232, 233, 234, 235, 236] by decide) oq
      have co_5 := co_5.kept (oq _ (kn_ne g_lattice_1 g_a0 (show (3 : Nat) ≠ 4 by decide)))
      have co_10 := co_10.kept (oq _ (kn_ne g_tongue_1 g_a0 (show (9 : Nat) ≠ 4 by decide)))
      have co_1 := c9
      clear oq c9
      refine lv_aload_n hx hb dX4_countLine_66 rfl (lv_at hl 0 rfl) ?_
      refine lv_aload_n hx hb dX4_countLine_67 rfl (lv_at hl 0 rfl) ?_
      refine iz_get (D := (dC, dI)) (ci := 4) (v := .long r_14) (C := RX4) (T := TX4) (N := 10) hx hb hts hinX4 hown hK co_1 rfl 1 (by decide) hL15 (fun _ h9 => h9) rfl dX4_countLine_68 ?_
      refine lv_lconst (v := 0) hx hb dX4_countLine_71 (by decide) ?_
      refine W.lcmp hx hb dX4_countLine_72 ?_
      refine iz_any (fun z_15 z_15a z_15b z_15e => ?_)
      refine iz_nez (tgt := 80) hx hb dX4_countLine_73 (by decide) (by unfold rg2; omega) (fun br_16 => ?_) (fun br_16 => ?_)
      · refine lv_iconst (v := kz 0) hx hb dX4_countLine_80 rfl ?_
        refine iz_put (D := (dC, dI)) (ci := 4) (v := .int (kz 0)) (ty := .boolean) (C := RX4) (T := TX4) (N := 10) hx hb hts hinX4 tyX4 tyX4_ok nmX4 hown hK co_1 hS (jv_A hI g_a0 (show (30 : Nat) ≠ 0 by decide)) rfl 2 (by decide) hL18 (fun _ h9 => h9) rfl (by decide +kernel) (by decide) rfl (Nat.le_of_ble_eq_true rfl) dX4_countLine_81 (fun H locs c9 oq hS => ?_)
        have hI := jv_set hI c9 oq (by rw [g_a0]; exact jv_c4 ⟨pp_1, r_7, r_14, 0, told_1, toldCount_1, grown_1, keys_1, keyCount_1, tongue_1, lattice_1, rfl, ⟨by omega, by omega⟩, g_told_1, ⟨by omega, by omega⟩, g_grown_1, g_keys_1, ⟨by omega, by omega⟩, g_tongue_1, g_lattice_1, by omega, by omega⟩)
        have hF := fm_put hF g_a0 (show (4 : Nat) ∈ [3, 4, 204, 220, 225, 232, 233, 234, 235, 236] by decide) oq
        have co_5 := co_5.kept (oq _ (kn_ne g_lattice_1 g_a0 (show (3 : Nat) ≠ 4 by decide)))
        have co_10 := co_10.kept (oq _ (kn_ne g_tongue_1 g_a0 (show (9 : Nat) ≠ 4 by decide)))
        have co_1 := c9
        clear oq c9
        refine lv_aload_n hx hb dX4_countLine_84 rfl (lv_at hl 0 rfl) ?_
        refine iz_get (D := (dC, dI)) (ci := 4) (v := .int (kz 0)) (C := RX4) (T := TX4) (N := 10) hx hb hts hinX4 hown hK co_1 rfl 2 (by decide) hL18 (fun _ h9 => h9) rfl dX4_countLine_85 ?_
        refine iz_eqz (tgt := 103) hx hb dX4_countLine_88 (by decide) (by unfold rg2; omega) (fun _ => ?_) (fun q9 => absurd q9 (by decide))
        exact W.vret hx hb hr (fun t9 ht hW => ⟨⟨(), rfl, trivial, jK_warm hW ⟨hK, hN⟩, by rw [ht]; exact ⟨hI, hF⟩⟩, hS.F ht⟩) hS.2.2 dX4_countLine_103
      · refine lv_iconst (v := kz 1) hx hb dX4_countLine_76 rfl ?_
        refine lv_goto (tgt := 81) hx hb dX4_countLine_77 (by decide) ?_
        refine iz_put (D := (dC, dI)) (ci := 4) (v := .int (kz 1)) (ty := .boolean) (C := RX4) (T := TX4) (N := 10) hx hb hts hinX4 tyX4 tyX4_ok nmX4 hown hK co_1 hS (jv_A hI g_a0 (show (30 : Nat) ≠ 0 by decide)) rfl 2 (by decide) hL18 (fun _ h9 => h9) rfl (by decide +kernel) (by decide) rfl (Nat.le_of_ble_eq_true rfl) dX4_countLine_81 (fun H locs c9 oq hS => ?_)
        have hI := jv_set hI c9 oq (by rw [g_a0]; exact jv_c4 ⟨pp_1, r_7, r_14, 1, told_1, toldCount_1, grown_1, keys_1, keyCount_1, tongue_1, lattice_1, rfl, ⟨by omega, by omega⟩, g_told_1, ⟨by omega, by omega⟩, g_grown_1, g_keys_1, ⟨by omega, by omega⟩, g_tongue_1, g_lattice_1, by omega, by omega⟩)
        have hF := fm_put hF g_a0 (show (4 : Nat) ∈ [3, 4, 204, 220, 225, 232, 233, 234, 235, 236] by decide) oq
        have co_5 := co_5.kept (oq _ (kn_ne g_lattice_1 g_a0 (show (3 : Nat) ≠ 4 by decide)))
        have co_10 := co_10.kept (oq _ (kn_ne g_tongue_1 g_a0 (show (9 : Nat) ≠ 4 by decide)))
        have co_1 := c9
        clear oq c9
        refine lv_aload_n hx hb dX4_countLine_84 rfl (lv_at hl 0 rfl) ?_
        refine iz_get (D := (dC, dI)) (ci := 4) (v := .int (kz 1)) (C := RX4) (T := TX4) (N := 10) hx hb hts hinX4 hown hK co_1 rfl 2 (by decide) hL18 (fun _ h9 => h9) rfl dX4_countLine_85 ?_
        refine iz_eqz (tgt := 103) hx hb dX4_countLine_88 (by decide) (by unfold rg2; omega) (fun q9 => absurd q9 (by decide)) (fun _ => ?_)
        refine lv_aload_n hx hb dX4_countLine_91 rfl (lv_at hl 0 rfl) ?_
        refine lv_aload_n hx hb dX4_countLine_92 rfl (lv_at hl 0 rfl) ?_
        refine iz_get (D := (dC, dI)) (ci := 4) (v := .ref lattice_1) (C := RX4) (T := TX4) (N := 10) hx hb hts hinX4 hown hK co_1 rfl 9 (by decide) hL51 (fun _ h9 => h9) rfl dX4_countLine_93 ?_
        refine lv_iconst (v := kz 0) hx hb dX4_countLine_96 rfl ?_
        refine va_calll (va_runV (As := [.int (kz 0)]) (rest := [.ref a0]) ⟨hx, hb, hml, hown, hts⟩ (c_fill l dC dI ca A X hU H lattice_1 0 g_lattice_1 (by omega)) (cwV 1 hts gX4_countLine_X3_fill rfl rfl rfl (by decide +kernel) ⟨Nat.le_of_ble_eq_true rfl, Nat.le_of_ble_eq_true rfl⟩) ⟨fun a U g mk q => by obtain ⟨q0, qH, ⟨qK, qN⟩, qI⟩ := q; exact ⟨q0, qH, ⟨va_K.moved (u := U) (U := U.calling g mk a) (Vm.Alike.refl U.vm) qK, jN_same (U := U.calling g mk a) rfl qN⟩, qI⟩, va_recv hK (at_P co_5) (ci := 3) (q0 := 0) rfl rfl, fun U hU hW => ⟨rfl, hU, jK_warm hW ⟨hK, hN⟩, by rw [hU]; exact hI⟩⟩ rfl rfl hl.1 rfl (lv_room (Nat.le_of_ble_eq_true rfl)) dX4_countLine_97 ⟨Nat.le_of_ble_eq_true rfl, Nat.le_of_ble_eq_true rfl⟩) hS (fun q _ h => h) (fun q h => h) (fun r_18 u t9 H locs ht hvm hw_17 hB hz1 hk1 hS => ?_)
        obtain ⟨-, hI, hf9⟩ := hB
        rw [ht] at hI hf9
        clear ht hvm hz1
        have co_1 := fm_at hf9 g_a0 (show (4 : Nat) ∉ ([220, 225, 232, 233, 234, 235, 236] : List Nat) by decide) co_1
        have co_5 := fm_at hf9 g_lattice_1 (show (3 : Nat) ∉ ([220, 225, 232, 233, 234, 235, 236] : List Nat) by decide) co_5
        have co_10 := fm_at hf9 g_tongue_1 (show (9 : Nat) ∉ ([220, 225, 232, 233, 234, 235, 236] : List Nat) by decide) co_10
        have hF := fm_tr hF hf9 (by decide)
        clear hk1 hf9
        refine iz_put (D := (dC, dI)) (ci := 4) (v := .long r_18) (ty := .long) (C := RX4) (T := TX4) (N := 10) hx hb hts hinX4 tyX4 tyX4_ok nmX4 hown hK co_1 hS (jv_A hI g_a0 (show (30 : Nat) ≠ 0 by decide)) rfl 1 (by decide) hL15 (fun _ h9 => h9) rfl (by decide +kernel) rfl rfl (Nat.le_of_ble_eq_true rfl) dX4_countLine_100 (fun H locs c9 oq hS => ?_)
        have hI := jv_set hI c9 oq (by rw [g_a0]; exact jv_c4 ⟨pp_1, r_7, r_18, 1, told_1, toldCount_1, grown_1, keys_1, keyCount_1, tongue_1, lattice_1, rfl, ⟨by omega, by omega⟩, g_told_1, ⟨by omega, by omega⟩, g_grown_1, g_keys_1, ⟨by omega, by omega⟩, g_tongue_1, g_lattice_1, by omega, by omega⟩)
        have hF := fm_put hF g_a0 (show (4 : Nat) ∈ [3, 4, 204, 220, 225, 232, 233, 234, 235, 236] by decide) oq
        have co_5 := co_5.kept (oq _ (kn_ne g_lattice_1 g_a0 (show (3 : Nat) ≠ 4 by decide)))
        have co_10 := co_10.kept (oq _ (kn_ne g_tongue_1 g_a0 (show (9 : Nat) ≠ 4 by decide)))
        have co_1 := c9
        clear oq c9
        exact W.vret hx hb hr (fun t9 ht hW => ⟨⟨(), rfl, trivial, jK_warm hW ⟨hK, hN⟩, by rw [ht]; exact ⟨hI, hF⟩⟩, hS.F ht⟩) hS.2.2 dX4_countLine_103
