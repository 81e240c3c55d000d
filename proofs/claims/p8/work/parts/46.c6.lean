set_option maxHeartbeats 4000000 in
set_option maxRecDepth 100000 in
/-- X11_rulesBetween -/
theorem j_rulesBetween (l : Launch) (dC : Nat → ClassId) (dI : Nat → Nat → Nat) (ca : Nat → ClassId) (A : Nat → Prop) (X : jG) (hU : jU X) (o : Nat) (j_tape : Nat) (j_tongue : Nat) (j_row : Nat) (j_trees : Nat) (j_choices : Nat) (pv : Option Nat) (st : Int) (x : Int) (y : Int) (day : Int) (g_o : X.1 o = (999, 0, 0, 0, 0)) (hAo : A o) (g_j_tape : X.1 j_tape = (8, 30, 0, 0, 0)) (g_j_tongue : X.1 j_tongue = (9, 30, 0, 0, 0)) (g_j_row : X.1 j_row = (6, 30, 0, 0, 0)) (g_j_trees : X.1 j_trees = (10, 30, 0, 0, 0)) (g_j_choices : X.1 j_choices = (1, 30, 0, 0, 0)) (hpv : ∀ b : Nat, pv = some b → X.1 b = (4, 30, 0, 0, 0)) (hst : 0 ≤ st ∧ st ≤ 20) (xr : -2147483648 ≤ x ∧ x ≤ 2147483647) (yr : -2147483648 ≤ y ∧ y ≤ 2147483647) (dayr : -2147483648 ≤ day ∧ day ≤ 2147483647) : Met l yX11_rulesBetween wsX11_rulesBetween ({ frames := 2, cells := 0, slots := 0, locals := 42 }) (va_Pc [.ref o, .int (kz x), .int (kz y), .int (kz day)] (fun U => jK (dC, dI) ca U ∧ jv (dC, dI) ca A X U.heap ∧ va_at (dC, dI) vwCl (o, .inr (11, [.ref j_tape, .ref j_tongue, .ref j_row, .ref j_trees, .ref j_choices, va_rf pv, .int (kz st)])) U.heap)) (vp_Si (fun r => True)) 0 0 (fun _ => False) := by
  refine Met.ofW (cc := cX11_rulesBetween) (maxL := 6) (ret := (some .int)) (by decide) rfl ?_
  intro p e s m args below meth c s₁ B hml hv
  obtain ⟨rfl, ⟨hK, hN⟩, hI, hO⟩ := hv
  have hx := B.exec
  have hb := B.bytes
  have hr := B.returns
  have hts := atoms_spec (ws := wsX11_rulesBetween) B.pre
  have hown : s.vm.findClass RX11 = some m.cls := findClass_of_methodNamed B.named
  have hL19 := hts (.fieldLink RX11 19 "JoinBench" "tongue" "LJoinBench$Tongue;") (by decide +kernel)
  have hL265 := hts (.fieldLink RX11 265 "JoinBench$Form" "ends" "I") (by decide +kernel)
  have hL268 := hts (.fieldLink RX11 268 "JoinBench$Form" "begins" "I") (by decide +kernel)
  have hinX11 : ∀ w ∈ u_ws RX11 TX11 7, w ∈ wsX11_rulesBetween := by decide +kernel
  have hinX2 : ∀ w ∈ u_ws RX2 TX2 8, w ∈ wsX11_rulesBetween := by decide +kernel
  have hl := lv_entry ([.ref o, .int (kz x), .int (kz y), .int (kz day)]) (n := 6) (Nat.le_of_ble_eq_true rfl)
  rw [lg_entry_eq]
  generalize (lg_sl ([.ref o, .int (kz x), .int (kz y), .int (kz day)]) ++ List.replicate (6 - (lg_sl ([.ref o, .int (kz x), .int (kz y), .int (kz day)])).length) Slot.unset).toArray = ls at hl ⊢
  have hl : lv_has ls 6 [(0, .ref o), (1, .int (kz x)), (2, .int (kz y)), (3, .int (kz day))] := hl
  refine lv_aload_n hx hb dX11_rulesBetween_0 rfl (lv_at hl 0 rfl) ?_
  refine iz_get (D := (dC, dI)) (ci := 11) (v := .ref j_tongue) (C := RX11) (T := TX11) (N := 7) hx hb hts hinX11 hown hK hO rfl 1 (by decide) hL19 (fun _ h9 => h9) rfl dX11_rulesBetween_1 ?_
  refine lv_iload_n hx hb dX11_rulesBetween_4 rfl (lv_at hl 1 rfl) ?_
  obtain ⟨fs9, co_1, jo9⟩ := jv_o9 hI g_j_tongue
  obtain ⟨forms_1, rules_1, formCount_1, ruleCount_1, forbidden_1, rfl, g_forms_1, g_rules_1, ⟨formCount_1a, formCount_1b⟩, ⟨ruleCount_1a, ruleCount_1b⟩, g_forbidden_1, x_1_0, x_1_1, x_1_2⟩ := jo9
  refine va_csq (va_Run.run (va_runV (As := [.int (kz x)]) (rest := []) ⟨hx, hb, hml, hown, hts⟩ (c_formAt l dC dI ca A X hU j_tongue x g_j_tongue (by omega)) (cwV 1 hts gX11_rulesBetween_X9_formAt rfl rfl rfl (by decide +kernel) ⟨Nat.le_of_ble_eq_true rfl, Nat.le_of_ble_eq_true rfl⟩) ⟨fun a U g mk q => by obtain ⟨q0, ⟨qK, qN⟩, qI⟩ := q; exact ⟨q0, ⟨va_K.moved (u := U) (U := U.calling g mk a) (Vm.Alike.refl U.vm) qK, jN_same (U := U.calling g mk a) rfl qN⟩, qI⟩, va_recv hK (at_P co_1) (ci := 9) (q0 := 0) rfl rfl, fun U hU hW => ⟨rfl, jK_warm hW ⟨hK, hN⟩, by rw [hU]; exact hI⟩⟩ rfl rfl hl.1 rfl (lv_room (Nat.le_of_ble_eq_true rfl)) dX11_rulesBetween_5 ⟨Nat.le_of_ble_eq_true rfl, Nat.le_of_ble_eq_true rfl⟩)) (fun r_3 hw_2 => ?_)
  rcases r_3 with _ | b_4
  · refine W.eq (g2 := F0 m 8 ls [.null]) rfl ?_
    refine lv_astoreN (lv' := [(4, .null), (0, .ref o), (1, .int (kz x)), (2, .int (kz y)), (3, .int (kz day))]) hx hb dX11_rulesBetween_8 hl (by decide) rfl (fun ls hl => ?_)
    refine lv_aload_n hx hb dX11_rulesBetween_10 rfl (lv_at hl 1 rfl) ?_
    refine iz_get (D := (dC, dI)) (ci := 11) (v := .ref j_tongue) (C := RX11) (T := TX11) (N := 7) hx hb hts hinX11 hown hK hO rfl 1 (by decide) hL19 (fun _ h9 => h9) rfl dX11_rulesBetween_11 ?_
    refine lv_iload_n hx hb dX11_rulesBetween_14 rfl (lv_at hl 3 rfl) ?_
    refine va_csq (va_Run.run (va_runV (As := [.int (kz y)]) (rest := []) ⟨hx, hb, hml, hown, hts⟩ (c_formAt l dC dI ca A X hU j_tongue y g_j_tongue (by omega)) (cwV 1 hts gX11_rulesBetween_X9_formAt rfl rfl rfl (by decide +kernel) ⟨Nat.le_of_ble_eq_true rfl, Nat.le_of_ble_eq_true rfl⟩) ⟨fun a U g mk q => by obtain ⟨q0, ⟨qK, qN⟩, qI⟩ := q; exact ⟨q0, ⟨va_K.moved (u := U) (U := U.calling g mk a) (Vm.Alike.refl U.vm) qK, jN_same (U := U.calling g mk a) rfl qN⟩, qI⟩, va_recv hK (at_P co_1) (ci := 9) (q0 := 0) rfl rfl, fun U hU hW => ⟨rfl, jK_warm hW ⟨hK, hN⟩, by rw [hU]; exact hI⟩⟩ rfl rfl hl.1 rfl (lv_room (Nat.le_of_ble_eq_true rfl)) dX11_rulesBetween_15 ⟨Nat.le_of_ble_eq_true rfl, Nat.le_of_ble_eq_true rfl⟩)) (fun r_6 hw_5 => ?_)
    rcases r_6 with _ | b_7
    · refine W.eq (g2 := F0 m 18 ls [.null]) rfl ?_
      refine lv_astoreN (lv' := [(5, .null), (4, .null), (0, .ref o), (1, .int (kz x)), (2, .int (kz y)), (3, .int (kz day))]) hx hb dX11_rulesBetween_18 hl (by decide) rfl (fun ls hl => ?_)
      refine lv_aloadN hx hb dX11_rulesBetween_20 (lv_at hl 1 rfl) ?_
      refine lv_ifnullN (tgt := 37) hx hb dX11_rulesBetween_22 (by decide) ?_
      refine lv_iconst (v := kz (-1)) hx hb dX11_rulesBetween_37 rfl ?_
      exact W.iret (v := kz (-1)) hx hb hr (fun t9 ht hW => ⟨kz (-1), rfl, trivial, ht⟩) (fun q h => absurd h List.not_mem_nil) dX11_rulesBetween_38
    · have g_b_7 := hw_5 b_7 rfl
      refine W.eq (g2 := F0 m 18 ls [.ref b_7]) rfl ?_
      refine lv_astore (lv' := [(5, .ref b_7), (4, .null), (0, .ref o), (1, .int (kz x)), (2, .int (kz y)), (3, .int (kz day))]) hx hb dX11_rulesBetween_18 hl (by decide) rfl (fun ls hl => ?_)
      refine lv_aloadN hx hb dX11_rulesBetween_20 (lv_at hl 1 rfl) ?_
      refine lv_ifnullN (tgt := 37) hx hb dX11_rulesBetween_22 (by decide) ?_
      refine lv_iconst (v := kz (-1)) hx hb dX11_rulesBetween_37 rfl ?_
      exact W.iret (v := kz (-1)) hx hb hr (fun t9 ht hW => ⟨kz (-1), rfl, trivial, ht⟩) (fun q h => absurd h List.not_mem_nil) dX11_rulesBetween_38
  · have g_b_4 := hw_2 b_4 rfl
    refine W.eq (g2 := F0 m 8 ls [.ref b_4]) rfl ?_
    refine lv_astore (lv' := [(4, .ref b_4), (0, .ref o), (1, .int (kz x)), (2, .int (kz y)), (3, .int (kz day))]) hx hb dX11_rulesBetween_8 hl (by decide) rfl (fun ls hl => ?_)
    refine lv_aload_n hx hb dX11_rulesBetween_10 rfl (lv_at hl 1 rfl) ?_
    refine iz_get (D := (dC, dI)) (ci := 11) (v := .ref j_tongue) (C := RX11) (T := TX11) (N := 7) hx hb hts hinX11 hown hK hO rfl 1 (by decide) hL19 (fun _ h9 => h9) rfl dX11_rulesBetween_11 ?_
    refine lv_iload_n hx hb dX11_rulesBetween_14 rfl (lv_at hl 3 rfl) ?_
    refine va_csq (va_Run.run (va_runV (As := [.int (kz y)]) (rest := []) ⟨hx, hb, hml, hown, hts⟩ (c_formAt l dC dI ca A X hU j_tongue y g_j_tongue (by omega)) (cwV 1 hts gX11_rulesBetween_X9_formAt rfl rfl rfl (by decide +kernel) ⟨Nat.le_of_ble_eq_true rfl, Nat.le_of_ble_eq_true rfl⟩) ⟨fun a U g mk q => by obtain ⟨q0, ⟨qK, qN⟩, qI⟩ := q; exact ⟨q0, ⟨va_K.moved (u := U) (U := U.calling g mk a) (Vm.Alike.refl U.vm) qK, jN_same (U := U.calling g mk a) rfl qN⟩, qI⟩, va_recv hK (at_P co_1) (ci := 9) (q0 := 0) rfl rfl, fun U hU hW => ⟨rfl, jK_warm hW ⟨hK, hN⟩, by rw [hU]; exact hI⟩⟩ rfl rfl hl.1 rfl (lv_room (Nat.le_of_ble_eq_true rfl)) dX11_rulesBetween_15 ⟨Nat.le_of_ble_eq_true rfl, Nat.le_of_ble_eq_true rfl⟩)) (fun r_9 hw_8 => ?_)
    rcases r_9 with _ | b_10
    · refine W.eq (g2 := F0 m 18 ls [.null]) rfl ?_
      refine lv_astoreN (lv' := [(5, .null), (4, .ref b_4), (0, .ref o), (1, .int (kz x)), (2, .int (kz y)), (3, .int (kz day))]) hx hb dX11_rulesBetween_18 hl (by decide) rfl (fun ls hl => ?_)
      refine lv_aload hx hb dX11_rulesBetween_20 (lv_at hl 1 rfl) ?_
      refine lv_ifnull hx hb dX11_rulesBetween_22 ?_
      refine lv_aloadN hx hb dX11_rulesBetween_25 (lv_at hl 0 rfl) ?_
      refine lv_ifnullN (tgt := 37) hx hb dX11_rulesBetween_27 (by decide) ?_
      refine lv_iconst (v := kz (-1)) hx hb dX11_rulesBetween_37 rfl ?_
      exact W.iret (v := kz (-1)) hx hb hr (fun t9 ht hW => ⟨kz (-1), rfl, trivial, ht⟩) (fun q h => absurd h List.not_mem_nil) dX11_rulesBetween_38
    · have g_b_10 := hw_8 b_10 rfl
      refine W.eq (g2 := F0 m 18 ls [.ref b_10]) rfl ?_
      refine lv_astore (lv' := [(5, .ref b_10), (4, .ref b_4), (0, .ref o), (1, .int (kz x)), (2, .int (kz y)), (3, .int (kz day))]) hx hb dX11_rulesBetween_18 hl (by decide) rfl (fun ls hl => ?_)
      refine lv_aload hx hb dX11_rulesBetween_20 (lv_at hl 1 rfl) ?_
      refine lv_ifnull hx hb dX11_rulesBetween_22 ?_
      refine lv_aload hx hb dX11_rulesBetween_25 (lv_at hl 0 rfl) ?_
      refine lv_ifnull hx hb dX11_rulesBetween_27 ?_
      refine lv_iload_n hx hb dX11_rulesBetween_30 rfl (lv_at hl 5 rfl) ?_
      refine vp_callSi (va_Run.run (va_runS (As := [.int (kz day)]) (rest := []) ⟨hx, hb, hml, hown, hts⟩ (c_isDay l day (by omega)) (va_cwS 1 hts gX11_rulesBetween_X11_isDay rfl rfl rfl (by decide +kernel) ⟨Nat.le_of_ble_eq_true rfl, Nat.le_of_ble_eq_true rfl⟩) ⟨fun a U g mk q => q, fun U hU hW => ⟨rfl, trivial⟩⟩ rfl rfl hl.1 rfl (lv_room (Nat.le_of_ble_eq_true rfl)) dX11_rulesBetween_31 ⟨Nat.le_of_ble_eq_true rfl, Nat.le_of_ble_eq_true rfl⟩)) (fun r_12 hw_11 => ?_)
      rcases hw_11 with ⟨rfl, hw_11⟩ | ⟨rfl, hw_11⟩
      · refine iz_nez (tgt := 39) hx hb dX11_rulesBetween_34 (by decide) (by unfold rg2; omega) (fun _ => ?_) (fun q9 => absurd q9 (by decide))
        refine lv_aload hx hb dX11_rulesBetween_39 (lv_at hl 1 rfl) ?_
        obtain ⟨fs9, co_13, jo9⟩ := jv_o2 hI g_b_4
        obtain ⟨ln_13, letters_13, kind_13, stem_13, kept_13, cost_13, number_13, ends_13, begins_13, rfl, g_letters_13, ⟨kind_13a, kind_13b⟩, ⟨stem_13a, stem_13b⟩, ⟨kept_13a, kept_13b⟩, ⟨cost_13a, cost_13b⟩, ⟨number_13a, number_13b⟩, ⟨ends_13a, ends_13b⟩, ⟨begins_13a, begins_13b⟩, x_13_0, x_13_1, x_13_2, x_13_3⟩ := jo9
        refine iz_get (D := (dC, dI)) (ci := 2) (v := .int (kz ends_13)) (C := RX2) (T := TX2) (N := 8) hx hb hts hinX2 hown hK co_13 rfl 6 (by decide) hL265 (fun _ h9 => h9) rfl dX11_rulesBetween_41 ?_
        refine lv_aload hx hb dX11_rulesBetween_44 (lv_at hl 0 rfl) ?_
        obtain ⟨fs9, co_14, jo9⟩ := jv_o2 hI g_b_10
        obtain ⟨ln_14, letters_14, kind_14, stem_14, kept_14, cost_14, number_14, ends_14, begins_14, rfl, g_letters_14, ⟨kind_14a, kind_14b⟩, ⟨stem_14a, stem_14b⟩, ⟨kept_14a, kept_14b⟩, ⟨cost_14a, cost_14b⟩, ⟨number_14a, number_14b⟩, ⟨ends_14a, ends_14b⟩, ⟨begins_14a, begins_14b⟩, x_14_0, x_14_1, x_14_2, x_14_3⟩ := jo9
        refine iz_get (D := (dC, dI)) (ci := 2) (v := .int (kz begins_14)) (C := RX2) (T := TX2) (N := 8) hx hb hts hinX2 hown hK co_14 rfl 7 (by decide) hL268 (fun _ h9 => h9) rfl dX11_rulesBetween_46 ?_
        refine lv_iand hx hb dX11_rulesBetween_49 ?_
        refine iz_any (fun z_15 z_15a z_15b z_15e => ?_)
        refine lv_aload_n hx hb dX11_rulesBetween_50 rfl (lv_at hl 2 rfl) ?_
        refine iz_get (D := (dC, dI)) (ci := 11) (v := .ref j_tongue) (C := RX11) (T := TX11) (N := 7) hx hb hts hinX11 hown hK hO rfl 1 (by decide) hL19 (fun _ h9 => h9) rfl dX11_rulesBetween_51 ?_
        refine lv_iload_n hx hb dX11_rulesBetween_54 rfl (lv_at hl 5 rfl) ?_
        refine vp_callSi (va_Run.run (va_runV (As := [.int (kz day)]) (rest := [.int (kz z_15)]) ⟨hx, hb, hml, hown, hts⟩ (c_rulesInForce l dC dI ca A X hU j_tongue day g_j_tongue (by omega)) (cwV 1 hts gX11_rulesBetween_X9_rulesInForce rfl rfl rfl (by decide +kernel) ⟨Nat.le_of_ble_eq_true rfl, Nat.le_of_ble_eq_true rfl⟩) ⟨fun a U g mk q => by obtain ⟨q0, ⟨qK, qN⟩, qI⟩ := q; exact ⟨q0, ⟨va_K.moved (u := U) (U := U.calling g mk a) (Vm.Alike.refl U.vm) qK, jN_same (U := U.calling g mk a) rfl qN⟩, qI⟩, va_recv hK (at_P co_1) (ci := 9) (q0 := 0) rfl rfl, fun U hU hW => ⟨rfl, jK_warm hW ⟨hK, hN⟩, by rw [hU]; exact hI⟩⟩ rfl rfl hl.1 rfl (lv_room (Nat.le_of_ble_eq_true rfl)) dX11_rulesBetween_55 ⟨Nat.le_of_ble_eq_true rfl, Nat.le_of_ble_eq_true rfl⟩)) (fun r_17 hw_16 => ?_)
        obtain ⟨z_18, z_18a, z_18b, rfl⟩ := kz_ex r_17
        refine lv_iand hx hb dX11_rulesBetween_58 ?_
        refine iz_any (fun z_19 z_19a z_19b z_19e => ?_)
        exact W.iret (v := kz z_19) hx hb hr (fun t9 ht hW => ⟨kz z_19, rfl, trivial, ht⟩) (fun q h => absurd h List.not_mem_nil) dX11_rulesBetween_59
      · refine iz_nez (tgt := 39) hx hb dX11_rulesBetween_34 (by decide) (by unfold rg2; omega) (fun q9 => absurd q9 (by decide)) (fun _ => ?_)
        refine lv_iconst (v := kz (-1)) hx hb dX11_rulesBetween_37 rfl ?_
        exact W.iret (v := kz (-1)) hx hb hr (fun t9 ht hW => ⟨kz (-1), rfl, trivial, ht⟩) (fun q h => absurd h List.not_mem_nil) dX11_rulesBetween_38
set_option maxHeartbeats 4000000 in
set_option maxRecDepth 100000 in
/-- J6_bitCount_0f7a4 -/
theorem c_bitCount (l : Launch) (x : Int) : Met l yJ6_bitCount_0f7a4 wsJ6_bitCount_0f7a4 ({ frames := 0, cells := 0, slots := 0, locals := 0 }) (va_Pc [.int (kz x)] (fun U => True)) (vp_Si (fun r => True)) 0 0 (fun _ => False) := by
  refine Met.ofW (cc := cJ6_bitCount_0f7a4) (maxL := 1) (ret := (some .int)) (by decide) rfl ?_
  intro p e s m args below meth c s₁ B hml hv
  obtain ⟨rfl, -⟩ := hv
  have hx := B.exec
  have hb := B.bytes
  have hr := B.returns
  have hts := atoms_spec (ws := wsJ6_bitCount_0f7a4) B.pre
  have hown : s.vm.findClass RJ6 = some m.cls := findClass_of_methodNamed B.named
  have hl := lv_entry ([.int (kz x)]) (n := 1) (Nat.le_of_ble_eq_true rfl)
  rw [lg_entry_eq]
  generalize (lg_sl ([.int (kz x)]) ++ List.replicate (1 - (lg_sl ([.int (kz x)])).length) Slot.unset).toArray = ls at hl ⊢
  have hl : lv_has ls 1 [(0, .int (kz x))] := hl
  refine lv_iload_n hx hb dJ6_bitCount_0f7a4_0 rfl (lv_at hl 0 rfl) ?_
  refine lv_iload_n hx hb dJ6_bitCount_0f7a4_1 rfl (lv_at hl 0 rfl) ?_
  refine lv_iconst (v := kz 1) hx hb dJ6_bitCount_0f7a4_2 rfl ?_
  refine lv_iushr hx hb dJ6_bitCount_0f7a4_3 rfl ?_
  refine iz_any (fun z_1 z_1a z_1b z_1e => ?_)
  refine lv_ldcw (own := RJ6) (v := kz 1431655765) hx hb hown (hts (.constant RJ6 265 (kz 1431655765)) (by decide +kernel)) dJ6_bitCount_0f7a4_4 ?_
  refine iz_iand hx hb dJ6_bitCount_0f7a4_7 (by decide) (fun z_2 z_2a z_2b z_2e => ?_)
  refine iz_isub hx hb dJ6_bitCount_0f7a4_8 ?_
  refine lv_istore_n (lv' := [(0, .int (kz (x - z_2)))]) hx hb dJ6_bitCount_0f7a4_9 rfl hl (by decide) rfl (fun ls hl => ?_)
  refine lv_iload_n hx hb dJ6_bitCount_0f7a4_10 rfl (lv_at hl 0 rfl) ?_
  refine lv_ldcw (own := RJ6) (v := kz 858993459) hx hb hown (hts (.constant RJ6 266 (kz 858993459)) (by decide +kernel)) dJ6_bitCount_0f7a4_11 ?_
  refine iz_iand hx hb dJ6_bitCount_0f7a4_14 (by decide) (fun z_3 z_3a z_3b z_3e => ?_)
  refine lv_iload_n hx hb dJ6_bitCount_0f7a4_15 rfl (lv_at hl 0 rfl) ?_
  refine lv_iconst (v := kz 2) hx hb dJ6_bitCount_0f7a4_16 rfl ?_
  refine lv_iushr hx hb dJ6_bitCount_0f7a4_17 rfl ?_
  refine iz_any (fun z_4 z_4a z_4b z_4e => ?_)
  refine lv_ldcw (own := RJ6) (v := kz 858993459) hx hb hown (hts (.constant RJ6 266 (kz 858993459)) (by decide +kernel)) dJ6_bitCount_0f7a4_18 ?_
  refine iz_iand hx hb dJ6_bitCount_0f7a4_21 (by decide) (fun z_5 z_5a z_5b z_5e => ?_)
  refine iz_iadd hx hb dJ6_bitCount_0f7a4_22 ?_
  refine lv_istore_n (lv' := [(0, .int (kz (z_3 + z_5)))]) hx hb dJ6_bitCount_0f7a4_23 rfl hl (by decide) rfl (fun ls hl => ?_)
  refine lv_iload_n hx hb dJ6_bitCount_0f7a4_24 rfl (lv_at hl 0 rfl) ?_
  refine lv_iload_n hx hb dJ6_bitCount_0f7a4_25 rfl (lv_at hl 0 rfl) ?_
  refine lv_iconst (v := kz 4) hx hb dJ6_bitCount_0f7a4_26 rfl ?_
  refine lv_iushr hx hb dJ6_bitCount_0f7a4_27 rfl ?_
  refine iz_any (fun z_6 z_6a z_6b z_6e => ?_)
  refine iz_iadd hx hb dJ6_bitCount_0f7a4_28 ?_
  refine lv_ldcw (own := RJ6) (v := kz 252645135) hx hb hown (hts (.constant RJ6 267 (kz 252645135)) (by decide +kernel)) dJ6_bitCount_0f7a4_29 ?_
  refine iz_iand hx hb dJ6_bitCount_0f7a4_32 (by decide) (fun z_7 z_7a z_7b z_7e => ?_)
  refine lv_istore_n (lv' := [(0, .int (kz z_7))]) hx hb dJ6_bitCount_0f7a4_33 rfl hl (by decide) rfl (fun ls hl => ?_)
  refine lv_iload_n hx hb dJ6_bitCount_0f7a4_34 rfl (lv_at hl 0 rfl) ?_
  refine lv_iload_n hx hb dJ6_bitCount_0f7a4_35 rfl (lv_at hl 0 rfl) ?_
  refine lv_bipush (v := kz 8) hx hb dJ6_bitCount_0f7a4_36 (by decide) ?_
  refine lv_iushr hx hb dJ6_bitCount_0f7a4_38 rfl ?_
  refine iz_any (fun z_8 z_8a z_8b z_8e => ?_)
  refine iz_iadd hx hb dJ6_bitCount_0f7a4_39 ?_
  refine lv_istore_n (lv' := [(0, .int (kz (z_7 + z_8)))]) hx hb dJ6_bitCount_0f7a4_40 rfl hl (by decide) rfl (fun ls hl => ?_)
  refine lv_iload_n hx hb dJ6_bitCount_0f7a4_41 rfl (lv_at hl 0 rfl) ?_
  refine lv_iload_n hx hb dJ6_bitCount_0f7a4_42 rfl (lv_at hl 0 rfl) ?_
  refine lv_bipush (v := kz 16) hx hb dJ6_bitCount_0f7a4_43 (by decide) ?_
  refine lv_iushr hx hb dJ6_bitCount_0f7a4_45 rfl ?_
  refine iz_any (fun z_9 z_9a z_9b z_9e => ?_)
  refine iz_iadd hx hb dJ6_bitCount_0f7a4_46 ?_
  refine lv_istore_n (lv' := [(0, .int (kz ((z_7 + z_8) + z_9)))]) hx hb dJ6_bitCount_0f7a4_47 rfl hl (by decide) rfl (fun ls hl => ?_)
  refine lv_iload_n hx hb dJ6_bitCount_0f7a4_48 rfl (lv_at hl 0 rfl) ?_
  refine lv_bipush (v := kz 63) hx hb dJ6_bitCount_0f7a4_49 (by decide) ?_
  refine iz_iand hx hb dJ6_bitCount_0f7a4_51 (by decide) (fun z_10 z_10a z_10b z_10e => ?_)
  exact W.iret (v := kz z_10) hx hb hr (fun t9 ht hW => ⟨kz z_10, rfl, trivial, ht⟩) (fun q h => absurd h List.not_mem_nil) dJ6_bitCount_0f7a4_52
set_option maxHeartbeats 4000000 in
set_option maxRecDepth 100000 in
/-- X11_fits -/
theorem j_fits (l : Launch) (dC : Nat → ClassId) (dI : Nat → Nat → Nat) (ca : Nat → ClassId) (A : Nat → Prop) (X : jG) (hU : jU X) (o : Nat) (j_tape : Nat) (j_tongue : Nat) (j_row : Nat) (j_trees : Nat) (j_choices : Nat) (pv : Option Nat) (st : Int) (x : Int) (y : Int) (day : Int) (g_o : X.1 o = (999, 0, 0, 0, 0)) (hAo : A o) (g_j_tape : X.1 j_tape = (8, 30, 0, 0, 0)) (g_j_tongue : X.1 j_tongue = (9, 30, 0, 0, 0)) (g_j_row : X.1 j_row = (6, 30, 0, 0, 0)) (g_j_trees : X.1 j_trees = (10, 30, 0, 0, 0)) (g_j_choices : X.1 j_choices = (1, 30, 0, 0, 0)) (hpv : ∀ b : Nat, pv = some b → X.1 b = (4, 30, 0, 0, 0)) (hst : 0 ≤ st ∧ st ≤ 20) (xr : -2147483648 ≤ x ∧ x ≤ 2147483647) (yr : -2147483648 ≤ y ∧ y ≤ 2147483647) (dayr : -2147483648 ≤ day ∧ day ≤ 2147483647) : Met l yX11_fits wsX11_fits ({ frames := 3, cells := 0, slots := 0, locals := 67 }) (va_Pc [.ref o, .int (kz x), .int (kz y), .int (kz day)] (fun U => jK (dC, dI) ca U ∧ jv (dC, dI) ca A X U.heap ∧ va_at (dC, dI) vwCl (o, .inr (11, [.ref j_tape, .ref j_tongue, .ref j_row, .ref j_trees, .ref j_choices, va_rf pv, .int (kz st)])) U.heap)) (vp_Si (fun r => True)) 0 0 (fun _ => False) := by
  refine Met.ofW (cc := cX11_fits) (maxL := 5) (ret := (some .int)) (by decide) rfl ?_
  intro p e s m args below meth c s₁ B hml hv
  obtain ⟨rfl, ⟨hK, hN⟩, hI, hO⟩ := hv
  have hx := B.exec
  have hb := B.bytes
  have hr := B.returns
  have hts := atoms_spec (ws := wsX11_fits) B.pre
  have hown : s.vm.findClass RX11 = some m.cls := findClass_of_methodNamed B.named
  have hl := lv_entry ([.ref o, .int (kz x), .int (kz y), .int (kz day)]) (n := 5) (Nat.le_of_ble_eq_true rfl)
  rw [lg_entry_eq]
  generalize (lg_sl ([.ref o, .int (kz x), .int (kz y), .int (kz day)]) ++ List.replicate (5 - (lg_sl ([.ref o, .int (kz x), .int (kz y), .int (kz day)])).length) Slot.unset).toArray = ls at hl ⊢
  have hl : lv_has ls 5 [(0, .ref o), (1, .int (kz x)), (2, .int (kz y)), (3, .int (kz day))] := hl
  refine lv_aload_n hx hb dX11_fits_0 rfl (lv_at hl 0 rfl) ?_
  refine lv_iload_n hx hb dX11_fits_1 rfl (lv_at hl 1 rfl) ?_
  refine lv_iload_n hx hb dX11_fits_2 rfl (lv_at hl 2 rfl) ?_
  refine lv_iload_n hx hb dX11_fits_3 rfl (lv_at hl 3 rfl) ?_
  refine vp_callSi (va_Run.run (va_runV (As := [.int (kz x), .int (kz y), .int (kz day)]) (rest := []) ⟨hx, hb, hml, hown, hts⟩ (j_rulesBetween l dC dI ca A X hU o j_tape j_tongue j_row j_trees j_choices pv st x y day g_o hAo g_j_tape g_j_tongue g_j_row g_j_trees g_j_choices hpv (by omega) (by omega) (by omega) (by omega)) (cwV 3 hts gX11_fits_X11_rulesBetween rfl rfl rfl (by decide +kernel) ⟨Nat.le_of_ble_eq_true rfl, Nat.le_of_ble_eq_true rfl⟩) ⟨fun a U g mk q => by obtain ⟨q0, ⟨qK, qN⟩, qI⟩ := q; exact ⟨q0, ⟨va_K.moved (u := U) (U := U.calling g mk a) (Vm.Alike.refl U.vm) qK, jN_same (U := U.calling g mk a) rfl qN⟩, qI⟩, va_recv hK (at_P hO) (ci := 11) (q0 := 0) rfl rfl, fun U hU hW => ⟨rfl, jK_warm hW ⟨hK, hN⟩, by rw [hU]; exact ⟨hI, hO⟩⟩⟩ rfl rfl hl.1 rfl (lv_room (Nat.le_of_ble_eq_true rfl)) dX11_fits_4 ⟨Nat.le_of_ble_eq_true rfl, Nat.le_of_ble_eq_true rfl⟩)) (fun r_2 hw_1 => ?_)
  obtain ⟨z_3, z_3a, z_3b, rfl⟩ := kz_ex r_2
  refine lv_istore (lv' := [(4, .int (kz z_3)), (0, .ref o), (1, .int (kz x)), (2, .int (kz y)), (3, .int (kz day))]) hx hb dX11_fits_7 hl (by decide) rfl (fun ls hl => ?_)
  refine lv_iload hx hb dX11_fits_9 (lv_at hl 0 rfl) ?_
  refine lv_iconst (v := kz (-1)) hx hb dX11_fits_11 rfl ?_
  refine iz_ne (tgt := 19) hx hb dX11_fits_12 (by decide) (by unfold rg2; omega) (fun br_4 => ?_) (fun br_4 => ?_)
  · refine lv_iload hx hb dX11_fits_19 (lv_at hl 0 rfl) ?_
    refine vp_callSi (va_Run.run (va_runS (As := [.int (kz z_3)]) (rest := []) ⟨hx, hb, hml, hown, hts⟩ (c_bitCount l z_3) (va_cwS 1 hts gX11_fits_J6_bitCount_0f7a4 rfl rfl rfl (by decide +kernel) ⟨Nat.le_of_ble_eq_true rfl, Nat.le_of_ble_eq_true rfl⟩) ⟨fun a U g mk q => q, fun U hU hW => ⟨rfl, trivial⟩⟩ rfl rfl hl.1 rfl (lv_room (Nat.le_of_ble_eq_true rfl)) dX11_fits_21 ⟨Nat.le_of_ble_eq_true rfl, Nat.le_of_ble_eq_true rfl⟩)) (fun r_6 hw_5 => ?_)
    obtain ⟨z_7, z_7a, z_7b, rfl⟩ := kz_ex r_6
    exact W.iret (v := kz z_7) hx hb hr (fun t9 ht hW => ⟨kz z_7, rfl, trivial, ht⟩) (fun q h => absurd h List.not_mem_nil) dX11_fits_24
  · refine lv_iconst (v := kz (-1)) hx hb dX11_fits_15 rfl ?_
    refine lv_goto (tgt := 24) hx hb dX11_fits_16 (by decide) ?_
    exact W.iret (v := kz (-1)) hx hb hr (fun t9 ht hW => ⟨kz (-1), rfl, trivial, ht⟩) (fun q h => absurd h List.not_mem_nil) dX11_fits_24
set_option maxHeartbeats 4000000 in
set_option maxRecDepth 100000 in
/-- X11_fitting -/
theorem j_fitting (l : Launch) (dC : Nat → ClassId) (dI : Nat → Nat → Nat) (ca : Nat → ClassId) (A : Nat → Prop) (X : jG) (hU : jU X) (o : Nat) (j_tape : Nat) (j_tongue : Nat) (j_row : Nat) (j_trees : Nat) (j_choices : Nat) (pv : Option Nat) (st : Int) (x : Int) (y : Int) (day : Int) (k : Int) (g_o : X.1 o = (999, 0, 0, 0, 0)) (hAo : A o) (g_j_tape : X.1 j_tape = (8, 30, 0, 0, 0)) (g_j_tongue : X.1 j_tongue = (9, 30, 0, 0, 0)) (g_j_row : X.1 j_row = (6, 30, 0, 0, 0)) (g_j_trees : X.1 j_trees = (10, 30, 0, 0, 0)) (g_j_choices : X.1 j_choices = (1, 30, 0, 0, 0)) (hpv : ∀ b : Nat, pv = some b → X.1 b = (4, 30, 0, 0, 0)) (hst : 0 ≤ st ∧ st ≤ 20) (xr : -2147483648 ≤ x ∧ x ≤ 2147483647) (yr : -2147483648 ≤ y ∧ y ≤ 2147483647) (dayr : -2147483648 ≤ day ∧ day ≤ 2147483647) (kr : -2147483648 ≤ k ∧ k ≤ 2147483647) : Met l yX11_fitting wsX11_fitting ({ frames := 3, cells := 0, slots := 0, locals := 67 }) (va_Pc [.ref o, .int (kz x), .int (kz y), .int (kz day), .int (kz k)] (fun U => jK (dC, dI) ca U ∧ jv (dC, dI) ca A X U.heap ∧ va_at (dC, dI) vwCl (o, .inr (11, [.ref j_tape, .ref j_tongue, .ref j_row, .ref j_trees, .ref j_choices, va_rf pv, .int (kz st)])) U.heap)) (vp_Si (fun r => True)) 0 0 (fun _ => False) := by
  refine Met.ofW (cc := cX11_fitting) (maxL := 8) (ret := (some .int)) (by decide) rfl ?_
  intro p e s m args below meth c s₁ B hml hv
  obtain ⟨rfl, ⟨hK, hN⟩, hI, hO⟩ := hv
  have hx := B.exec
  have hb := B.bytes
  have hr := B.returns
  have hts := atoms_spec (ws := wsX11_fitting) B.pre
  have hown : s.vm.findClass RX11 = some m.cls := findClass_of_methodNamed B.named
  have hl := lv_entry ([.ref o, .int (kz x), .int (kz y), .int (kz day), .int (kz k)]) (n := 8) (Nat.le_of_ble_eq_true rfl)
  rw [lg_entry_eq]
  generalize (lg_sl ([.ref o, .int (kz x), .int (kz y), .int (kz day), .int (kz k)]) ++ List.replicate (8 - (lg_sl ([.ref o, .int (kz x), .int (kz y), .int (kz day), .int (kz k)])).length) Slot.unset).toArray = ls at hl ⊢
  have hl : lv_has ls 8 [(0, .ref o), (1, .int (kz x)), (2, .int (kz y)), (3, .int (kz day)), (4, .int (kz k))] := hl
  refine lv_aload_n hx hb dX11_fitting_0 rfl (lv_at hl 0 rfl) ?_
  refine lv_iload_n hx hb dX11_fitting_1 rfl (lv_at hl 1 rfl) ?_
  refine lv_iload_n hx hb dX11_fitting_2 rfl (lv_at hl 2 rfl) ?_
  refine lv_iload_n hx hb dX11_fitting_3 rfl (lv_at hl 3 rfl) ?_
  refine vp_callSi (va_Run.run (va_runV (As := [.int (kz x), .int (kz y), .int (kz day)]) (rest := []) ⟨hx, hb, hml, hown, hts⟩ (j_rulesBetween l dC dI ca A X hU o j_tape j_tongue j_row j_trees j_choices pv st x y day g_o hAo g_j_tape g_j_tongue g_j_row g_j_trees g_j_choices hpv (by omega) (by omega) (by omega) (by omega)) (cwV 3 hts gX11_fitting_X11_rulesBetween rfl rfl rfl (by decide +kernel) ⟨Nat.le_of_ble_eq_true rfl, Nat.le_of_ble_eq_true rfl⟩) ⟨fun a U g mk q => by obtain ⟨q0, ⟨qK, qN⟩, qI⟩ := q; exact ⟨q0, ⟨va_K.moved (u := U) (U := U.calling g mk a) (Vm.Alike.refl U.vm) qK, jN_same (U := U.calling g mk a) rfl qN⟩, qI⟩, va_recv hK (at_P hO) (ci := 11) (q0 := 0) rfl rfl, fun U hU hW => ⟨rfl, jK_warm hW ⟨hK, hN⟩, by rw [hU]; exact ⟨hI, hO⟩⟩⟩ rfl rfl hl.1 rfl (lv_room (Nat.le_of_ble_eq_true rfl)) dX11_fitting_4 ⟨Nat.le_of_ble_eq_true rfl, Nat.le_of_ble_eq_true rfl⟩)) (fun r_2 hw_1 => ?_)
  obtain ⟨z_3, z_3a, z_3b, rfl⟩ := kz_ex r_2
  refine lv_istore (lv' := [(5, .int (kz z_3)), (0, .ref o), (1, .int (kz x)), (2, .int (kz y)), (3, .int (kz day)), (4, .int (kz k))]) hx hb dX11_fitting_7 hl (by decide) rfl (fun ls hl => ?_)
  refine lv_iload hx hb dX11_fitting_9 (lv_at hl 0 rfl) ?_
  refine lv_iconst (v := kz (-1)) hx hb dX11_fitting_11 rfl ?_
  refine iz_ne (tgt := 17) hx hb dX11_fitting_12 (by decide) (by unfold rg2; omega) (fun br_4 => ?_) (fun br_4 => ?_)
  · refine lv_iconst (v := kz 0) hx hb dX11_fitting_17 rfl ?_
    refine lv_istore (lv' := [(6, .int (kz 0)), (5, .int (kz z_3)), (0, .ref o), (1, .int (kz x)), (2, .int (kz y)), (3, .int (kz day)), (4, .int (kz k))]) hx hb dX11_fitting_18 hl (by decide) rfl (fun ls hl => ?_)
    refine lv_iconst (v := kz 0) hx hb dX11_fitting_20 rfl ?_
    refine lv_istore (lv' := [(7, .int (kz 0)), (6, .int (kz 0)), (5, .int (kz z_3)), (0, .ref o), (1, .int (kz x)), (2, .int (kz y)), (3, .int (kz day)), (4, .int (kz k))]) hx hb dX11_fitting_21 hl (by decide) rfl (fun ls hl => ?_)
    refine iz_loopS2 (P := fun N9 sn nu ls => (0 ≤ sn) ∧ (sn ≤ nu) ∧ (nu ≤ 24) ∧ 24 - nu ≤ (N9 : Int) ∧ lv_has ls 8 [(7, .int (kz nu)), (6, .int (kz sn)), (5, .int (kz z_3)), (0, .ref o), (1, .int (kz x)), (2, .int (kz y)), (3, .int (kz day)), (4, .int (kz k))]) 100000 (x0 := 0) (x1 := 0) ?_ ⟨by omega, by omega, by omega, by omega, lv_sub hl [0, 1, 2, 3, 4, 5, 6, 7] rfl⟩
    intro n_5 sn nu ls ⟨n_5f0, n_5f1, n_5f2, n_5f3, hl⟩ ihn_5
    refine lv_iload hx hb dX11_fitting_23 (lv_at hl 0 rfl) ?_
    refine lv_bipush (v := kz 24) hx hb dX11_fitting_25 (by decide) ?_
    refine iz_ge (tgt := 62) hx hb dX11_fitting_27 (by decide) (by unfold rg2; omega) (fun br_6 => ?_) (fun br_6 => ?_)
    · refine lv_iconst (v := kz (-1)) hx hb dX11_fitting_62 rfl ?_
      exact W.iret (v := kz (-1)) hx hb hr (fun t9 ht hW => ⟨kz (-1), rfl, trivial, ht⟩) (fun q h => absurd h List.not_mem_nil) dX11_fitting_63
    · refine lv_iload hx hb dX11_fitting_30 (lv_at hl 2 rfl) ?_
      refine lv_iload hx hb dX11_fitting_32 (lv_at hl 0 rfl) ?_
      refine vp_callSi (va_Run.run (va_runS (As := [.int (kz z_3), .int (kz nu)]) (rest := []) ⟨hx, hb, hml, hown, hts⟩ (c_hasRule l z_3 nu (by omega) (by omega)) (va_cwS 2 hts gX11_fitting_X11_hasRule rfl rfl rfl (by decide +kernel) ⟨Nat.le_of_ble_eq_true rfl, Nat.le_of_ble_eq_true rfl⟩) ⟨fun a U g mk q => q, fun U hU hW => ⟨rfl, trivial⟩⟩ rfl rfl hl.1 rfl (lv_room (Nat.le_of_ble_eq_true rfl)) dX11_fitting_34 ⟨Nat.le_of_ble_eq_true rfl, Nat.le_of_ble_eq_true rfl⟩)) (fun r_8 hw_7 => ?_)
      rcases hw_7 with rfl | rfl
      · refine iz_nez (tgt := 43) hx hb dX11_fitting_37 (by decide) (by unfold rg2; omega) (fun _ => ?_) (fun q9 => absurd q9 (by decide))
        refine lv_iload hx hb dX11_fitting_43 (lv_at hl 1 rfl) ?_
        refine lv_iload hx hb dX11_fitting_45 (lv_at hl 7 rfl) ?_
        refine iz_ne (tgt := 53) hx hb dX11_fitting_47 (by decide) (by unfold rg2; omega) (fun br_9 => ?_) (fun br_9 => ?_)
        · refine lv_iinc (v := kz (sn + 1)) (lv' := [(6, .int (kz (sn + 1))), (7, .int (kz nu)), (5, .int (kz z_3)), (0, .ref o), (1, .int (kz x)), (2, .int (kz y)), (3, .int (kz day)), (4, .int (kz k))]) hx hb dX11_fitting_53 hl (k := 1) rfl (kz_add sn 1) (by decide) rfl (fun ls hl => ?_)
          refine lv_iinc (v := kz (nu + 1)) (lv' := [(7, .int (kz (nu + 1))), (6, .int (kz (sn + 1))), (5, .int (kz z_3)), (0, .ref o), (1, .int (kz x)), (2, .int (kz y)), (3, .int (kz day)), (4, .int (kz k))]) hx hb dX11_fitting_56 hl (k := 1) rfl (kz_add nu 1) (by decide) rfl (fun ls hl => ?_)
          refine lv_goto (tgt := 23) hx hb dX11_fitting_59 (by decide) ?_
          exact ihn_5 (n_5 - 1) (by omega) (sn + 1) (nu + 1) _ ⟨by omega, by omega, by omega, by omega, lv_sub hl [0, 1, 2, 3, 4, 5, 6, 7] rfl⟩
        · refine lv_iload hx hb dX11_fitting_50 (lv_at hl 0 rfl) ?_
          exact W.iret (v := kz nu) hx hb hr (fun t9 ht hW => ⟨kz nu, rfl, trivial, ht⟩) (fun q h => absurd h List.not_mem_nil) dX11_fitting_52
      · refine iz_nez (tgt := 43) hx hb dX11_fitting_37 (by decide) (by unfold rg2; omega) (fun q9 => absurd q9 (by decide)) (fun _ => ?_)
        refine lv_goto (tgt := 56) hx hb dX11_fitting_40 (by decide) ?_
        refine lv_iinc (v := kz (nu + 1)) (lv' := [(7, .int (kz (nu + 1))), (6, .int (kz sn)), (5, .int (kz z_3)), (0, .ref o), (1, .int (kz x)), (2, .int (kz y)), (3, .int (kz day)), (4, .int (kz k))]) hx hb dX11_fitting_56 hl (k := 0) rfl (kz_add nu 1) (by decide) rfl (fun ls hl => ?_)
        refine lv_goto (tgt := 23) hx hb dX11_fitting_59 (by decide) ?_
        exact ihn_5 (n_5 - 1) (by omega) sn (nu + 1) _ ⟨by omega, by omega, by omega, by omega, lv_sub hl [0, 1, 2, 3, 4, 5, 6, 7] rfl⟩
  · refine lv_iconst (v := kz (-1)) hx hb dX11_fitting_15 rfl ?_
    exact W.iret (v := kz (-1)) hx hb hr (fun t9 ht hW => ⟨kz (-1), rfl, trivial, ht⟩) (fun q h => absurd h List.not_mem_nil) dX11_fitting_16
set_option maxHeartbeats 4000000 in
set_option maxRecDepth 100000 in
/-- X11_canFollow -/
theorem j_canFollow (l : Launch) (dC : Nat → ClassId) (dI : Nat → Nat → Nat) (ca : Nat → ClassId) (A : Nat → Prop) (X : jG) (hU : jU X) (o : Nat) (j_tape : Nat) (j_tongue : Nat) (j_row : Nat) (j_trees : Nat) (j_choices : Nat) (pv : Option Nat) (st : Int) (f1 : Nat) (f2 : Nat) (k : Int) (g_o : X.1 o = (999, 0, 0, 0, 0)) (hAo : A o) (g_j_tape : X.1 j_tape = (8, 30, 0, 0, 0)) (g_j_tongue : X.1 j_tongue = (9, 30, 0, 0, 0)) (g_j_row : X.1 j_row = (6, 30, 0, 0, 0)) (g_j_trees : X.1 j_trees = (10, 30, 0, 0, 0)) (g_j_choices : X.1 j_choices = (1, 30, 0, 0, 0)) (hpv : ∀ b : Nat, pv = some b → X.1 b = (4, 30, 0, 0, 0)) (hst : 0 ≤ st ∧ st ≤ 20) (g_f1 : X.1 f1 = (2, 30, 0, 0, 0)) (g_f2 : X.1 f2 = (2, 30, 0, 0, 0)) (kr : -2147483648 ≤ k ∧ k ≤ 2147483647) : Met l yX11_canFollow wsX11_canFollow ({ frames := 3, cells := 0, slots := 0, locals := 63 }) (va_Pc [.ref o, .ref f1, .ref f2, .int (kz k)] (fun U => jK (dC, dI) ca U ∧ jv (dC, dI) ca A X U.heap ∧ va_at (dC, dI) vwCl (o, .inr (11, [.ref j_tape, .ref j_tongue, .ref j_row, .ref j_trees, .ref j_choices, va_rf pv, .int (kz st)])) U.heap)) (vp_Si (fun r => r = kz 1 ∨ r = kz 0)) 0 0 (fun _ => False) := by
  refine Met.ofW (cc := cX11_canFollow) (maxL := 6) (ret := (some .boolean)) (by decide) rfl ?_
  intro p e s m args below meth c s₁ B hml hv
  obtain ⟨rfl, ⟨hK, hN⟩, hI, hO⟩ := hv
  have hx := B.exec
  have hb := B.bytes
  have hr := B.returns
  have hts := atoms_spec (ws := wsX11_canFollow) B.pre
  have hown : s.vm.findClass RX11 = some m.cls := findClass_of_methodNamed B.named
  have hL265 := hts (.fieldLink RX11 265 "JoinBench$Form" "ends" "I") (by decide +kernel)
  have hL268 := hts (.fieldLink RX11 268 "JoinBench$Form" "begins" "I") (by decide +kernel)
  have hL19 := hts (.fieldLink RX11 19 "JoinBench" "tongue" "LJoinBench$Tongue;") (by decide +kernel)
  have hL26 := hts (.fieldLink RX11 26 "JoinBench" "row" "LJoinBench$Row;") (by decide +kernel)
  have hL142 := hts (.fieldLink RX11 142 "JoinBench$Row" "day" "I") (by decide +kernel)
  have hL250 := hts (.fieldLink RX11 250 "JoinBench$Form" "letters" "[B") (by decide +kernel)
  have hL135 := hts (.fieldLink RX11 135 "JoinBench$Row" "chain" "LJoinBench$Chain;") (by decide +kernel)
  have hL277 := hts (.fieldLink RX11 277 "JoinBench$Rule" "endSize" "I") (by decide +kernel)
  have hL280 := hts (.fieldLink RX11 280 "JoinBench$Rule" "beginningSize" "I") (by decide +kernel)
  have hinX11 : ∀ w ∈ u_ws RX11 TX11 7, w ∈ wsX11_canFollow := by decide +kernel
  have hinX2 : ∀ w ∈ u_ws RX2 TX2 8, w ∈ wsX11_canFollow := by decide +kernel
  have hinX6 : ∀ w ∈ u_ws RX6 TX6 4, w ∈ wsX11_canFollow := by decide +kernel
  have hinX7 : ∀ w ∈ u_ws RX7 TX7 9, w ∈ wsX11_canFollow := by decide +kernel
  have hl := lv_entry ([.ref o, .ref f1, .ref f2, .int (kz k)]) (n := 6) (Nat.le_of_ble_eq_true rfl)
  rw [lg_entry_eq]
  generalize (lg_sl ([.ref o, .ref f1, .ref f2, .int (kz k)]) ++ List.replicate (6 - (lg_sl ([.ref o, .ref f1, .ref f2, .int (kz k)])).length) Slot.unset).toArray = ls at hl ⊢
  have hl : lv_has ls 6 [(0, .ref o), (1, .ref f1), (2, .ref f2), (3, .int (kz k))] := hl
  refine lv_aload_n hx hb dX11_canFollow_0 rfl (lv_at hl 1 rfl) ?_
  obtain ⟨fs9, co_1, jo9⟩ := jv_o2 hI g_f1
  obtain ⟨ln_1, letters_1, kind_1, stem_1, kept_1, cost_1, number_1, ends_1, begins_1, rfl, g_letters_1, ⟨kind_1a, kind_1b⟩, ⟨stem_1a, stem_1b⟩, ⟨kept_1a, kept_1b⟩, ⟨cost_1a, cost_1b⟩, ⟨number_1a, number_1b⟩, ⟨ends_1a, ends_1b⟩, ⟨begins_1a, begins_1b⟩, x_1_0, x_1_1, x_1_2, x_1_3⟩ := jo9
  refine iz_get (D := (dC, dI)) (ci := 2) (v := .int (kz ends_1)) (C := RX2) (T := TX2) (N := 8) hx hb hts hinX2 hown hK co_1 rfl 6 (by decide) hL265 (fun _ h9 => h9) rfl dX11_canFollow_1 ?_
  refine lv_aload_n hx hb dX11_canFollow_4 rfl (lv_at hl 2 rfl) ?_
  obtain ⟨fs9, co_2, jo9⟩ := jv_o2 hI g_f2
  obtain ⟨ln_2, letters_2, kind_2, stem_2, kept_2, cost_2, number_2, ends_2, begins_2, rfl, g_letters_2, ⟨kind_2a, kind_2b⟩, ⟨stem_2a, stem_2b⟩, ⟨kept_2a, kept_2b⟩, ⟨cost_2a, cost_2b⟩, ⟨number_2a, number_2b⟩, ⟨ends_2a, ends_2b⟩, ⟨begins_2a, begins_2b⟩, x_2_0, x_2_1, x_2_2, x_2_3⟩ := jo9
  refine iz_get (D := (dC, dI)) (ci := 2) (v := .int (kz begins_2)) (C := RX2) (T := TX2) (N := 8) hx hb hts hinX2 hown hK co_2 rfl 7 (by decide) hL268 (fun _ h9 => h9) rfl dX11_canFollow_5 ?_
  refine lv_iand hx hb dX11_canFollow_8 ?_
  refine iz_any (fun z_3 z_3a z_3b z_3e => ?_)
  refine lv_aload_n hx hb dX11_canFollow_9 rfl (lv_at hl 0 rfl) ?_
  refine iz_get (D := (dC, dI)) (ci := 11) (v := .ref j_tongue) (C := RX11) (T := TX11) (N := 7) hx hb hts hinX11 hown hK hO rfl 1 (by decide) hL19 (fun _ h9 => h9) rfl dX11_canFollow_10 ?_
  refine lv_aload_n hx hb dX11_canFollow_13 rfl (lv_at hl 0 rfl) ?_
  refine iz_get (D := (dC, dI)) (ci := 11) (v := .ref j_row) (C := RX11) (T := TX11) (N := 7) hx hb hts hinX11 hown hK hO rfl 2 (by decide) hL26 (fun _ h9 => h9) rfl dX11_canFollow_14 ?_
  obtain ⟨fs9, co_4, jo9⟩ := jv_o6 hI g_j_row
  obtain ⟨chain_4, out_4, day_4, outSize_4, rfl, g_chain_4, g_out_4, ⟨day_4a, day_4b⟩, ⟨outSize_4a, outSize_4b⟩⟩ := jo9
  refine iz_get (D := (dC, dI)) (ci := 6) (v := .int (kz day_4)) (C := RX6) (T := TX6) (N := 4) hx hb hts hinX6 hown hK co_4 rfl 2 (by decide) hL142 (fun _ h9 => h9) rfl dX11_canFollow_17 ?_
  obtain ⟨fs9, co_5, jo9⟩ := jv_o9 hI g_j_tongue
  obtain ⟨forms_5, rules_5, formCount_5, ruleCount_5, forbidden_5, rfl, g_forms_5, g_rules_5, ⟨formCount_5a, formCount_5b⟩, ⟨ruleCount_5a, ruleCount_5b⟩, g_forbidden_5, x_5_0, x_5_1, x_5_2⟩ := jo9
  refine vp_callSi (va_Run.run (va_runV (As := [.int (kz day_4)]) (rest := [.int (kz z_3)]) ⟨hx, hb, hml, hown, hts⟩ (c_rulesInForce l dC dI ca A X hU j_tongue day_4 g_j_tongue (by omega)) (cwV 1 hts gX11_canFollow_X9_rulesInForce rfl rfl rfl (by decide +kernel) ⟨Nat.le_of_ble_eq_true rfl, Nat.le_of_ble_eq_true rfl⟩) ⟨fun a U g mk q => by obtain ⟨q0, ⟨qK, qN⟩, qI⟩ := q; exact ⟨q0, ⟨va_K.moved (u := U) (U := U.calling g mk a) (Vm.Alike.refl U.vm) qK, jN_same (U := U.calling g mk a) rfl qN⟩, qI⟩, va_recv hK (at_P co_5) (ci := 9) (q0 := 0) rfl rfl, fun U hU hW => ⟨rfl, jK_warm hW ⟨hK, hN⟩, by rw [hU]; exact hI⟩⟩ rfl rfl hl.1 rfl (lv_room (Nat.le_of_ble_eq_true rfl)) dX11_canFollow_20 ⟨Nat.le_of_ble_eq_true rfl, Nat.le_of_ble_eq_true rfl⟩)) (fun r_7 hw_6 => ?_)
  obtain ⟨z_8, z_8a, z_8b, rfl⟩ := kz_ex r_7
  refine lv_iand hx hb dX11_canFollow_23 ?_
  refine iz_any (fun z_9 z_9a z_9b z_9e => ?_)
  refine lv_istore (lv' := [(4, .int (kz z_9)), (0, .ref o), (1, .ref f1), (2, .ref f2), (3, .int (kz k))]) hx hb dX11_canFollow_24 hl (by decide) rfl (fun ls hl => ?_)
  refine lv_iload_n hx hb dX11_canFollow_26 rfl (lv_at hl 4 rfl) ?_
  refine lv_iconst (v := kz (-1)) hx hb dX11_canFollow_27 rfl ?_
  refine iz_ne (tgt := 42) hx hb dX11_canFollow_28 (by decide) (by unfold rg2; omega) (fun br_10 => ?_) (fun br_10 => ?_)
  · refine lv_aload_n hx hb dX11_canFollow_42 rfl (lv_at hl 1 rfl) ?_
    refine iz_get (D := (dC, dI)) (ci := 11) (v := .ref j_tongue) (C := RX11) (T := TX11) (N := 7) hx hb hts hinX11 hown hK hO rfl 1 (by decide) hL19 (fun _ h9 => h9) rfl dX11_canFollow_43 ?_
    refine lv_iload_n hx hb dX11_canFollow_46 rfl (lv_at hl 4 rfl) ?_
    refine va_csq (va_Run.run (va_runV (As := [.int (kz k)]) (rest := []) ⟨hx, hb, hml, hown, hts⟩ (c_ruleAt l dC dI ca A X hU j_tongue k g_j_tongue (by omega)) (cwV 1 hts gX11_canFollow_X9_ruleAt rfl rfl rfl (by decide +kernel) ⟨Nat.le_of_ble_eq_true rfl, Nat.le_of_ble_eq_true rfl⟩) ⟨fun a U g mk q => by obtain ⟨q0, ⟨qK, qN⟩, qI⟩ := q; exact ⟨q0, ⟨va_K.moved (u := U) (U := U.calling g mk a) (Vm.Alike.refl U.vm) qK, jN_same (U := U.calling g mk a) rfl qN⟩, qI⟩, va_recv hK (at_P co_5) (ci := 9) (q0 := 0) rfl rfl, fun U hU hW => ⟨rfl, jK_warm hW ⟨hK, hN⟩, by rw [hU]; exact hI⟩⟩ rfl rfl hl.1 rfl (lv_room (Nat.le_of_ble_eq_true rfl)) dX11_canFollow_47 ⟨Nat.le_of_ble_eq_true rfl, Nat.le_of_ble_eq_true rfl⟩)) (fun r_12 hw_11 => ?_)
    rcases r_12 with _ | b_13
    · refine W.eq (g2 := F0 m 50 ls [.null]) rfl ?_
      refine lv_astoreN (lv' := [(5, .null), (4, .int (kz z_9)), (0, .ref o), (1, .ref f1), (2, .ref f2), (3, .int (kz k))]) hx hb dX11_canFollow_50 hl (by decide) rfl (fun ls hl => ?_)
      refine lv_aloadN hx hb dX11_canFollow_52 (lv_at hl 0 rfl) ?_
      refine lv_ifnullN (tgt := 107) hx hb dX11_canFollow_54 (by decide) ?_
      refine lv_iconst (v := kz 0) hx hb dX11_canFollow_107 rfl ?_
      exact W.zret (v := kz 0) hx hb hr (by decide) (fun t9 ht hW => ⟨kz 0, rfl, Or.inr rfl, ht⟩) (fun q h => absurd h List.not_mem_nil) dX11_canFollow_108
    · obtain ⟨i_b_13, g_b_13⟩ := hw_11 b_13 rfl
      refine W.eq (g2 := F0 m 50 ls [.ref b_13]) rfl ?_
      refine lv_astore (lv' := [(5, .ref b_13), (4, .int (kz z_9)), (0, .ref o), (1, .ref f1), (2, .ref f2), (3, .int (kz k))]) hx hb dX11_canFollow_50 hl (by decide) rfl (fun ls hl => ?_)
      refine lv_aload hx hb dX11_canFollow_52 (lv_at hl 0 rfl) ?_
      refine lv_ifnull hx hb dX11_canFollow_54 ?_
      refine lv_iload hx hb dX11_canFollow_57 (lv_at hl 1 rfl) ?_
      refine lv_iload_n hx hb dX11_canFollow_59 rfl (lv_at hl 5 rfl) ?_
      refine vp_callSi (va_Run.run (va_runS (As := [.int (kz z_9), .int (kz k)]) (rest := []) ⟨hx, hb, hml, hown, hts⟩ (c_hasRule l z_9 k (by omega) (by omega)) (va_cwS 2 hts gX11_canFollow_X11_hasRule rfl rfl rfl (by decide +kernel) ⟨Nat.le_of_ble_eq_true rfl, Nat.le_of_ble_eq_true rfl⟩) ⟨fun a U g mk q => q, fun U hU hW => ⟨rfl, trivial⟩⟩ rfl rfl hl.1 rfl (lv_room (Nat.le_of_ble_eq_true rfl)) dX11_canFollow_60 ⟨Nat.le_of_ble_eq_true rfl, Nat.le_of_ble_eq_true rfl⟩)) (fun r_15 hw_14 => ?_)
      rcases hw_14 with rfl | rfl
      · refine iz_eqz (tgt := 107) hx hb dX11_canFollow_63 (by decide) (by unfold rg2; omega) (fun q9 => absurd q9 (by decide)) (fun _ => ?_)
        refine lv_aload_n hx hb dX11_canFollow_66 rfl (lv_at hl 3 rfl) ?_
        refine iz_get (D := (dC, dI)) (ci := 2) (v := .ref letters_1) (C := RX2) (T := TX2) (N := 8) hx hb hts hinX2 hown hK co_1 rfl 0 (by decide) hL250 (fun _ h9 => h9) rfl dX11_canFollow_67 ?_
        obtain ⟨f_16, c_f_16⟩ := iv_o21 (jv_iv hI) g_letters_1
        refine va_alen hx hb hK (at_P c_f_16) 0 1 rfl rfl (v := kz (ln_1 : Int)) rfl dX11_canFollow_70 ?_
        refine lv_aload_n hx hb dX11_canFollow_71 rfl (lv_at hl 2 rfl) ?_
        refine iz_get (D := (dC, dI)) (ci := 11) (v := .ref j_row) (C := RX11) (T := TX11) (N := 7) hx hb hts hinX11 hown hK hO rfl 2 (by decide) hL26 (fun _ h9 => h9) rfl dX11_canFollow_72 ?_
        refine iz_get (D := (dC, dI)) (ci := 6) (v := .ref chain_4) (C := RX6) (T := TX6) (N := 4) hx hb hts hinX6 hown hK co_4 rfl 0 (by decide) hL135 (fun _ h9 => h9) rfl dX11_canFollow_75 ?_
        obtain ⟨fs9, co_17, jo9⟩ := jv_o0 hI g_chain_4
        obtain ⟨forms_17, rules_17, size_17, rfl, g_forms_17, g_rules_17, ⟨size_17a, size_17b⟩, x_17_0⟩ := jo9
        refine vp_callSi (va_Run.run (va_runV (As := []) (rest := [.int (kz (ln_1 : Int))]) ⟨hx, hb, hml, hown, hts⟩ (c_lastCut l dC dI ca A X hU chain_4 16 g_chain_4) (cwV 0 hts gX11_canFollow_X0_lastCut rfl rfl rfl (by decide +kernel) ⟨Nat.le_of_ble_eq_true rfl, Nat.le_of_ble_eq_true rfl⟩) ⟨fun a U g mk q => by obtain ⟨q0, ⟨qK, qN⟩, qI⟩ := q; exact ⟨q0, ⟨va_K.moved (u := U) (U := U.calling g mk a) (Vm.Alike.refl U.vm) qK, jN_same (U := U.calling g mk a) rfl qN⟩, qI⟩, va_recv hK (at_P co_17) (ci := 0) (q0 := 0) rfl rfl, fun U hU hW => ⟨rfl, jK_warm hW ⟨hK, hN⟩, by rw [hU]; exact hI⟩⟩ rfl rfl hl.1 rfl (lv_room (Nat.le_of_ble_eq_true rfl)) dX11_canFollow_78 ⟨Nat.le_of_ble_eq_true rfl, Nat.le_of_ble_eq_true rfl⟩)) (fun r_19 hw_18 => ?_)
        obtain ⟨z_20, rfl, z_20h⟩ := hw_18
        refine iz_isub hx hb dX11_canFollow_81 ?_
        refine lv_aload hx hb dX11_canFollow_82 (lv_at hl 0 rfl) ?_
        obtain ⟨fs9, co_21, jo9⟩ := jv_o7 hI g_b_13
        obtain ⟨ln_21, letters_21, endSize_21, beginningSize_21, comesFrom_21, comesSize_21, cost_21, firstDay_21, lastDay_21, number_21, rfl, g_letters_21, ⟨endSize_21a, endSize_21b⟩, ⟨beginningSize_21a, beginningSize_21b⟩, ⟨comesFrom_21a, comesFrom_21b⟩, ⟨comesSize_21a, comesSize_21b⟩, ⟨cost_21a, cost_21b⟩, ⟨firstDay_21a, firstDay_21b⟩, ⟨lastDay_21a, lastDay_21b⟩, ⟨number_21a, number_21b⟩, x_21_0, x_21_1, x_21_2, x_21_3, x_21_4, x_21_5⟩ := jo9
        refine iz_get (D := (dC, dI)) (ci := 7) (v := .int (kz endSize_21)) (C := RX7) (T := TX7) (N := 9) hx hb hts hinX7 hown hK co_21 rfl 1 (by decide) hL277 (fun _ h9 => h9) rfl dX11_canFollow_84 ?_
        refine iz_le (tgt := 107) hx hb dX11_canFollow_87 (by decide) (by unfold rg2; omega) (fun br_22 => ?_) (fun br_22 => ?_)
        · refine lv_iconst (v := kz 0) hx hb dX11_canFollow_107 rfl ?_
          exact W.zret (v := kz 0) hx hb hr (by decide) (fun t9 ht hW => ⟨kz 0, rfl, Or.inr rfl, ht⟩) (fun q h => absurd h List.not_mem_nil) dX11_canFollow_108
        · refine lv_aload_n hx hb dX11_canFollow_90 rfl (lv_at hl 4 rfl) ?_
          refine iz_get (D := (dC, dI)) (ci := 2) (v := .ref letters_2) (C := RX2) (T := TX2) (N := 8) hx hb hts hinX2 hown hK co_2 rfl 0 (by decide) hL250 (fun _ h9 => h9) rfl dX11_canFollow_91 ?_
          obtain ⟨f_23, c_f_23⟩ := iv_o21 (jv_iv hI) g_letters_2
          refine va_alen hx hb hK (at_P c_f_23) 0 1 rfl rfl (v := kz (ln_2 : Int)) rfl dX11_canFollow_94 ?_
          refine lv_aload hx hb dX11_canFollow_95 (lv_at hl 0 rfl) ?_
          refine iz_get (D := (dC, dI)) (ci := 7) (v := .int (kz beginningSize_21)) (C := RX7) (T := TX7) (N := 9) hx hb hts hinX7 hown hK co_21 rfl 2 (by decide) hL280 (fun _ h9 => h9) rfl dX11_canFollow_97 ?_
          refine iz_le (tgt := 107) hx hb dX11_canFollow_100 (by decide) (by unfold rg2; omega) (fun br_24 => ?_) (fun br_24 => ?_)
          · refine lv_iconst (v := kz 0) hx hb dX11_canFollow_107 rfl ?_
            exact W.zret (v := kz 0) hx hb hr (by decide) (fun t9 ht hW => ⟨kz 0, rfl, Or.inr rfl, ht⟩) (fun q h => absurd h List.not_mem_nil) dX11_canFollow_108
          · refine lv_iconst (v := kz 1) hx hb dX11_canFollow_103 rfl ?_
            refine lv_goto (tgt := 108) hx hb dX11_canFollow_104 (by decide) ?_
            exact W.zret (v := kz 1) hx hb hr (by decide) (fun t9 ht hW => ⟨kz 1, rfl, Or.inl rfl, ht⟩) (fun q h => absurd h List.not_mem_nil) dX11_canFollow_108
      · refine iz_eqz (tgt := 107) hx hb dX11_canFollow_63 (by decide) (by unfold rg2; omega) (fun _ => ?_) (fun q9 => absurd q9 (by decide))
        refine lv_iconst (v := kz 0) hx hb dX11_canFollow_107 rfl ?_
        exact W.zret (v := kz 0) hx hb hr (by decide) (fun t9 ht hW => ⟨kz 0, rfl, Or.inr rfl, ht⟩) (fun q h => absurd h List.not_mem_nil) dX11_canFollow_108
  · refine lv_iload hx hb dX11_canFollow_31 (lv_at hl 0 rfl) ?_
    refine iz_nez (tgt := 40) hx hb dX11_canFollow_33 (by decide) (by unfold rg2; omega) (fun br_25 => ?_) (fun br_25 => ?_)
    · refine lv_iconst (v := kz 0) hx hb dX11_canFollow_40 rfl ?_
      exact W.zret (v := kz 0) hx hb hr (by decide) (fun t9 ht hW => ⟨kz 0, rfl, Or.inr rfl, ht⟩) (fun q h => absurd h List.not_mem_nil) dX11_canFollow_41
    · refine lv_iconst (v := kz 1) hx hb dX11_canFollow_36 rfl ?_
      refine lv_goto (tgt := 41) hx hb dX11_canFollow_37 (by decide) ?_
      exact W.zret (v := kz 1) hx hb hr (by decide) (fun t9 ht hW => ⟨kz 1, rfl, Or.inl rfl, ht⟩) (fun q h => absurd h List.not_mem_nil) dX11_canFollow_41
