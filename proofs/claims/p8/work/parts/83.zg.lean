set_option maxHeartbeats 4000000 in
set_option maxRecDepth 100000 in
theorem j_joinsZ (l : Launch) (dC : Nat → ClassId) (dI : Nat → Nat → Nat) (ca : Nat → ClassId) (A : Nat → Prop) (X : jG) (hU : jU X) (Hp : Heap) (z9 cz kdz nz : Nat) (loz hiz : Int) (g_z : X.1 z9 = (cz, kdz, nz, loz, hiz)) (hcz : cz = 214 ∨ cz = 229) (hkz : kdz ≠ 0) (o : Nat) (j_tape : Nat) (j_tongue : Nat) (j_row : Nat) (j_trees : Nat) (j_choices : Nat) (pv : Option Nat) (st : Int) (f : Int) (k : Int) (g_o : X.1 o = (999, 0, 0, 0, 0)) (hAo : A o) (g_j_tape : X.1 j_tape = (8, 30, 0, 0, 0)) (g_j_tongue : X.1 j_tongue = (9, 30, 0, 0, 0)) (g_j_row : X.1 j_row = (6, 30, 0, 0, 0)) (g_j_trees : X.1 j_trees = (10, 30, 0, 0, 0)) (g_j_choices : X.1 j_choices = (1, 30, 0, 0, 0)) (hpv : ∀ b : Nat, pv = some b → X.1 b = (4, 30, 0, 0, 0)) (hst : 0 ≤ st ∧ st ≤ 20) (fr : -2147483648 ≤ f ∧ f ≤ 2147483647) (kr : -2147483648 ≤ k ∧ k ≤ 2147483647) : Met l yX11_joins wsX11_joins ({ frames := 4, cells := 0, slots := 0, locals := 88 }) (va_Pc [.ref o, .int (kz f), .int (kz k)] (fun U => U.heap = Hp ∧ jK (dC, dI) ca U ∧ jv (dC, dI) ca A X U.heap ∧ va_at (dC, dI) vwCl (o, .inr (11, [.ref j_tape, .ref j_tongue, .ref j_row, .ref j_trees, .ref j_choices, va_rf pv, .int (kz st)])) U.heap)) (va_Qi (fun (r : Int32) (u : jG × Int) => prl X u.1 o [2, 201, 7, 202, 237, 238] ∧ u.2 = st) (fun (u : jG × Int) U => jK (dC, dI) ca U ∧ jv (dC, dI) ca A u.1 U.heap ∧ va_at (dC, dI) vwCl (o, .inr (11, [.ref j_tape, .ref j_tongue, .ref j_row, .ref j_trees, .ref j_choices, va_rf pv, .int (kz u.2)])) U.heap ∧ U.heap[z9]? = Hp[z9]?) A) 0 0 A := by
  refine Met.ofW (cc := cX11_joins) (maxL := 5) (ret := (some .int)) (by decide) rfl ?_
  intro p e s m args below meth c s₁ B hml hv
  obtain ⟨rfl, hHp, ⟨hK, hN⟩, hI, hO⟩ := hv
  have hx := B.exec
  have hb := B.bytes
  have hr := B.returns
  have hts := atoms_spec (ws := wsX11_joins) B.pre
  have hown : s.vm.findClass RX11 = some m.cls := findClass_of_methodNamed B.named
  have hL19 := hts (.fieldLink RX11 19 "JoinBench" "tongue" "LJoinBench$Tongue;") (by decide +kernel)
  have hL26 := hts (.fieldLink RX11 26 "JoinBench" "row" "LJoinBench$Row;") (by decide +kernel)
  have hL135 := hts (.fieldLink RX11 135 "JoinBench$Row" "chain" "LJoinBench$Chain;") (by decide +kernel)
  have hL139 := hts (.fieldLink RX11 139 "JoinBench$Chain" "size" "I") (by decide +kernel)
  have hinX0 : ∀ w ∈ u_ws RX0 TX0 3, w ∈ wsX11_joins := by decide +kernel
  have hinX11 : ∀ w ∈ u_ws RX11 TX11 7, w ∈ wsX11_joins := by decide +kernel
  have hinX6 : ∀ w ∈ u_ws RX6 TX6 4, w ∈ wsX11_joins := by decide +kernel
  obtain ⟨H, hH⟩ : ∃ H : Heap, H = s.heap := ⟨_, rfl⟩
  have hS : va_S A s.heap H [] := by rw [hH]; exact va_S.rf
  have hF : kfm X [] Hp H := by rw [hH, hHp]; exact fm_rf _ _ _
  have hP := prl_rf o [2, 201, 7, 202, 237, 238] hU
  have hFz : H[z9]? = Hp[z9]? := by rw [hH, hHp]
  rw [← hH] at hI hO ⊢
  clear hH
  have hl := lv_entry ([.ref o, .int (kz f), .int (kz k)]) (n := 5) (Nat.le_of_ble_eq_true rfl)
  rw [lg_entry_eq]
  generalize (lg_sl ([.ref o, .int (kz f), .int (kz k)]) ++ List.replicate (5 - (lg_sl ([.ref o, .int (kz f), .int (kz k)])).length) Slot.unset).toArray = ls at hl ⊢
  have hl : lv_has ls 5 [(0, .ref o), (1, .int (kz f)), (2, .int (kz k))] := hl
  refine lv_aload_n hx hb dX11_joins_0 rfl (lv_at hl 0 rfl) ?_
  refine iz_get (D := (dC, dI)) (ci := 11) (v := .ref j_tongue) (C := RX11) (T := TX11) (N := 7) hx hb hts hinX11 hown hK hO rfl 1 (by decide) hL19 (fun _ h9 => h9) rfl dX11_joins_1 ?_
  refine lv_iload_n hx hb dX11_joins_4 rfl (lv_at hl 1 rfl) ?_
  obtain ⟨fs9, co_1, jo9⟩ := jv_o9 hI g_j_tongue
  obtain ⟨forms_1, rules_1, formCount_1, ruleCount_1, forbidden_1, rfl, g_forms_1, g_rules_1, ⟨formCount_1a, formCount_1b⟩, ⟨ruleCount_1a, ruleCount_1b⟩, g_forbidden_1, x_1_0, x_1_1, x_1_2⟩ := jo9
  refine va_csq (va_Run.run (va_runV (As := [.int (kz f)]) (rest := []) ⟨hx, hb, hml, hown, hts⟩ (c_formAt l dC dI ca A X hU j_tongue f g_j_tongue (by omega)) (cwV 1 hts gX11_joins_X9_formAt rfl rfl rfl (by decide +kernel) ⟨Nat.le_of_ble_eq_true rfl, Nat.le_of_ble_eq_true rfl⟩) ⟨fun a U g mk q => by obtain ⟨q0, ⟨qK, qN⟩, qI⟩ := q; exact ⟨q0, ⟨va_K.moved (u := U) (U := U.calling g mk a) (Vm.Alike.refl U.vm) qK, jN_same (U := U.calling g mk a) rfl qN⟩, qI⟩, va_recv hK (at_P co_1) (ci := 9) (q0 := 0) rfl rfl, fun U hU hW => ⟨rfl, jK_warm hW ⟨hK, hN⟩, by rw [hU]; exact hI⟩⟩ rfl rfl hl.1 rfl (lv_room (Nat.le_of_ble_eq_true rfl)) dX11_joins_5 ⟨Nat.le_of_ble_eq_true rfl, Nat.le_of_ble_eq_true rfl⟩)) (fun r_3 hw_2 => ?_)
  rcases r_3 with _ | b_4
  · refine W.eq (g2 := F0 m 8 ls [.null]) rfl ?_
    refine lv_astore_nN (lv' := [(3, .null), (0, .ref o), (1, .int (kz f)), (2, .int (kz k))]) hx hb dX11_joins_8 rfl hl (by decide) rfl (fun ls hl => ?_)
    refine lv_aload_nN hx hb dX11_joins_9 rfl (lv_at hl 0 rfl) ?_
    refine lv_ifnullN (tgt := 28) hx hb dX11_joins_10 (by decide) ?_
    refine lv_iconst (v := kz (-1)) hx hb dX11_joins_28 rfl ?_
    exact W.iret (v := kz (-1)) hx hb hr (fun t9 ht hW => ⟨⟨kz (-1), (X, st), rfl, ⟨hP, rfl⟩, jK_warm hW ⟨hK, hN⟩, by rw [ht]; exact ⟨hI, hO, hFz⟩⟩, hS.F ht⟩) hS.2.2 dX11_joins_29
  · have g_b_4 := hw_2 b_4 rfl
    refine W.eq (g2 := F0 m 8 ls [.ref b_4]) rfl ?_
    refine lv_astore_n (lv' := [(3, .ref b_4), (0, .ref o), (1, .int (kz f)), (2, .int (kz k))]) hx hb dX11_joins_8 rfl hl (by decide) rfl (fun ls hl => ?_)
    refine lv_aload_n hx hb dX11_joins_9 rfl (lv_at hl 0 rfl) ?_
    refine lv_ifnull hx hb dX11_joins_10 ?_
    refine lv_aload_n hx hb dX11_joins_13 rfl (lv_at hl 1 rfl) ?_
    refine iz_get (D := (dC, dI)) (ci := 11) (v := .ref j_row) (C := RX11) (T := TX11) (N := 7) hx hb hts hinX11 hown hK hO rfl 2 (by decide) hL26 (fun _ h9 => h9) rfl dX11_joins_14 ?_
    obtain ⟨fs9, co_5, jo9⟩ := jv_o6 hI g_j_row
    obtain ⟨chain_5, out_5, day_5, outSize_5, rfl, g_chain_5, g_out_5, ⟨day_5a, day_5b⟩, ⟨outSize_5a, outSize_5b⟩⟩ := jo9
    refine iz_get (D := (dC, dI)) (ci := 6) (v := .ref chain_5) (C := RX6) (T := TX6) (N := 4) hx hb hts hinX6 hown hK co_5 rfl 0 (by decide) hL135 (fun _ h9 => h9) rfl dX11_joins_17 ?_
    obtain ⟨fs9, co_6, jo9⟩ := jv_o0 hI g_chain_5
    obtain ⟨forms_6, rules_6, size_6, rfl, g_forms_6, g_rules_6, ⟨size_6a, size_6b⟩, x_6_0⟩ := jo9
    refine iz_get (D := (dC, dI)) (ci := 0) (v := .int (kz size_6)) (C := RX0) (T := TX0) (N := 3) hx hb hts hinX0 hown hK co_6 rfl 2 (by decide) hL139 (fun _ h9 => h9) rfl dX11_joins_20 ?_
    refine lv_bipush (v := kz 40) hx hb dX11_joins_23 (by decide) ?_
    refine iz_lt (tgt := 30) hx hb dX11_joins_25 (by decide) (by unfold rg2; omega) (fun br_7 => ?_) (fun br_7 => ?_)
    · refine lv_aload_n hx hb dX11_joins_30 rfl (lv_at hl 1 rfl) ?_
      refine iz_get (D := (dC, dI)) (ci := 11) (v := .ref j_row) (C := RX11) (T := TX11) (N := 7) hx hb hts hinX11 hown hK hO rfl 2 (by decide) hL26 (fun _ h9 => h9) rfl dX11_joins_31 ?_
      refine iz_get (D := (dC, dI)) (ci := 6) (v := .ref chain_5) (C := RX6) (T := TX6) (N := 4) hx hb hts hinX6 hown hK co_5 rfl 0 (by decide) hL135 (fun _ h9 => h9) rfl dX11_joins_34 ?_
      refine va_csq (va_Run.run (va_runV (As := []) (rest := []) ⟨hx, hb, hml, hown, hts⟩ (c_last l dC dI ca A X hU chain_5 16 g_chain_5) (cwV 0 hts gX11_joins_X0_last rfl rfl rfl (by decide +kernel) ⟨Nat.le_of_ble_eq_true rfl, Nat.le_of_ble_eq_true rfl⟩) ⟨fun a U g mk q => by obtain ⟨q0, ⟨qK, qN⟩, qI⟩ := q; exact ⟨q0, ⟨va_K.moved (u := U) (U := U.calling g mk a) (Vm.Alike.refl U.vm) qK, jN_same (U := U.calling g mk a) rfl qN⟩, qI⟩, va_recv hK (at_P co_6) (ci := 0) (q0 := 0) rfl rfl, fun U hU hW => ⟨rfl, jK_warm hW ⟨hK, hN⟩, by rw [hU]; exact hI⟩⟩ rfl rfl hl.1 rfl (lv_room (Nat.le_of_ble_eq_true rfl)) dX11_joins_37 ⟨Nat.le_of_ble_eq_true rfl, Nat.le_of_ble_eq_true rfl⟩)) (fun r_9 hw_8 => ?_)
      rcases r_9 with _ | b_10
      · refine W.eq (g2 := F0 m 40 ls [.null]) rfl ?_
        refine lv_astoreN (lv' := [(4, .null), (3, .ref b_4), (0, .ref o), (1, .int (kz f)), (2, .int (kz k))]) hx hb dX11_joins_40 hl (by decide) rfl (fun ls hl => ?_)
        refine lv_aloadN hx hb dX11_joins_42 (lv_at hl 0 rfl) ?_
        refine lv_ifnonnullN hx hb dX11_joins_44 ?_
        refine lv_aload_n hx hb dX11_joins_47 rfl (lv_at hl 2 rfl) ?_
        refine iz_get (D := (dC, dI)) (ci := 11) (v := .ref j_row) (C := RX11) (T := TX11) (N := 7) hx hb hts hinX11 hown hK hO rfl 2 (by decide) hL26 (fun _ h9 => h9) rfl dX11_joins_48 ?_
        refine iz_get (D := (dC, dI)) (ci := 6) (v := .ref chain_5) (C := RX6) (T := TX6) (N := 4) hx hb hts hinX6 hown hK co_5 rfl 0 (by decide) hL135 (fun _ h9 => h9) rfl dX11_joins_51 ?_
        refine lv_aload_n hx hb dX11_joins_54 rfl (lv_at hl 1 rfl) ?_
        refine lv_null hx hb dX11_joins_55 ?_
        refine va_callv (va_runV (As := [.ref b_4, .null]) (rest := []) ⟨hx, hb, hml, hown, hts⟩ (c_appendN l dC dI ca A X hU H chain_5 b_4 16 forms_6 rules_6 size_6 g_chain_5 g_b_4 g_forms_6 g_rules_6 (by omega) (by omega)) (cwV 2 hts gX11_joins_X0_append rfl rfl rfl (by decide +kernel) ⟨Nat.le_of_ble_eq_true rfl, Nat.le_of_ble_eq_true rfl⟩) ⟨fun a U g mk q => by obtain ⟨q0, qH, ⟨qK, qN⟩, qI⟩ := q; exact ⟨q0, qH, ⟨va_K.moved (u := U) (U := U.calling g mk a) (Vm.Alike.refl U.vm) qK, jN_same (U := U.calling g mk a) rfl qN⟩, qI⟩, va_recv hK (at_P co_6) (ci := 0) (q0 := 0) rfl rfl, fun U hU hW => ⟨rfl, hU, jK_warm hW ⟨hK, hN⟩, by rw [hU]; exact ⟨hI, co_6⟩⟩⟩ rfl rfl hl.1 rfl (lv_room (Nat.le_of_ble_eq_true rfl)) dX11_joins_56 ⟨Nat.le_of_ble_eq_true rfl, Nat.le_of_ble_eq_true rfl⟩) hS (fun q _ h => h) (fun q h => h) (fun X t9 H locs ht hvm hw_11 hB hz1 hk1 hS => ?_)
        obtain ⟨-, hI, hf9⟩ := hB
        rw [ht] at hI hf9
        have hFz := (hf9 z9 (by rw [g_z]; rcases hcz with h9 | h9 <;> first | (simp [h9]; done) | (simp [Lc, h9]; done))).trans hFz
        clear ht hvm hz1
        have hO := fk_at hf9 g_o (by simp [Lc]) hO
        have g_z := up_t hw_11 g_z
        have g_b_4 := up_t hw_11 g_b_4
        have g_o := up_t hw_11 g_o
        have g_j_tape := up_t hw_11 g_j_tape
        have g_j_tongue := up_t hw_11 g_j_tongue
        have g_j_row := up_t hw_11 g_j_row
        have g_j_trees := up_t hw_11 g_j_trees
        have g_j_choices := up_t hw_11 g_j_choices
        have g_forms_1 := up_t hw_11 g_forms_1
        have g_rules_1 := up_t hw_11 g_rules_1
        have g_forbidden_1 := up_t hw_11 g_forbidden_1
        have g_chain_5 := up_t hw_11 g_chain_5
        have g_out_5 := up_t hw_11 g_out_5
        have g_forms_6 := up_t hw_11 g_forms_6
        have g_rules_6 := up_t hw_11 g_rules_6
        have hU := up_U hw_11 hU
        have hpv := fun b q => up_t hw_11 (hpv b q)
        have hP := prl_up hP hw_11
        clear hk1 hf9
        refine lv_aload_n hx hb dX11_joins_59 rfl (lv_at hl 2 rfl) ?_
        refine iz_get (D := (dC, dI)) (ci := 11) (v := .ref j_row) (C := RX11) (T := TX11) (N := 7) hx hb hts hinX11 hown hK hO rfl 2 (by decide) hL26 (fun _ h9 => h9) rfl dX11_joins_60 ?_
        obtain ⟨fs9, co_13, jo9⟩ := jv_o6 hI g_j_row
        obtain ⟨chain_13, out_13, day_13, outSize_13, rfl, g_chain_13, g_out_13, ⟨day_13a, day_13b⟩, ⟨outSize_13a, outSize_13b⟩⟩ := jo9
        have e9 : chain_5 = chain_13 := jU_eq hU g_chain_5 g_chain_13 (show (30 : Nat) ≠ 0 by decide) (show uq 0 = true by decide)
        subst e9
        have e9 : out_5 = out_13 := jU_eq hU g_out_5 g_out_13 (show (21 : Nat) ≠ 0 by decide) (show uq 203 = true by decide)
        subst e9
        refine iz_get (D := (dC, dI)) (ci := 6) (v := .ref chain_5) (C := RX6) (T := TX6) (N := 4) hx hb hts hinX6 hown hK co_13 rfl 0 (by decide) hL135 (fun _ h9 => h9) rfl dX11_joins_63 ?_
        obtain ⟨fs9, co_14, jo9⟩ := jv_o0 hI g_chain_13
        obtain ⟨forms_14, rules_14, size_14, rfl, g_forms_14, g_rules_14, ⟨size_14a, size_14b⟩, x_14_0⟩ := jo9
        have e9 : forms_6 = forms_14 := jU_eq hU g_forms_6 g_forms_14 (show (24 : Nat) ≠ 0 by decide) (show uq 210 = true by decide)
        subst e9
        have e9 : rules_6 = rules_14 := jU_eq hU g_rules_6 g_rules_14 (show (25 : Nat) ≠ 0 by decide) (show uq 211 = true by decide)
        subst e9
        refine iz_get (D := (dC, dI)) (ci := 0) (v := .int (kz size_14)) (C := RX0) (T := TX0) (N := 3) hx hb hts hinX0 hown hK co_14 rfl 2 (by decide) hL139 (fun _ h9 => h9) rfl dX11_joins_66 ?_
        exact W.iret (v := kz size_14) hx hb hr (fun t9 ht hW => ⟨⟨kz size_14, (X, st), rfl, ⟨hP, rfl⟩, jK_warm hW ⟨hK, hN⟩, by rw [ht]; exact ⟨hI, hO, hFz⟩⟩, hS.F ht⟩) hS.2.2 dX11_joins_69
      · have g_b_10 := hw_8 b_10 rfl
        refine W.eq (g2 := F0 m 40 ls [.ref b_10]) rfl ?_
        refine lv_astore (lv' := [(4, .ref b_10), (3, .ref b_4), (0, .ref o), (1, .int (kz f)), (2, .int (kz k))]) hx hb dX11_joins_40 hl (by decide) rfl (fun ls hl => ?_)
        refine lv_aload hx hb dX11_joins_42 (lv_at hl 0 rfl) ?_
        refine lv_ifnonnull (tgt := 70) hx hb dX11_joins_44 (by decide) ?_
        refine lv_aload_n hx hb dX11_joins_70 rfl (lv_at hl 2 rfl) ?_
        refine lv_aload hx hb dX11_joins_71 (lv_at hl 0 rfl) ?_
        refine lv_aload_n hx hb dX11_joins_73 rfl (lv_at hl 1 rfl) ?_
        refine lv_iload_n hx hb dX11_joins_74 rfl (lv_at hl 4 rfl) ?_
        refine vp_callSi (va_Run.run (va_runV (As := [.ref b_10, .ref b_4, .int (kz k)]) (rest := []) ⟨hx, hb, hml, hown, hts⟩ (j_canFollow l dC dI ca A X hU o j_tape j_tongue j_row j_trees j_choices pv st b_10 b_4 k g_o hAo g_j_tape g_j_tongue g_j_row g_j_trees g_j_choices hpv (by omega) g_b_10 g_b_4 (by omega)) (cwV 3 hts gX11_joins_X11_canFollow rfl rfl rfl (by decide +kernel) ⟨Nat.le_of_ble_eq_true rfl, Nat.le_of_ble_eq_true rfl⟩) ⟨fun a U g mk q => by obtain ⟨q0, ⟨qK, qN⟩, qI⟩ := q; exact ⟨q0, ⟨va_K.moved (u := U) (U := U.calling g mk a) (Vm.Alike.refl U.vm) qK, jN_same (U := U.calling g mk a) rfl qN⟩, qI⟩, va_recv hK (at_P hO) (ci := 11) (q0 := 0) rfl rfl, fun U hU hW => ⟨rfl, jK_warm hW ⟨hK, hN⟩, by rw [hU]; exact ⟨hI, hO⟩⟩⟩ rfl rfl hl.1 rfl (lv_room (Nat.le_of_ble_eq_true rfl)) dX11_joins_75 ⟨Nat.le_of_ble_eq_true rfl, Nat.le_of_ble_eq_true rfl⟩)) (fun r_16 hw_15 => ?_)
        rcases hw_15 with rfl | rfl
        · refine iz_nez (tgt := 83) hx hb dX11_joins_78 (by decide) (by unfold rg2; omega) (fun _ => ?_) (fun q9 => absurd q9 (by decide))
          refine lv_aload_n hx hb dX11_joins_83 rfl (lv_at hl 2 rfl) ?_
          refine iz_get (D := (dC, dI)) (ci := 11) (v := .ref j_row) (C := RX11) (T := TX11) (N := 7) hx hb hts hinX11 hown hK hO rfl 2 (by decide) hL26 (fun _ h9 => h9) rfl dX11_joins_84 ?_
          refine iz_get (D := (dC, dI)) (ci := 6) (v := .ref chain_5) (C := RX6) (T := TX6) (N := 4) hx hb hts hinX6 hown hK co_5 rfl 0 (by decide) hL135 (fun _ h9 => h9) rfl dX11_joins_87 ?_
          refine lv_aload_n hx hb dX11_joins_90 rfl (lv_at hl 1 rfl) ?_
          refine lv_aload_n hx hb dX11_joins_91 rfl (lv_at hl 2 rfl) ?_
          refine iz_get (D := (dC, dI)) (ci := 11) (v := .ref j_tongue) (C := RX11) (T := TX11) (N := 7) hx hb hts hinX11 hown hK hO rfl 1 (by decide) hL19 (fun _ h9 => h9) rfl dX11_joins_92 ?_
          refine lv_iload_n hx hb dX11_joins_95 rfl (lv_at hl 4 rfl) ?_
          refine va_csq (va_Run.run (va_runV (As := [.int (kz k)]) (rest := [.ref b_4, .ref chain_5]) ⟨hx, hb, hml, hown, hts⟩ (c_ruleAt l dC dI ca A X hU j_tongue k g_j_tongue (by omega)) (cwV 1 hts gX11_joins_X9_ruleAt rfl rfl rfl (by decide +kernel) ⟨Nat.le_of_ble_eq_true rfl, Nat.le_of_ble_eq_true rfl⟩) ⟨fun a U g mk q => by obtain ⟨q0, ⟨qK, qN⟩, qI⟩ := q; exact ⟨q0, ⟨va_K.moved (u := U) (U := U.calling g mk a) (Vm.Alike.refl U.vm) qK, jN_same (U := U.calling g mk a) rfl qN⟩, qI⟩, va_recv hK (at_P co_1) (ci := 9) (q0 := 0) rfl rfl, fun U hU hW => ⟨rfl, jK_warm hW ⟨hK, hN⟩, by rw [hU]; exact hI⟩⟩ rfl rfl hl.1 rfl (lv_room (Nat.le_of_ble_eq_true rfl)) dX11_joins_96 ⟨Nat.le_of_ble_eq_true rfl, Nat.le_of_ble_eq_true rfl⟩)) (fun r_18 hw_17 => ?_)
          rcases r_18 with _ | b_19
          · refine W.eq (g2 := F0 m 99 ls [.null, .ref b_4, .ref chain_5]) rfl ?_
            refine va_callv (va_runV (As := [.ref b_4, .null]) (rest := []) ⟨hx, hb, hml, hown, hts⟩ (c_appendN l dC dI ca A X hU H chain_5 b_4 16 forms_6 rules_6 size_6 g_chain_5 g_b_4 g_forms_6 g_rules_6 (by omega) (by omega)) (cwV 2 hts gX11_joins_X0_append rfl rfl rfl (by decide +kernel) ⟨Nat.le_of_ble_eq_true rfl, Nat.le_of_ble_eq_true rfl⟩) ⟨fun a U g mk q => by obtain ⟨q0, qH, ⟨qK, qN⟩, qI⟩ := q; exact ⟨q0, qH, ⟨va_K.moved (u := U) (U := U.calling g mk a) (Vm.Alike.refl U.vm) qK, jN_same (U := U.calling g mk a) rfl qN⟩, qI⟩, va_recv hK (at_P co_6) (ci := 0) (q0 := 0) rfl rfl, fun U hU hW => ⟨rfl, hU, jK_warm hW ⟨hK, hN⟩, by rw [hU]; exact ⟨hI, co_6⟩⟩⟩ rfl rfl hl.1 rfl (lv_room (Nat.le_of_ble_eq_true rfl)) dX11_joins_99 ⟨Nat.le_of_ble_eq_true rfl, Nat.le_of_ble_eq_true rfl⟩) hS (fun q _ h => h) (fun q h => h) (fun X t9 H locs ht hvm hw_20 hB hz1 hk1 hS => ?_)
            obtain ⟨-, hI, hf9⟩ := hB
            rw [ht] at hI hf9
            have hFz := (hf9 z9 (by rw [g_z]; rcases hcz with h9 | h9 <;> first | (simp [h9]; done) | (simp [Lc, h9]; done))).trans hFz
            clear ht hvm hz1
            have hO := fk_at hf9 g_o (by simp [Lc]) hO
            have g_z := up_t hw_20 g_z
            have g_b_10 := up_t hw_20 g_b_10
            have g_b_4 := up_t hw_20 g_b_4
            have g_o := up_t hw_20 g_o
            have g_j_tape := up_t hw_20 g_j_tape
            have g_j_tongue := up_t hw_20 g_j_tongue
            have g_j_row := up_t hw_20 g_j_row
            have g_j_trees := up_t hw_20 g_j_trees
            have g_j_choices := up_t hw_20 g_j_choices
            have g_forms_1 := up_t hw_20 g_forms_1
            have g_rules_1 := up_t hw_20 g_rules_1
            have g_forbidden_1 := up_t hw_20 g_forbidden_1
            have g_chain_5 := up_t hw_20 g_chain_5
            have g_out_5 := up_t hw_20 g_out_5
            have g_forms_6 := up_t hw_20 g_forms_6
            have g_rules_6 := up_t hw_20 g_rules_6
            have hU := up_U hw_20 hU
            have hpv := fun b q => up_t hw_20 (hpv b q)
            have hP := prl_up hP hw_20
            clear hk1 hf9
            refine lv_aload_n hx hb dX11_joins_102 rfl (lv_at hl 2 rfl) ?_
            refine iz_get (D := (dC, dI)) (ci := 11) (v := .ref j_row) (C := RX11) (T := TX11) (N := 7) hx hb hts hinX11 hown hK hO rfl 2 (by decide) hL26 (fun _ h9 => h9) rfl dX11_joins_103 ?_
            obtain ⟨fs9, co_22, jo9⟩ := jv_o6 hI g_j_row
            obtain ⟨chain_22, out_22, day_22, outSize_22, rfl, g_chain_22, g_out_22, ⟨day_22a, day_22b⟩, ⟨outSize_22a, outSize_22b⟩⟩ := jo9
            have e9 : chain_5 = chain_22 := jU_eq hU g_chain_5 g_chain_22 (show (30 : Nat) ≠ 0 by decide) (show uq 0 = true by decide)
            subst e9
            have e9 : out_5 = out_22 := jU_eq hU g_out_5 g_out_22 (show (21 : Nat) ≠ 0 by decide) (show uq 203 = true by decide)
            subst e9
            refine iz_get (D := (dC, dI)) (ci := 6) (v := .ref chain_5) (C := RX6) (T := TX6) (N := 4) hx hb hts hinX6 hown hK co_22 rfl 0 (by decide) hL135 (fun _ h9 => h9) rfl dX11_joins_106 ?_
            obtain ⟨fs9, co_23, jo9⟩ := jv_o0 hI g_chain_22
            obtain ⟨forms_23, rules_23, size_23, rfl, g_forms_23, g_rules_23, ⟨size_23a, size_23b⟩, x_23_0⟩ := jo9
            have e9 : forms_6 = forms_23 := jU_eq hU g_forms_6 g_forms_23 (show (24 : Nat) ≠ 0 by decide) (show uq 210 = true by decide)
            subst e9
            have e9 : rules_6 = rules_23 := jU_eq hU g_rules_6 g_rules_23 (show (25 : Nat) ≠ 0 by decide) (show uq 211 = true by decide)
            subst e9
            refine iz_get (D := (dC, dI)) (ci := 0) (v := .int (kz size_23)) (C := RX0) (T := TX0) (N := 3) hx hb hts hinX0 hown hK co_23 rfl 2 (by decide) hL139 (fun _ h9 => h9) rfl dX11_joins_109 ?_
            exact W.iret (v := kz size_23) hx hb hr (fun t9 ht hW => ⟨⟨kz size_23, (X, st), rfl, ⟨hP, rfl⟩, jK_warm hW ⟨hK, hN⟩, by rw [ht]; exact ⟨hI, hO, hFz⟩⟩, hS.F ht⟩) hS.2.2 dX11_joins_112
          · obtain ⟨i_b_19, g_b_19⟩ := hw_17 b_19 rfl
            refine W.eq (g2 := F0 m 99 ls [.ref b_19, .ref b_4, .ref chain_5]) rfl ?_
            refine va_callv (va_runV (As := [.ref b_4, .ref b_19]) (rest := []) ⟨hx, hb, hml, hown, hts⟩ (c_appendR l dC dI ca A X hU H chain_5 b_4 b_19 16 i_b_19 forms_6 rules_6 size_6 g_chain_5 g_b_4 g_b_19 g_forms_6 g_rules_6 (by omega) (by omega)) (cwV 2 hts gX11_joins_X0_append rfl rfl rfl (by decide +kernel) ⟨Nat.le_of_ble_eq_true rfl, Nat.le_of_ble_eq_true rfl⟩) ⟨fun a U g mk q => by obtain ⟨q0, qH, ⟨qK, qN⟩, qI⟩ := q; exact ⟨q0, qH, ⟨va_K.moved (u := U) (U := U.calling g mk a) (Vm.Alike.refl U.vm) qK, jN_same (U := U.calling g mk a) rfl qN⟩, qI⟩, va_recv hK (at_P co_6) (ci := 0) (q0 := 0) rfl rfl, fun U hU hW => ⟨rfl, hU, jK_warm hW ⟨hK, hN⟩, by rw [hU]; exact ⟨hI, co_6⟩⟩⟩ rfl rfl hl.1 rfl (lv_room (Nat.le_of_ble_eq_true rfl)) dX11_joins_99 ⟨Nat.le_of_ble_eq_true rfl, Nat.le_of_ble_eq_true rfl⟩) hS (fun q _ h => h) (fun q h => h) (fun X t9 H locs ht hvm hw_24 hB hz1 hk1 hS => ?_)
            obtain ⟨-, hI, hf9⟩ := hB
            rw [ht] at hI hf9
            have hFz := (hf9 z9 (by rw [g_z]; rcases hcz with h9 | h9 <;> first | (simp [h9]; done) | (simp [Lc, h9]; done))).trans hFz
            clear ht hvm hz1
            have hO := fk_at hf9 g_o (by simp [Lc]) hO
            have g_z := up_t hw_24 g_z
            have g_b_10 := up_t hw_24 g_b_10
            have g_b_4 := up_t hw_24 g_b_4
            have g_o := up_t hw_24 g_o
            have g_j_tape := up_t hw_24 g_j_tape
            have g_j_tongue := up_t hw_24 g_j_tongue
            have g_j_row := up_t hw_24 g_j_row
            have g_j_trees := up_t hw_24 g_j_trees
            have g_j_choices := up_t hw_24 g_j_choices
            have g_forms_1 := up_t hw_24 g_forms_1
            have g_rules_1 := up_t hw_24 g_rules_1
            have g_forbidden_1 := up_t hw_24 g_forbidden_1
            have g_chain_5 := up_t hw_24 g_chain_5
            have g_out_5 := up_t hw_24 g_out_5
            have g_forms_6 := up_t hw_24 g_forms_6
            have g_rules_6 := up_t hw_24 g_rules_6
            have hU := up_U hw_24 hU
            have hpv := fun b q => up_t hw_24 (hpv b q)
            have hP := prl_up hP hw_24
            clear hk1 hf9
            refine lv_aload_n hx hb dX11_joins_102 rfl (lv_at hl 2 rfl) ?_
            refine iz_get (D := (dC, dI)) (ci := 11) (v := .ref j_row) (C := RX11) (T := TX11) (N := 7) hx hb hts hinX11 hown hK hO rfl 2 (by decide) hL26 (fun _ h9 => h9) rfl dX11_joins_103 ?_
            obtain ⟨fs9, co_26, jo9⟩ := jv_o6 hI g_j_row
            obtain ⟨chain_26, out_26, day_26, outSize_26, rfl, g_chain_26, g_out_26, ⟨day_26a, day_26b⟩, ⟨outSize_26a, outSize_26b⟩⟩ := jo9
            have e9 : chain_5 = chain_26 := jU_eq hU g_chain_5 g_chain_26 (show (30 : Nat) ≠ 0 by decide) (show uq 0 = true by decide)
            subst e9
            have e9 : out_5 = out_26 := jU_eq hU g_out_5 g_out_26 (show (21 : Nat) ≠ 0 by decide) (show uq 203 = true by decide)
            subst e9
            refine iz_get (D := (dC, dI)) (ci := 6) (v := .ref chain_5) (C := RX6) (T := TX6) (N := 4) hx hb hts hinX6 hown hK co_26 rfl 0 (by decide) hL135 (fun _ h9 => h9) rfl dX11_joins_106 ?_
            obtain ⟨fs9, co_27, jo9⟩ := jv_o0 hI g_chain_26
            obtain ⟨forms_27, rules_27, size_27, rfl, g_forms_27, g_rules_27, ⟨size_27a, size_27b⟩, x_27_0⟩ := jo9
            have e9 : forms_6 = forms_27 := jU_eq hU g_forms_6 g_forms_27 (show (24 : Nat) ≠ 0 by decide) (show uq 210 = true by decide)
            subst e9
            have e9 : rules_6 = rules_27 := jU_eq hU g_rules_6 g_rules_27 (show (25 : Nat) ≠ 0 by decide) (show uq 211 = true by decide)
            subst e9
            refine iz_get (D := (dC, dI)) (ci := 0) (v := .int (kz size_27)) (C := RX0) (T := TX0) (N := 3) hx hb hts hinX0 hown hK co_27 rfl 2 (by decide) hL139 (fun _ h9 => h9) rfl dX11_joins_109 ?_
            exact W.iret (v := kz size_27) hx hb hr (fun t9 ht hW => ⟨⟨kz size_27, (X, st), rfl, ⟨hP, rfl⟩, jK_warm hW ⟨hK, hN⟩, by rw [ht]; exact ⟨hI, hO, hFz⟩⟩, hS.F ht⟩) hS.2.2 dX11_joins_112
        · refine iz_nez (tgt := 83) hx hb dX11_joins_78 (by decide) (by unfold rg2; omega) (fun q9 => absurd q9 (by decide)) (fun _ => ?_)
          refine lv_iconst (v := kz (-1)) hx hb dX11_joins_81 rfl ?_
          exact W.iret (v := kz (-1)) hx hb hr (fun t9 ht hW => ⟨⟨kz (-1), (X, st), rfl, ⟨hP, rfl⟩, jK_warm hW ⟨hK, hN⟩, by rw [ht]; exact ⟨hI, hO, hFz⟩⟩, hS.F ht⟩) hS.2.2 dX11_joins_82
    · refine lv_iconst (v := kz (-1)) hx hb dX11_joins_28 rfl ?_
      exact W.iret (v := kz (-1)) hx hb hr (fun t9 ht hW => ⟨⟨kz (-1), (X, st), rfl, ⟨hP, rfl⟩, jK_warm hW ⟨hK, hN⟩, by rw [ht]; exact ⟨hI, hO, hFz⟩⟩, hS.F ht⟩) hS.2.2 dX11_joins_29
set_option maxHeartbeats 4000000 in
set_option maxRecDepth 100000 in
theorem c_addFormZ (l : Launch) (dC : Nat → ClassId) (dI : Nat → Nat → Nat) (ca : Nat → ClassId) (A : Nat → Prop) (X : jG) (hU : jU X) (Hp : Heap) (z9 cz kdz nz : Nat) (loz hiz : Int) (g_z : X.1 z9 = (cz, kdz, nz, loz, hiz)) (hcz : cz = 214 ∨ cz = 229) (hkz : kdz ≠ 0) (a0 fo ar fb : Nat) (fc rc : Int) (x lt o : Nat) (kd st kp co : Int) (ln : Nat) (g_a0 : X.1 a0 = (9, 30, 0, 0, 0)) (g_fo : X.1 fo = (212, 24, 40, 2, 0)) (g_ar : X.1 ar = (213, 29, 24, 7, 0)) (g_fb : X.1 fb = (214, 22, 36, 0, 0)) (hfc : 0 ≤ fc ∧ fc ≤ 40) (hrc : 0 ≤ rc ∧ rc ≤ 24) (x0 : fc ≤ (X.2.1 fo : Int)) (x1 : rc ≤ (X.2.1 ar : Int)) (x2 : rc = (X.2.2.2 : Int)) (h0_x : (X.1 x).2.1 = 0) (hAx : A x) (g_o : X.1 o = (999, 0, 0, 0, 0)) (hxo : x ≠ o) (g_lt : X.1 lt = (201, 21, ln, 0, 0)) (hkd : 0 ≤ kd ∧ kd ≤ 5) (hst : 0 ≤ st ∧ st ≤ 19) (hkp : -2147483648 ≤ kp ∧ kp ≤ 2147483647) (hco : -2147483648 ≤ co ∧ co ≤ 2147483647) (hln : 1 ≤ ln ∧ ln ≤ 8) : Met l yX9_addForm wsX9_addForm ({ frames := 3, cells := 0, slots := 0, locals := 70 }) (va_Pc [.ref a0, .ref x] (fun U => U.heap = Hp ∧ jK (dC, dI) ca U ∧ jv (dC, dI) ca A X U.heap ∧ va_at (dC, dI) vwCl (a0, .inr (9, [.ref fo, .ref ar, .int (kz fc), .int (kz rc), .ref fb])) U.heap ∧ va_at (dC, dI) vwCl (x, .inr (2, [.ref lt, .int (kz kd), .int (kz st), .int (kz kp), .int (kz co), .int (kz (-1)), .int (kz 0), .int (kz 0)])) U.heap)) (va_Qi (fun (r : Int32) (u : jG) => jaf X u x [2]) (fun u U => jK (dC, dI) ca U ∧ jv (dC, dI) ca A u U.heap ∧ U.heap[o]? = Hp[o]? ∧ U.heap[z9]? = Hp[z9]?) A) 0 0 A := by
  refine Met.ofW (cc := cX9_addForm) (maxL := 3) (ret := some .int) (by decide) rfl ?_
  intro p e s m args below meth c s₁ B hml hv
  obtain ⟨rfl, hHp, ⟨hK, hN⟩, hI, co_a0, c_x⟩ := hv
  have hx := B.exec
  have hb := B.bytes
  have hr := B.returns
  have hts := atoms_spec (ws := wsX9_addForm) B.pre
  have hown : s.vm.findClass RX9 = some m.cls := findClass_of_methodNamed B.named
  have hL23 := hts (.fieldLink RX9 23 "JoinBench$Tongue" "formCount" "I") (by decide +kernel)
  have hL34 := hts (.fieldLink RX9 34 "JoinBench$Form" "number" "I") (by decide +kernel)
  have hL11 := hts (.fieldLink RX9 11 "JoinBench$Tongue" "forms" "[LJoinBench$Form;") (by decide +kernel)
  have hL27 := hts (.fieldLink RX9 27 "JoinBench$Tongue" "ruleCount" "I") (by decide +kernel)
  have hL19 := hts (.fieldLink RX9 19 "JoinBench$Tongue" "rules" "[LJoinBench$Rule;") (by decide +kernel)
  have hinX2 : ∀ w ∈ u_ws RX2 TX2 8, w ∈ wsX9_addForm := by decide +kernel
  have hinX9 : ∀ w ∈ u_ws RX9 TX9 5, w ∈ wsX9_addForm := by decide +kernel
  have hAf := af_rf x [2] hU
  have g_o0 : (X.1 o).2.1 = 0 := by rw [g_o]
  obtain ⟨H, hH⟩ : ∃ H : Heap, H = s.heap := ⟨_, rfl⟩
  have hS : va_S A s.heap H [] := by rw [hH]; exact va_S.rf
  have hFo : H[o]? = Hp[o]? := by rw [hH, hHp]
  have hFz : H[z9]? = Hp[z9]? := by rw [hH, hHp]
  rw [← hH] at hI co_a0 c_x ⊢
  clear hH
  have hl := lv_entry ([.ref a0, .ref x]) (n := 3) (Nat.le_of_ble_eq_true rfl)
  rw [lg_entry_eq]
  generalize (lg_sl ([.ref a0, .ref x]) ++ List.replicate (3 - (lg_sl ([.ref a0, .ref x])).length) Slot.unset).toArray = ls at hl ⊢
  have hl : lv_has ls 3 [(0, .ref a0), (1, .ref x)] := hl
  refine lv_aload_n hx hb dX9_addForm_0 rfl (lv_at hl 0 rfl) ?_
  refine iz_get (D := (dC, dI)) (ci := 9) (v := .int (kz fc)) (C := RX9) (T := TX9) (N := 5) hx hb hts hinX9 hown hK co_a0 rfl 2 (by decide) hL23 (fun _ h9 => h9) rfl dX9_addForm_1 ?_
  refine lv_bipush (v := kz 40) hx hb dX9_addForm_4 (by decide) ?_
  refine iz_lt (tgt := 11) hx hb dX9_addForm_6 (by decide) (by unfold rg2; omega) (fun br_1 => ?_) (fun br_1 => ?_)
  · refine lv_aload_n hx hb dX9_addForm_11 rfl (lv_at hl 1 rfl) ?_
    refine lv_aload_n hx hb dX9_addForm_12 rfl (lv_at hl 0 rfl) ?_
    refine iz_get (D := (dC, dI)) (ci := 9) (v := .int (kz fc)) (C := RX9) (T := TX9) (N := 5) hx hb hts hinX9 hown hK co_a0 rfl 2 (by decide) hL23 (fun _ h9 => h9) rfl dX9_addForm_13 ?_
    refine iz_put (D := (dC, dI)) (ci := 2) (v := .int (kz fc)) (ty := .int) (C := RX2) (T := TX2) (N := 8) hx hb hts hinX2 tyX2 tyX2_ok nmX2 hown hK c_x hS hAx rfl 5 (by decide) hL34 (fun _ h9 => h9) rfl (by decide +kernel) rfl rfl (Nat.le_of_ble_eq_true rfl) dX9_addForm_16 (fun H locs c9 oq hS => ?_)
    have hFz := (oq _ (kn_ne0 g_z h0_x hkz)).trans hFz
    have hI := jv_skip hI h0_x oq
    have co_a0 := co_a0.kept (oq _ (kn_ne0 g_a0 h0_x (show (30 : Nat) ≠ 0 by decide)))
    have hFo := (oq _ (Ne.symm hxo)).trans hFo
    have c_x := c9
    clear oq c9
    have hle9 := jset_le (X := X) (x := x) (2, 30, 0, 0, 0) ln h0_x
    have hI := jv_new1 (t := (2, 30, 0, 0, 0)) (n := ln) hI h0_x hAx (fun q _ => rfl) c_x (jv_c2 ⟨ln, lt, kd, st, kp, co, fc, 0, 0, rfl, le_t hle9 g_lt (show (21 : Nat) ≠ 0 by decide), hkd, hst, hkp, hco, ⟨by omega, by omega⟩, ⟨by omega, by omega⟩, ⟨by omega, by omega⟩, by omega, by omega, jb_zero _ _, by rw [jset_n]⟩)
    have hU := jset_U (x := x) (t := (2, 30, 0, 0, 0)) ln hU h0_x (fun q9 => absurd q9 (show ¬ uq 2 = true by decide))
    have hAf := af_set (X := X) (x := x) (t := (2, 30, 0, 0, 0)) (L := [2]) ln hU (by decide)
    have g_o : (jset X x (2, 30, 0, 0, 0) ln).1 o = (999, 0, 0, 0, 0) := by rw [jset_ne X _ _ (Ne.symm hxo)]; exact g_o
    have g_o0 : ((jset X x (2, 30, 0, 0, 0) ln).1 o).2.1 = 0 := by rw [g_o]
    have g_x := jset_self X x (2, 30, 0, 0, 0) ln
    have gn_x := jset_n X x (2, 30, 0, 0, 0) ln
    obtain ⟨X, hY9⟩ : ∃ Y9 : jG, Y9 = jset X x (2, 30, 0, 0, 0) ln := ⟨_, rfl⟩
    rw [← hY9] at hle9 hI hU hAf g_o g_o0 g_x gn_x
    clear hY9
    have x0 : fc ≤ (X.2.1 fo : Int) := by rw [(hle9.1 fo (by rw [g_fo]; exact (by decide : (24 : Nat) ≠ 0))).2]; exact x0
    have x1 : rc ≤ (X.2.1 ar : Int) := by rw [(hle9.1 ar (by rw [g_ar]; exact (by decide : (29 : Nat) ≠ 0))).2]; exact x1
    have x2 : rc = (X.2.2.2 : Int) := by rw [hle9.2]; exact x2
    have g_z := le_t hle9 g_z hkz
    have g_a0 := le_t hle9 g_a0 (show (30 : Nat) ≠ 0 by decide)
    have g_fo := le_t hle9 g_fo (show (24 : Nat) ≠ 0 by decide)
    have g_ar := le_t hle9 g_ar (show (29 : Nat) ≠ 0 by decide)
    have g_fb := le_t hle9 g_fb (show (22 : Nat) ≠ 0 by decide)
    clear hle9
    refine lv_aload_n hx hb dX9_addForm_19 rfl (lv_at hl 0 rfl) ?_
    refine iz_get (D := (dC, dI)) (ci := 9) (v := .ref fo) (C := RX9) (T := TX9) (N := 5) hx hb hts hinX9 hown hK co_a0 rfl 0 (by decide) hL11 (fun _ h9 => h9) rfl dX9_addForm_20 ?_
    refine lv_aload_n hx hb dX9_addForm_23 rfl (lv_at hl 0 rfl) ?_
    refine iz_get (D := (dC, dI)) (ci := 9) (v := .int (kz fc)) (C := RX9) (T := TX9) (N := 5) hx hb hts hinX9 hown hK co_a0 rfl 2 (by decide) hL23 (fun _ h9 => h9) rfl dX9_addForm_24 ?_
    refine lv_aload_n hx hb dX9_addForm_27 rfl (lv_at hl 1 rfl) ?_
    obtain ⟨f_2, c_f_2, k_f_2⟩ := jv_q24 hI g_fo
    obtain ⟨fs9, co_3, jo9⟩ := jv_o2 hI g_x
    obtain ⟨ln_3, letters_3, kind_3, stem_3, kept_3, cost_3, number_3, ends_3, begins_3, rfl, g_letters_3, ⟨kind_3a, kind_3b⟩, ⟨stem_3a, stem_3b⟩, ⟨kept_3a, kept_3b⟩, ⟨cost_3a, cost_3b⟩, ⟨number_3a, number_3b⟩, ⟨ends_3a, ends_3b⟩, ⟨begins_3a, begins_3b⟩, x_3_0, x_3_1, x_3_2, x_3_3⟩ := jo9
    refine jz_aast hx hb hK 4 2 c_f_2 co_3 rfl rfl hS (jv_A hI g_fo (show (24 : Nat) ≠ 0 by decide)) (by omega) (by decide) dX9_addForm_28 (fun H locs c9 oq hS => ?_)
    have hFz := (oq _ (kn_ne g_z g_fo (by first | (show cz ≠ (8 : Nat); omega) | (show cz ≠ (9 : Nat); omega) | (show cz ≠ (10 : Nat); omega) | (show cz ≠ (6 : Nat); omega) | (show cz ≠ (1 : Nat); omega) | (show cz ≠ (2 : Nat); omega) | (show cz ≠ (7 : Nat); omega) | (show cz ≠ (212 : Nat); omega) | (show cz ≠ (213 : Nat); omega) | (show cz ≠ (200 : Nat); omega) | (show cz ≠ (201 : Nat); omega) | (show cz ≠ (202 : Nat); omega) | (show cz ≠ (238 : Nat); omega) | (show cz ≠ (237 : Nat); omega) | (show cz ≠ (215 : Nat); omega) | (show cz ≠ (203 : Nat); omega) | (show cz ≠ (210 : Nat); omega) | (show cz ≠ (211 : Nat); omega) | (show cz ≠ (0 : Nat); omega)))).trans hFz
    have k9 := q24_up (z := (Int.toNat fc)) k_f_2 g_x
    have hI := jv_set hI c9 oq (by rw [g_fo]; exact jq_e24 k9)
    have co_a0 := co_a0.kept (oq _ (kn_ne g_a0 g_fo (show (9 : Nat) ≠ 212 by decide)))
    have co_3 := co_3.kept (oq _ (kn_ne g_x g_fo (show (2 : Nat) ≠ 212 by decide)))
    have hFo := (oq _ (kn_ne0 g_fo g_o0 (show (24 : Nat) ≠ 0 by decide)).symm).trans hFo
    obtain ⟨X, hup9, hI, hc_4⟩ := jv_up ((Int.toNat fc) + 1) hI g_fo c9 k9 (up_some (fun j hj => (k_f_2 j (by omega)).2 (by omega)))
    have x0 : fc ≤ (X.2.1 fo : Int) := by have h9 := (hup9.2.2 fo).1; omega
    have x1 : rc ≤ (X.2.1 ar : Int) := by have h9 := (hup9.2.2 ar).1; omega
    have x2 : rc = (X.2.2.2 : Int) := by rw [hup9.2.1]; exact x2
    have g_z := up_t hup9 g_z
    have g_a0 := up_t hup9 g_a0
    have g_x := up_t hup9 g_x
    have g_fo := up_t hup9 g_fo
    have g_ar := up_t hup9 g_ar
    have g_fb := up_t hup9 g_fb
    have hU := up_U hup9 hU
    have hAf := af_up hAf hup9
    have g_o := up_t hup9 g_o
    have g_o0 : (X.1 o).2.1 = 0 := by rw [g_o]
    clear oq c9 k9 hup9
    refine lv_aload_n hx hb dX9_addForm_29 rfl (lv_at hl 0 rfl) ?_
    refine lv_dup hx hb dX9_addForm_30 rfl ?_
    refine iz_get (D := (dC, dI)) (ci := 9) (v := .int (kz fc)) (C := RX9) (T := TX9) (N := 5) hx hb hts hinX9 hown hK co_a0 rfl 2 (by decide) hL23 (fun _ h9 => h9) rfl dX9_addForm_31 ?_
    refine lv_iconst (v := kz 1) hx hb dX9_addForm_34 rfl ?_
    refine iz_iadd hx hb dX9_addForm_35 ?_
    refine iz_put (D := (dC, dI)) (ci := 9) (v := .int (kz (fc + 1))) (ty := .int) (C := RX9) (T := TX9) (N := 5) hx hb hts hinX9 tyX9 tyX9_ok nmX9 hown hK co_a0 hS (jv_A hI g_a0 (show (30 : Nat) ≠ 0 by decide)) rfl 2 (by decide) hL23 (fun _ h9 => h9) rfl (by decide +kernel) rfl rfl (Nat.le_of_ble_eq_true rfl) dX9_addForm_36 (fun H locs c9 oq hS => ?_)
    have hFz := (oq _ (kn_ne g_z g_a0 (by first | (show cz ≠ (8 : Nat); omega) | (show cz ≠ (9 : Nat); omega) | (show cz ≠ (10 : Nat); omega) | (show cz ≠ (6 : Nat); omega) | (show cz ≠ (1 : Nat); omega) | (show cz ≠ (2 : Nat); omega) | (show cz ≠ (7 : Nat); omega) | (show cz ≠ (212 : Nat); omega) | (show cz ≠ (213 : Nat); omega) | (show cz ≠ (200 : Nat); omega) | (show cz ≠ (201 : Nat); omega) | (show cz ≠ (202 : Nat); omega) | (show cz ≠ (238 : Nat); omega) | (show cz ≠ (237 : Nat); omega) | (show cz ≠ (215 : Nat); omega) | (show cz ≠ (203 : Nat); omega) | (show cz ≠ (210 : Nat); omega) | (show cz ≠ (211 : Nat); omega) | (show cz ≠ (0 : Nat); omega)))).trans hFz
    have hI := jv_set hI c9 oq (by rw [g_a0]; exact jv_c9 ⟨fo, ar, (fc + 1), rc, fb, rfl, g_fo, g_ar, ⟨by omega, by omega⟩, ⟨by omega, by omega⟩, g_fb, by omega, by omega, by omega⟩)
    have hFo := (oq _ (kn_ne0 g_a0 g_o0 (show (30 : Nat) ≠ 0 by decide)).symm).trans hFo
    have co_a0 := c9
    clear oq c9
    refine lv_iconst (v := kz 0) hx hb dX9_addForm_39 rfl ?_
    refine lv_istore_n (lv' := [(2, .int (kz 0)), (0, .ref a0), (1, .ref x)]) hx hb dX9_addForm_40 rfl hl (by decide) rfl (fun ls hl => ?_)
    refine iz_loopA1 (α := Unit) (P := fun N9 _u9 k H locs ls => (0 ≤ k) ∧ (k ≤ 40) ∧ 40 - k ≤ (N9 : Int) ∧ lv_has ls 3 [(2, .int (kz k)), (0, .ref a0), (1, .ref x)] ∧ jv (dC, dI) ca A X H ∧ va_S A s.heap H locs ∧ H[o]? = Hp[o]? ∧ H[z9]? = Hp[z9]? ∧ va_at (dC, dI) vwCl (a0, .inr (9, [.ref fo, .ref ar, .int (kz (fc + 1)), .int (kz rc), .ref fb])) H) 100000 () (x0 := 0) ?_ ⟨by omega, by omega, by omega, lv_sub hl [0, 1, 2] rfl, hI, hS, hFo, hFz, co_a0⟩
    intro n_5 _u9 k H locs ls ⟨n_5f0, n_5f1, n_5f2, hl, hI, hS, hFo, hFz, co_a0⟩ ihn_5
    refine lv_iload_n hx hb dX9_addForm_41 rfl (lv_at hl 0 rfl) ?_
    refine lv_aload_n hx hb dX9_addForm_42 rfl (lv_at hl 1 rfl) ?_
    refine iz_get (D := (dC, dI)) (ci := 9) (v := .int (kz rc)) (C := RX9) (T := TX9) (N := 5) hx hb hts hinX9 hown hK co_a0 rfl 3 (by decide) hL27 (fun _ h9 => h9) rfl dX9_addForm_43 ?_
    refine iz_ge (tgt := 66) hx hb dX9_addForm_46 (by decide) (by unfold rg2; omega) (fun br_6 => ?_) (fun br_6 => ?_)
    · refine lv_aload_n hx hb dX9_addForm_66 rfl (lv_at hl 2 rfl) ?_
      obtain ⟨fs9, co_7, jo9⟩ := jv_o2 hI g_x
      obtain ⟨ln_7, letters_7, kind_7, stem_7, kept_7, cost_7, number_7, ends_7, begins_7, rfl, g_letters_7, ⟨kind_7a, kind_7b⟩, ⟨stem_7a, stem_7b⟩, ⟨kept_7a, kept_7b⟩, ⟨cost_7a, cost_7b⟩, ⟨number_7a, number_7b⟩, ⟨ends_7a, ends_7b⟩, ⟨begins_7a, begins_7b⟩, x_7_0, x_7_1, x_7_2, x_7_3⟩ := jo9
      refine iz_get (D := (dC, dI)) (ci := 2) (v := .int (kz number_7)) (C := RX2) (T := TX2) (N := 8) hx hb hts hinX2 hown hK co_7 rfl 5 (by decide) hL34 (fun _ h9 => h9) rfl dX9_addForm_67 ?_
      exact W.iret (v := kz number_7) hx hb hr (fun t9 ht hW => ⟨⟨kz number_7, X, rfl, hAf, jK_warm hW ⟨hK, hN⟩, by rw [ht]; exact ⟨hI, hFo, hFz⟩⟩, hS.F ht⟩) hS.2.2 dX9_addForm_70
    · refine lv_aload_n hx hb dX9_addForm_49 rfl (lv_at hl 1 rfl) ?_
      refine lv_aload_n hx hb dX9_addForm_50 rfl (lv_at hl 2 rfl) ?_
      refine lv_aload_n hx hb dX9_addForm_51 rfl (lv_at hl 1 rfl) ?_
      refine iz_get (D := (dC, dI)) (ci := 9) (v := .ref ar) (C := RX9) (T := TX9) (N := 5) hx hb hts hinX9 hown hK co_a0 rfl 1 (by decide) hL19 (fun _ h9 => h9) rfl dX9_addForm_52 ?_
      refine lv_iload_n hx hb dX9_addForm_55 rfl (lv_at hl 0 rfl) ?_
      obtain ⟨f_8, c_f_8, k_f_8⟩ := jv_q29 hI g_ar
      refine jz_aald hx hb hK 5 c_f_8 rfl rfl (by omega) (by decide) dX9_addForm_56 ?_
      obtain ⟨b_9, eb_9⟩ : ∃ b9 : Nat, f_8 (Int.toNat k) = some b9 := Option.ne_none_iff_exists'.mp ((k_f_8 (Int.toNat k) (by omega)).2 (by omega))
      have g_b_9 := (k_f_8 (Int.toNat k) (by omega)).1 b_9 eb_9
      rw [eb_9]
      refine W.eq (g2 := F0 m 57 ls [.ref b_9, .ref x, .ref a0]) rfl ?_
      refine va_callv (va_runV (As := [.ref x, .ref b_9]) (rest := []) ⟨hx, hb, hml, hown, hts⟩ (c_markFit l dC dI ca A X hU H a0 x b_9 (Int.toNat k) g_a0 g_x g_b_9) (cwV 2 hts gX9_addForm_X9_markFit rfl rfl rfl (by decide +kernel) ⟨Nat.le_of_ble_eq_true rfl, Nat.le_of_ble_eq_true rfl⟩) ⟨fun a U g mk q => by obtain ⟨q0, qH, ⟨qK, qN⟩, qI⟩ := q; exact ⟨q0, qH, ⟨va_K.moved (u := U) (U := U.calling g mk a) (Vm.Alike.refl U.vm) qK, jN_same (U := U.calling g mk a) rfl qN⟩, qI⟩, va_recv hK (at_P co_a0) (ci := 9) (q0 := 0) rfl rfl, fun U hU hW => ⟨rfl, hU, jK_warm hW ⟨hK, hN⟩, by rw [hU]; exact hI⟩⟩ rfl rfl hl.1 rfl (lv_room (Nat.le_of_ble_eq_true rfl)) dX9_addForm_57 ⟨Nat.le_of_ble_eq_true rfl, Nat.le_of_ble_eq_true rfl⟩) hS (fun q _ h => h) (fun q h => h) (fun u t9 H locs ht hvm hw_10 hB hz1 hk1 hS => ?_)
      obtain ⟨-, hI, hf9⟩ := hB
      rw [ht] at hI hf9
      have hFz := (hf9 z9 (by rw [g_z]; rcases hcz with h9 | h9 <;> first | (simp [h9]; done) | (simp [Lc, h9]; done))).trans hFz
      clear ht hvm hz1
      have hFo := (hf9 o (by rw [g_o]; decide)).trans hFo
      have co_a0 := fm_at hf9 g_a0 (show (9 : Nat) ∉ ([2] : List Nat) by decide) co_a0
      have c_f_8 := fm_at hf9 g_ar (show (213 : Nat) ∉ ([2] : List Nat) by decide) c_f_8
      clear hk1 hf9
      refine lv_iinc (v := kz (k + 1)) (lv' := [(2, .int (kz (k + 1))), (0, .ref a0), (1, .ref x)]) hx hb dX9_addForm_60 hl (k := 0) rfl (kz_add k 1) (by decide) rfl (fun ls hl => ?_)
      refine lv_goto (tgt := 41) hx hb dX9_addForm_63 (by decide) ?_
      exact ihn_5 (n_5 - 1) (by omega) () (k + 1) _ _ _ ⟨by omega, by omega, by omega, lv_sub hl [0, 1, 2] rfl, hI, hS, hFo, hFz, co_a0⟩
  · refine lv_iconst (v := kz (-1)) hx hb dX9_addForm_9 rfl ?_
    exact W.iret (v := kz (-1)) hx hb hr (fun t9 ht hW => ⟨⟨kz (-1), X, rfl, hAf, jK_warm hW ⟨hK, hN⟩, by rw [ht]; exact ⟨hI, hFo, hFz⟩⟩, hS.F ht⟩) hS.2.2 dX9_addForm_10
set_option maxHeartbeats 4000000 in
set_option maxRecDepth 100000 in
theorem c_addRuleZ (l : Launch) (dC : Nat → ClassId) (dI : Nat → Nat → Nat) (ca : Nat → ClassId) (A : Nat → Prop) (X : jG) (hU : jU X) (Hp : Heap) (z9 cz kdz nz : Nat) (loz hiz : Int) (g_z : X.1 z9 = (cz, kdz, nz, loz, hiz)) (hcz : cz = 214 ∨ cz = 229) (hkz : kdz ≠ 0) (a0 fo ar fb : Nat) (fc rc : Int) (x lt o : Nat) (en be cs co fd ld : Int) (ln : Nat) (g_a0 : X.1 a0 = (9, 30, 0, 0, 0)) (g_fo : X.1 fo = (212, 24, 40, 2, 0)) (g_ar : X.1 ar = (213, 29, 24, 7, 0)) (g_fb : X.1 fb = (214, 22, 36, 0, 0)) (hfc : 0 ≤ fc ∧ fc ≤ 40) (hrc : 0 ≤ rc ∧ rc ≤ 24) (x0 : fc ≤ (X.2.1 fo : Int)) (x1 : rc ≤ (X.2.1 ar : Int)) (x2 : rc = (X.2.2.2 : Int)) (h0_x : (X.1 x).2.1 = 0) (hAx : A x) (g_o : X.1 o = (999, 0, 0, 0, 0)) (hxo : x ≠ o) (h9 : ∀ q : Nat, (X.1 q).2.1 ≠ 0 → (X.1 q).1 = 9 → q = a0) (g_lt : X.1 lt = (202, 21, ln, 0, 0)) (hen : 0 ≤ en ∧ en ≤ 3) (hbe : 0 ≤ be ∧ be ≤ 3) (hcs : 0 ≤ cs ∧ cs ≤ 4) (hln : (ln : Int) = en + be + cs) (hco : -2147483648 ≤ co ∧ co ≤ 2147483647) (hfd : -2147483648 ≤ fd ∧ fd ≤ 2147483647) (hld : -2147483648 ≤ ld ∧ ld ≤ 2147483647) : Met l yX9_addRule wsX9_addRule ({ frames := 3, cells := 0, slots := 0, locals := 70 }) (va_Pc [.ref a0, .ref x] (fun U => U.heap = Hp ∧ jK (dC, dI) ca U ∧ jv (dC, dI) ca A X U.heap ∧ va_at (dC, dI) vwCl (a0, .inr (9, [.ref fo, .ref ar, .int (kz fc), .int (kz rc), .ref fb])) U.heap ∧ va_at (dC, dI) vwCl (x, .inr (7, [.ref lt, .int (kz en), .int (kz be), .int (kz (en + be)), .int (kz cs), .int (kz co), .int (kz fd), .int (kz ld), .int (kz (-1))])) U.heap)) (va_Qi (fun (r : Int32) (u : jG) => jaf X u x [7]) (fun u U => jK (dC, dI) ca U ∧ jv (dC, dI) ca A u U.heap ∧ U.heap[o]? = Hp[o]? ∧ U.heap[z9]? = Hp[z9]?) A) 0 0 A := by
  refine Met.ofW (cc := cX9_addRule) (maxL := 3) (ret := some .int) (by decide) rfl ?_
  intro p e s m args below meth c s₁ B hml hv
  obtain ⟨rfl, hHp, ⟨hK, hN⟩, hI, co_a0, c_x⟩ := hv
  have hx := B.exec
  have hb := B.bytes
  have hr := B.returns
  have hts := atoms_spec (ws := wsX9_addRule) B.pre
  have hown : s.vm.findClass RX9 = some m.cls := findClass_of_methodNamed B.named
  have hL27 := hts (.fieldLink RX9 27 "JoinBench$Tongue" "ruleCount" "I") (by decide +kernel)
  have hL41 := hts (.fieldLink RX9 41 "JoinBench$Rule" "number" "I") (by decide +kernel)
  have hL19 := hts (.fieldLink RX9 19 "JoinBench$Tongue" "rules" "[LJoinBench$Rule;") (by decide +kernel)
  have hL23 := hts (.fieldLink RX9 23 "JoinBench$Tongue" "formCount" "I") (by decide +kernel)
  have hL11 := hts (.fieldLink RX9 11 "JoinBench$Tongue" "forms" "[LJoinBench$Form;") (by decide +kernel)
  have hinX7 : ∀ w ∈ u_ws RX7 TX7 9, w ∈ wsX9_addRule := by decide +kernel
  have hinX9 : ∀ w ∈ u_ws RX9 TX9 5, w ∈ wsX9_addRule := by decide +kernel
  have hAf := af_rf x [7] hU
  have g_o0 : (X.1 o).2.1 = 0 := by rw [g_o]
  obtain ⟨H, hH⟩ : ∃ H : Heap, H = s.heap := ⟨_, rfl⟩
  have hS : va_S A s.heap H [] := by rw [hH]; exact va_S.rf
  have hFo : H[o]? = Hp[o]? := by rw [hH, hHp]
  have hFz : H[z9]? = Hp[z9]? := by rw [hH, hHp]
  rw [← hH] at hI co_a0 c_x ⊢
  clear hH
  have hl := lv_entry ([.ref a0, .ref x]) (n := 3) (Nat.le_of_ble_eq_true rfl)
  rw [lg_entry_eq]
  generalize (lg_sl ([.ref a0, .ref x]) ++ List.replicate (3 - (lg_sl ([.ref a0, .ref x])).length) Slot.unset).toArray = ls at hl ⊢
  have hl : lv_has ls 3 [(0, .ref a0), (1, .ref x)] := hl
  refine lv_aload_n hx hb dX9_addRule_0 rfl (lv_at hl 0 rfl) ?_
  refine iz_get (D := (dC, dI)) (ci := 9) (v := .int (kz rc)) (C := RX9) (T := TX9) (N := 5) hx hb hts hinX9 hown hK co_a0 rfl 3 (by decide) hL27 (fun _ h9 => h9) rfl dX9_addRule_1 ?_
  refine lv_bipush (v := kz 24) hx hb dX9_addRule_4 (by decide) ?_
  refine iz_lt (tgt := 11) hx hb dX9_addRule_6 (by decide) (by unfold rg2; omega) (fun br_1 => ?_) (fun br_1 => ?_)
  · refine lv_aload_n hx hb dX9_addRule_11 rfl (lv_at hl 1 rfl) ?_
    refine lv_aload_n hx hb dX9_addRule_12 rfl (lv_at hl 0 rfl) ?_
    refine iz_get (D := (dC, dI)) (ci := 9) (v := .int (kz rc)) (C := RX9) (T := TX9) (N := 5) hx hb hts hinX9 hown hK co_a0 rfl 3 (by decide) hL27 (fun _ h9 => h9) rfl dX9_addRule_13 ?_
    refine iz_put (D := (dC, dI)) (ci := 7) (v := .int (kz rc)) (ty := .int) (C := RX7) (T := TX7) (N := 9) hx hb hts hinX7 tyX7 tyX7_ok nmX7 hown hK c_x hS hAx rfl 8 (by decide) hL41 (fun _ h9 => h9) rfl (by decide +kernel) rfl rfl (Nat.le_of_ble_eq_true rfl) dX9_addRule_16 (fun H locs c9 oq hS => ?_)
    have hFz := (oq _ (kn_ne0 g_z h0_x hkz)).trans hFz
    have hI := jv_skip hI h0_x oq
    have co_a0 := co_a0.kept (oq _ (kn_ne0 g_a0 h0_x (show (30 : Nat) ≠ 0 by decide)))
    have hFo := (oq _ (Ne.symm hxo)).trans hFo
    have c_x := c9
    clear oq c9
    refine lv_aload_n hx hb dX9_addRule_19 rfl (lv_at hl 0 rfl) ?_
    refine iz_get (D := (dC, dI)) (ci := 9) (v := .ref ar) (C := RX9) (T := TX9) (N := 5) hx hb hts hinX9 hown hK co_a0 rfl 1 (by decide) hL19 (fun _ h9 => h9) rfl dX9_addRule_20 ?_
    refine lv_aload_n hx hb dX9_addRule_23 rfl (lv_at hl 0 rfl) ?_
    refine iz_get (D := (dC, dI)) (ci := 9) (v := .int (kz rc)) (C := RX9) (T := TX9) (N := 5) hx hb hts hinX9 hown hK co_a0 rfl 3 (by decide) hL27 (fun _ h9 => h9) rfl dX9_addRule_24 ?_
    refine lv_aload_n hx hb dX9_addRule_27 rfl (lv_at hl 1 rfl) ?_
    obtain ⟨f_2, c_f_2, k_f_2⟩ := jv_q29 hI g_ar
    refine jz_aast hx hb hK 5 7 c_f_2 c_x rfl rfl hS (jv_A hI g_ar (show (29 : Nat) ≠ 0 by decide)) (by omega) (by decide) dX9_addRule_28 (fun H locs c_ar oqA hS => ?_)
    have hFz := (oqA _ (kn_ne g_z g_ar (by first | (show cz ≠ (8 : Nat); omega) | (show cz ≠ (9 : Nat); omega) | (show cz ≠ (10 : Nat); omega) | (show cz ≠ (6 : Nat); omega) | (show cz ≠ (1 : Nat); omega) | (show cz ≠ (2 : Nat); omega) | (show cz ≠ (7 : Nat); omega) | (show cz ≠ (212 : Nat); omega) | (show cz ≠ (213 : Nat); omega) | (show cz ≠ (200 : Nat); omega) | (show cz ≠ (201 : Nat); omega) | (show cz ≠ (202 : Nat); omega) | (show cz ≠ (238 : Nat); omega) | (show cz ≠ (237 : Nat); omega) | (show cz ≠ (215 : Nat); omega) | (show cz ≠ (203 : Nat); omega) | (show cz ≠ (210 : Nat); omega) | (show cz ≠ (211 : Nat); omega) | (show cz ≠ (0 : Nat); omega)))).trans hFz
    have co_a0 := co_a0.kept (oqA _ (kn_ne g_a0 g_ar (show (9 : Nat) ≠ 213 by decide)))
    have c_x := c_x.kept (oqA _ (kn_ne0 g_ar h0_x (show (29 : Nat) ≠ 0 by decide)).symm)
    have hFo := (oqA _ (kn_ne0 g_ar g_o0 (show (29 : Nat) ≠ 0 by decide)).symm).trans hFo
    refine lv_aload_n hx hb dX9_addRule_29 rfl (lv_at hl 0 rfl) ?_
    refine lv_dup hx hb dX9_addRule_30 rfl ?_
    refine iz_get (D := (dC, dI)) (ci := 9) (v := .int (kz rc)) (C := RX9) (T := TX9) (N := 5) hx hb hts hinX9 hown hK co_a0 rfl 3 (by decide) hL27 (fun _ h9 => h9) rfl dX9_addRule_31 ?_
    refine lv_iconst (v := kz 1) hx hb dX9_addRule_34 rfl ?_
    refine iz_iadd hx hb dX9_addRule_35 ?_
    refine iz_put (D := (dC, dI)) (ci := 9) (v := .int (kz (rc + 1))) (ty := .int) (C := RX9) (T := TX9) (N := 5) hx hb hts hinX9 tyX9 tyX9_ok nmX9 hown hK co_a0 hS (jv_A hI g_a0 (show (30 : Nat) ≠ 0 by decide)) rfl 3 (by decide) hL27 (fun _ h9 => h9) rfl (by decide +kernel) rfl rfl (Nat.le_of_ble_eq_true rfl) dX9_addRule_36 (fun H locs co_a0 oq hS => ?_)
    have hFz := (oq _ (kn_ne g_z g_a0 (by first | (show cz ≠ (8 : Nat); omega) | (show cz ≠ (9 : Nat); omega) | (show cz ≠ (10 : Nat); omega) | (show cz ≠ (6 : Nat); omega) | (show cz ≠ (1 : Nat); omega) | (show cz ≠ (2 : Nat); omega) | (show cz ≠ (7 : Nat); omega) | (show cz ≠ (212 : Nat); omega) | (show cz ≠ (213 : Nat); omega) | (show cz ≠ (200 : Nat); omega) | (show cz ≠ (201 : Nat); omega) | (show cz ≠ (202 : Nat); omega) | (show cz ≠ (238 : Nat); omega) | (show cz ≠ (237 : Nat); omega) | (show cz ≠ (215 : Nat); omega) | (show cz ≠ (203 : Nat); omega) | (show cz ≠ (210 : Nat); omega) | (show cz ≠ (211 : Nat); omega) | (show cz ≠ (0 : Nat); omega)))).trans hFz
    have c_ar := c_ar.kept (oq _ (kn_ne g_ar g_a0 (show (213 : Nat) ≠ 9 by decide)))
    have c_x := c_x.kept (oq _ (kn_ne0 g_a0 h0_x (show (30 : Nat) ≠ 0 by decide)).symm)
    have hFo := (oq _ (kn_ne0 g_a0 g_o0 (show (30 : Nat) ≠ 0 by decide)).symm).trans hFo
    have hn7 := jv_no7 hI
    have hrr := jru_rr (ar := ar) be (cs - en) h0_x (by omega)
    have hI := jv_rule (e := en) (b := be) (cs := cs) hI h9 h0_x hAx (by omega) g_a0 g_ar g_lt g_fo g_fb hfc x0 x2 x1 hen hbe hcs hln hco hfd hld k_f_2 c_ar co_a0 c_x (fun q hq n1 n2 => (oq q n1).trans (oqA q n2))
    have hU := jru_U (x := x) (ar := ar) be (cs - en) hU hn7
    have hAf := jru_af (L := [7]) be (cs - en) hU (by decide)
    have hea : (jru X x ar be (cs - en)).2.1 ar = X.2.2.2 + 1 := if_pos rfl
    have g_x : (jru X x ar be (cs - en)).1 x = (7, 30, X.2.2.2, 0, 0) := if_pos rfl
    have g_o : (jru X x ar be (cs - en)).1 o = (999, 0, 0, 0, 0) := by rw [show (jru X x ar be (cs - en)).1 o = X.1 o from if_neg (Ne.symm hxo)]; exact g_o
    have hef := hrr.2.1 fo (kn_ne g_fo g_ar (show (212 : Nat) ≠ 213 by decide))
    obtain ⟨i7, hi7⟩ : ∃ i : Nat, i = X.2.2.2 := ⟨_, rfl⟩
    rw [← hi7] at g_x hea
    obtain ⟨X, hY9⟩ : ∃ Y9 : jG, Y9 = jru X x ar be (cs - en) := ⟨_, rfl⟩
    rw [← hY9] at hI hU hAf hrr hea g_x g_o hef
    clear hY9
    have g_o0 : (X.1 o).2.1 = 0 := by rw [g_o]
    have g_z := hrr.1 _ _ g_z hkz
    have g_a0 := hrr.1 _ _ g_a0 (show (30 : Nat) ≠ 0 by decide)
    have g_fo := hrr.1 _ _ g_fo (show (24 : Nat) ≠ 0 by decide)
    have g_ar := hrr.1 _ _ g_ar (show (29 : Nat) ≠ 0 by decide)
    have g_fb := hrr.1 _ _ g_fb (show (22 : Nat) ≠ 0 by decide)
    have x0 : fc ≤ (X.2.1 fo : Int) := by rw [hef]; exact x0
    have x1 : rc + 1 ≤ (X.2.1 ar : Int) := by rw [hea]; omega
    have x2 : rc + 1 = (X.2.2.2 : Int) := by rw [hrr.2.2.2.2]; omega
    clear oq oqA c_ar
    refine lv_iconst (v := kz 0) hx hb dX9_addRule_39 rfl ?_
    refine lv_istore_n (lv' := [(2, .int (kz 0)), (0, .ref a0), (1, .ref x)]) hx hb dX9_addRule_40 rfl hl (by decide) rfl (fun ls hl => ?_)
    refine iz_loopA1 (α := Unit) (P := fun N9 _u9 k H locs ls => (0 ≤ k) ∧ (k ≤ 40) ∧ 40 - k ≤ (N9 : Int) ∧ lv_has ls 3 [(2, .int (kz k)), (0, .ref a0), (1, .ref x)] ∧ jv (dC, dI) ca A X H ∧ va_S A s.heap H locs ∧ H[o]? = Hp[o]? ∧ H[z9]? = Hp[z9]? ∧ va_at (dC, dI) vwCl (a0, .inr (9, [.ref fo, .ref ar, .int (kz fc), .int (kz (rc + 1)), .ref fb])) H) 100000 () (x0 := 0) ?_ ⟨by omega, by omega, by omega, lv_sub hl [0, 1, 2] rfl, hI, hS, hFo, hFz, co_a0⟩
    intro n_3 _u9 k H locs ls ⟨n_3f0, n_3f1, n_3f2, hl, hI, hS, hFo, hFz, co_a0⟩ ihn_3
    refine lv_iload_n hx hb dX9_addRule_41 rfl (lv_at hl 0 rfl) ?_
    refine lv_aload_n hx hb dX9_addRule_42 rfl (lv_at hl 1 rfl) ?_
    refine iz_get (D := (dC, dI)) (ci := 9) (v := .int (kz fc)) (C := RX9) (T := TX9) (N := 5) hx hb hts hinX9 hown hK co_a0 rfl 2 (by decide) hL23 (fun _ h9 => h9) rfl dX9_addRule_43 ?_
    refine iz_ge (tgt := 66) hx hb dX9_addRule_46 (by decide) (by unfold rg2; omega) (fun br_4 => ?_) (fun br_4 => ?_)
    · refine lv_aload_n hx hb dX9_addRule_66 rfl (lv_at hl 2 rfl) ?_
      obtain ⟨fs9, co_5, jo9⟩ := jv_o7 hI g_x
      obtain ⟨ln_5, letters_5, endSize_5, beginningSize_5, comesFrom_5, comesSize_5, cost_5, firstDay_5, lastDay_5, number_5, rfl, g_letters_5, ⟨endSize_5a, endSize_5b⟩, ⟨beginningSize_5a, beginningSize_5b⟩, ⟨comesFrom_5a, comesFrom_5b⟩, ⟨comesSize_5a, comesSize_5b⟩, ⟨cost_5a, cost_5b⟩, ⟨firstDay_5a, firstDay_5b⟩, ⟨lastDay_5a, lastDay_5b⟩, ⟨number_5a, number_5b⟩, x_5_0, x_5_1, x_5_2, x_5_3, x_5_4, x_5_5⟩ := jo9
      refine iz_get (D := (dC, dI)) (ci := 7) (v := .int (kz number_5)) (C := RX7) (T := TX7) (N := 9) hx hb hts hinX7 hown hK co_5 rfl 8 (by decide) hL41 (fun _ h9 => h9) rfl dX9_addRule_67 ?_
      exact W.iret (v := kz number_5) hx hb hr (fun t9 ht hW => ⟨⟨kz number_5, X, rfl, hAf, jK_warm hW ⟨hK, hN⟩, by rw [ht]; exact ⟨hI, hFo, hFz⟩⟩, hS.F ht⟩) hS.2.2 dX9_addRule_70
    · refine lv_aload_n hx hb dX9_addRule_49 rfl (lv_at hl 1 rfl) ?_
      refine lv_aload_n hx hb dX9_addRule_50 rfl (lv_at hl 1 rfl) ?_
      refine iz_get (D := (dC, dI)) (ci := 9) (v := .ref fo) (C := RX9) (T := TX9) (N := 5) hx hb hts hinX9 hown hK co_a0 rfl 0 (by decide) hL11 (fun _ h9 => h9) rfl dX9_addRule_51 ?_
      refine lv_iload_n hx hb dX9_addRule_54 rfl (lv_at hl 0 rfl) ?_
      obtain ⟨f_6, c_f_6, k_f_6⟩ := jv_q24 hI g_fo
      refine jz_aald hx hb hK 4 c_f_6 rfl rfl (by omega) (by decide) dX9_addRule_55 ?_
      obtain ⟨b_7, eb_7⟩ : ∃ b9 : Nat, f_6 (Int.toNat k) = some b9 := Option.ne_none_iff_exists'.mp ((k_f_6 (Int.toNat k) (by omega)).2 (by omega))
      have g_b_7 := (k_f_6 (Int.toNat k) (by omega)).1 b_7 eb_7
      rw [eb_7]
      refine W.eq (g2 := F0 m 56 ls [.ref b_7, .ref a0]) rfl ?_
      refine lv_aload_n hx hb dX9_addRule_56 rfl (lv_at hl 2 rfl) ?_
      refine va_callv (va_runV (As := [.ref b_7, .ref x]) (rest := []) ⟨hx, hb, hml, hown, hts⟩ (c_markFit l dC dI ca A X hU H a0 b_7 x i7 g_a0 g_b_7 g_x) (cwV 2 hts gX9_addRule_X9_markFit rfl rfl rfl (by decide +kernel) ⟨Nat.le_of_ble_eq_true rfl, Nat.le_of_ble_eq_true rfl⟩) ⟨fun a U g mk q => by obtain ⟨q0, qH, ⟨qK, qN⟩, qI⟩ := q; exact ⟨q0, qH, ⟨va_K.moved (u := U) (U := U.calling g mk a) (Vm.Alike.refl U.vm) qK, jN_same (U := U.calling g mk a) rfl qN⟩, qI⟩, va_recv hK (at_P co_a0) (ci := 9) (q0 := 0) rfl rfl, fun U hU hW => ⟨rfl, hU, jK_warm hW ⟨hK, hN⟩, by rw [hU]; exact hI⟩⟩ rfl rfl hl.1 rfl (lv_room (Nat.le_of_ble_eq_true rfl)) dX9_addRule_57 ⟨Nat.le_of_ble_eq_true rfl, Nat.le_of_ble_eq_true rfl⟩) hS (fun q _ h => h) (fun q h => h) (fun u t9 H locs ht hvm hw_8 hB hz1 hk1 hS => ?_)
      obtain ⟨-, hI, hf9⟩ := hB
      rw [ht] at hI hf9
      have hFz := (hf9 z9 (by rw [g_z]; rcases hcz with h9 | h9 <;> first | (simp [h9]; done) | (simp [Lc, h9]; done))).trans hFz
      clear ht hvm hz1
      have hFo := (hf9 o (by rw [g_o]; decide)).trans hFo
      have co_a0 := fm_at hf9 g_a0 (show (9 : Nat) ∉ ([2] : List Nat) by decide) co_a0
      have c_f_6 := fm_at hf9 g_fo (show (212 : Nat) ∉ ([2] : List Nat) by decide) c_f_6
      clear hk1 hf9
      refine lv_iinc (v := kz (k + 1)) (lv' := [(2, .int (kz (k + 1))), (0, .ref a0), (1, .ref x)]) hx hb dX9_addRule_60 hl (k := 0) rfl (kz_add k 1) (by decide) rfl (fun ls hl => ?_)
      refine lv_goto (tgt := 41) hx hb dX9_addRule_63 (by decide) ?_
      exact ihn_3 (n_3 - 1) (by omega) () (k + 1) _ _ _ ⟨by omega, by omega, by omega, lv_sub hl [0, 1, 2] rfl, hI, hS, hFo, hFz, co_a0⟩
  · refine lv_iconst (v := kz (-1)) hx hb dX9_addRule_9 rfl ?_
    exact W.iret (v := kz (-1)) hx hb hr (fun t9 ht hW => ⟨⟨kz (-1), X, rfl, hAf, jK_warm hW ⟨hK, hN⟩, by rw [ht]; exact ⟨hI, hFo, hFz⟩⟩, hS.F ht⟩) hS.2.2 dX9_addRule_10
set_option maxHeartbeats 4000000 in
set_option maxRecDepth 100000 in
theorem j_formZ (l : Launch) (dC : Nat → ClassId) (dI : Nat → Nat → Nat) (ca : Nat → ClassId) (A : Nat → Prop) (X : jG) (hU : jU X) (Hp : Heap) (z9 cz kdz nz : Nat) (loz hiz : Int) (g_z : X.1 z9 = (cz, kdz, nz, loz, hiz)) (hcz : cz = 214 ∨ cz = 229) (hkz : kdz ≠ 0) (o : Nat) (j_tape : Nat) (j_tongue : Nat) (j_row : Nat) (j_trees : Nat) (j_choices : Nat) (pv : Option Nat) (st : Int) (kd : Int) (st9 : Int) (co : Int) (kp : Int) (g_o : X.1 o = (999, 0, 0, 0, 0)) (hAo : A o) (g_j_tape : X.1 j_tape = (8, 30, 0, 0, 0)) (g_j_tongue : X.1 j_tongue = (9, 30, 0, 0, 0)) (g_j_row : X.1 j_row = (6, 30, 0, 0, 0)) (g_j_trees : X.1 j_trees = (10, 30, 0, 0, 0)) (g_j_choices : X.1 j_choices = (1, 30, 0, 0, 0)) (hpv : ∀ b : Nat, pv = some b → X.1 b = (4, 30, 0, 0, 0)) (hst : 0 ≤ st ∧ st ≤ 20) (kdr : -2147483648 ≤ kd ∧ kd ≤ 2147483647) (st9r : -2147483648 ≤ st9 ∧ st9 ≤ 2147483647) (cor : -2147483648 ≤ co ∧ co ≤ 2147483647) (hkp : kp = 0 ∨ kp = 1) (hA9 : ∀ q : Nat, Hp.size ≤ q → A q) : Met l yX11_form wsX11_form ({ frames := 4, cells := 2, slots := 24, locals := 92 }) (va_Pc [.ref o, .int (kz kd), .int (kz st9), .int (kz co), .int (kz kp)] (fun U => U.heap = Hp ∧ jK (dC, dI) ca U ∧ jv (dC, dI) ca A X U.heap ∧ va_at (dC, dI) vwCl (o, .inr (11, [.ref j_tape, .ref j_tongue, .ref j_row, .ref j_trees, .ref j_choices, va_rf pv, .int (kz st)])) U.heap)) (va_Qi (fun (r : Int32) (u : jG × Int) => prl X u.1 o [2, 201, 7, 202, 237, 238] ∧ u.2 = st) (fun (u : jG × Int) U => jK (dC, dI) ca U ∧ jv (dC, dI) ca A u.1 U.heap ∧ va_at (dC, dI) vwCl (o, .inr (11, [.ref j_tape, .ref j_tongue, .ref j_row, .ref j_trees, .ref j_choices, va_rf pv, .int (kz u.2)])) U.heap ∧ U.heap[z9]? = Hp[z9]?) A) 2 24 A := by
  refine Met.ofW (cc := cX11_form) (maxL := 7) (ret := (some .int)) (by decide) rfl ?_
  intro p e s m args below meth c s₁ B hml hv
  obtain ⟨rfl, hHp, ⟨hK, hN⟩, hI, hO⟩ := hv
  have hx := B.exec
  have hb := B.bytes
  have hr := B.returns
  have hts := atoms_spec (ws := wsX11_form) B.pre
  have hown : s.vm.findClass RX11 = some m.cls := findClass_of_methodNamed B.named
  have hL19 := hts (.fieldLink RX11 19 "JoinBench" "tongue" "LJoinBench$Tongue;") (by decide +kernel)
  have hL67 := hts (.fieldLink RX11 67 "JoinBench$Tongue" "formCount" "I") (by decide +kernel)
  have hL12 := hts (.fieldLink RX11 12 "JoinBench" "tape" "LJoinBench$Tape;") (by decide +kernel)
  have hL60 := hts (.fieldLink RX11 60 "JoinBench$Tape" "size" "I") (by decide +kernel)
  have hinX11 : ∀ w ∈ u_ws RX11 TX11 7, w ∈ wsX11_form := by decide +kernel
  have hinX8 : ∀ w ∈ u_ws RX8 TX8 2, w ∈ wsX11_form := by decide +kernel
  have hinX9 : ∀ w ∈ u_ws RX9 TX9 5, w ∈ wsX11_form := by decide +kernel
  obtain ⟨H, hH⟩ : ∃ H : Heap, H = s.heap := ⟨_, rfl⟩
  have hS : va_S A s.heap H [] := by rw [hH]; exact va_S.rf
  have hF : kfm X [] Hp H := by rw [hH, hHp]; exact fm_rf _ _ _
  clear hF
  obtain ⟨n0, hn0⟩ : ∃ n9 : Nat, n9 = Hp.size := ⟨_, rfl⟩
  have hA : ∀ q : Nat, n0 ≤ q → A q := by rw [hn0]; exact hA9
  have hsz : s.heap.size = n0 := by rw [hn0, hHp]
  have hP := prl_rf o [2, 201, 7, 202, 237, 238] hU
  have hFz : H[z9]? = Hp[z9]? := by rw [hH, hHp]
  rw [← hH] at hI hO ⊢
  clear hH
  have hl := lv_entry ([.ref o, .int (kz kd), .int (kz st9), .int (kz co), .int (kz kp)]) (n := 7) (Nat.le_of_ble_eq_true rfl)
  rw [lg_entry_eq]
  generalize (lg_sl ([.ref o, .int (kz kd), .int (kz st9), .int (kz co), .int (kz kp)]) ++ List.replicate (7 - (lg_sl ([.ref o, .int (kz kd), .int (kz st9), .int (kz co), .int (kz kp)])).length) Slot.unset).toArray = ls at hl ⊢
  have hl : lv_has ls 7 [(0, .ref o), (1, .int (kz kd)), (2, .int (kz st9)), (3, .int (kz co)), (4, .int (kz kp))] := hl
  refine lv_aload_n hx hb dX11_form_0 rfl (lv_at hl 0 rfl) ?_
  refine iz_get (D := (dC, dI)) (ci := 11) (v := .ref j_tongue) (C := RX11) (T := TX11) (N := 7) hx hb hts hinX11 hown hK hO rfl 1 (by decide) hL19 (fun _ h9 => h9) rfl dX11_form_1 ?_
  obtain ⟨fs9, co_1, jo9⟩ := jv_o9 hI g_j_tongue
  obtain ⟨forms_1, rules_1, formCount_1, ruleCount_1, forbidden_1, rfl, g_forms_1, g_rules_1, ⟨formCount_1a, formCount_1b⟩, ⟨ruleCount_1a, ruleCount_1b⟩, g_forbidden_1, x_1_0, x_1_1, x_1_2⟩ := jo9
  refine iz_get (D := (dC, dI)) (ci := 9) (v := .int (kz formCount_1)) (C := RX9) (T := TX9) (N := 5) hx hb hts hinX9 hown hK co_1 rfl 2 (by decide) hL67 (fun _ h9 => h9) rfl dX11_form_4 ?_
  refine lv_bipush (v := kz 40) hx hb dX11_form_7 (by decide) ?_
  refine iz_ge (tgt := 63) hx hb dX11_form_9 (by decide) (by unfold rg2; omega) (fun br_2 => ?_) (fun br_2 => ?_)
  · refine lv_iconst (v := kz 0) hx hb dX11_form_63 rfl ?_
    refine lv_istore (lv' := [(5, .int (kz 0)), (0, .ref o), (1, .int (kz kd)), (2, .int (kz st9)), (3, .int (kz co)), (4, .int (kz kp))]) hx hb dX11_form_64 hl (by decide) rfl (fun ls hl => ?_)
    refine lv_iconst (v := kz (-1)) hx hb dX11_form_66 rfl ?_
    refine lv_istore (lv' := [(6, .int (kz (-1))), (5, .int (kz 0)), (0, .ref o), (1, .int (kz kd)), (2, .int (kz st9)), (3, .int (kz co)), (4, .int (kz kp))]) hx hb dX11_form_67 hl (by decide) rfl (fun ls hl => ?_)
    refine lv_iload hx hb dX11_form_69 (lv_at hl 1 rfl) ?_
    refine iz_eqz (tgt := 99) hx hb dX11_form_71 (by decide) (by unfold rg2; omega) (fun _ => ?_) (fun q9 => absurd q9 (by decide))
    refine lv_aload_n hx hb dX11_form_99 rfl (lv_at hl 2 rfl) ?_
    refine iz_get (D := (dC, dI)) (ci := 11) (v := .ref j_tape) (C := RX11) (T := TX11) (N := 7) hx hb hts hinX11 hown hK hO rfl 0 (by decide) hL12 (fun _ h9 => h9) rfl dX11_form_100 ?_
    refine lv_iconst (v := kz 0) hx hb dX11_form_103 rfl ?_
    obtain ⟨fs9, co_3, jo9⟩ := jv_o8 hI g_j_tape
    obtain ⟨bytes_3, size_3, rfl, g_bytes_3, ⟨size_3a, size_3b⟩⟩ := jo9
    refine iz_put (D := (dC, dI)) (ci := 8) (v := .int (kz 0)) (ty := .int) (C := RX8) (T := TX8) (N := 2) hx hb hts hinX8 tyX8 tyX8_ok nmX8 hown hK co_3 hS (jv_A hI g_j_tape (show (30 : Nat) ≠ 0 by decide)) rfl 1 (by decide) hL60 (fun _ h9 => h9) rfl (by decide +kernel) rfl rfl (Nat.le_of_ble_eq_true rfl) dX11_form_104 (fun H locs c9 oq hS => ?_)
    have hFz := (oq _ (kn_ne g_z g_j_tape (by first | (show cz ≠ (8 : Nat); omega) | (show cz ≠ (9 : Nat); omega) | (show cz ≠ (10 : Nat); omega) | (show cz ≠ (6 : Nat); omega) | (show cz ≠ (1 : Nat); omega) | (show cz ≠ (2 : Nat); omega) | (show cz ≠ (7 : Nat); omega) | (show cz ≠ (212 : Nat); omega) | (show cz ≠ (213 : Nat); omega) | (show cz ≠ (200 : Nat); omega) | (show cz ≠ (201 : Nat); omega) | (show cz ≠ (202 : Nat); omega) | (show cz ≠ (238 : Nat); omega) | (show cz ≠ (237 : Nat); omega) | (show cz ≠ (215 : Nat); omega) | (show cz ≠ (203 : Nat); omega) | (show cz ≠ (210 : Nat); omega) | (show cz ≠ (211 : Nat); omega) | (show cz ≠ (0 : Nat); omega)))).trans hFz
    have hI := jv_set hI c9 oq (by rw [g_j_tape]; exact jv_c8 ⟨bytes_3, 0, rfl, g_bytes_3, ⟨by omega, by omega⟩⟩)
    have hO := hO.kept (oq _ (kn_ne g_o g_j_tape (show (999 : Nat) ≠ 8 by decide)))
    have co_1 := co_1.kept (oq _ (kn_ne g_j_tongue g_j_tape (show (9 : Nat) ≠ 8 by decide)))
    have co_3 := c9
    clear oq c9
    refine lv_iload hx hb dX11_form_107 (lv_at hl 0 rfl) ?_
    refine W.widen (k := 2) (n := 24) (Nat.le_of_ble_eq_true rfl) (Nat.le_of_ble_eq_true rfl) ?_
    exact W.iret (v := kz (-1)) hx hb hr (fun t9 ht hW => ⟨⟨kz (-1), (X, st), rfl, ⟨hP, rfl⟩, jK_warm hW ⟨hK, hN⟩, by rw [ht]; exact ⟨hI, hO, hFz⟩⟩, hS.F ht⟩) hS.2.2 dX11_form_109
  · refine lv_iload_n hx hb dX11_form_12 rfl (lv_at hl 1 rfl) ?_
    refine vp_callSi (va_Run.run (va_runS (As := [.int (kz kd)]) (rest := []) ⟨hx, hb, hml, hown, hts⟩ (c_isKind l kd (by omega)) (va_cwS 1 hts gX11_form_X11_isKind rfl rfl rfl (by decide +kernel) ⟨Nat.le_of_ble_eq_true rfl, Nat.le_of_ble_eq_true rfl⟩) ⟨fun a U g mk q => q, fun U hU hW => ⟨rfl, trivial⟩⟩ rfl rfl hl.1 rfl (lv_room (Nat.le_of_ble_eq_true rfl)) dX11_form_13 ⟨Nat.le_of_ble_eq_true rfl, Nat.le_of_ble_eq_true rfl⟩)) (fun r_5 hw_4 => ?_)
    rcases hw_4 with ⟨rfl, hw_4⟩ | ⟨rfl, hw_4⟩
    · refine iz_eqz (tgt := 63) hx hb dX11_form_16 (by decide) (by unfold rg2; omega) (fun q9 => absurd q9 (by decide)) (fun _ => ?_)
      refine lv_iload_n hx hb dX11_form_19 rfl (lv_at hl 2 rfl) ?_
      refine vp_callSi (va_Run.run (va_runS (As := [.int (kz st9)]) (rest := []) ⟨hx, hb, hml, hown, hts⟩ (c_isStem l st9 (by omega)) (va_cwS 1 hts gX11_form_X11_isStem rfl rfl rfl (by decide +kernel) ⟨Nat.le_of_ble_eq_true rfl, Nat.le_of_ble_eq_true rfl⟩) ⟨fun a U g mk q => q, fun U hU hW => ⟨rfl, trivial⟩⟩ rfl rfl hl.1 rfl (lv_room (Nat.le_of_ble_eq_true rfl)) dX11_form_20 ⟨Nat.le_of_ble_eq_true rfl, Nat.le_of_ble_eq_true rfl⟩)) (fun r_7 hw_6 => ?_)
      rcases hw_6 with ⟨rfl, hw_6⟩ | ⟨rfl, hw_6⟩
      · refine iz_eqz (tgt := 63) hx hb dX11_form_23 (by decide) (by unfold rg2; omega) (fun q9 => absurd q9 (by decide)) (fun _ => ?_)
        refine lv_iload_n hx hb dX11_form_26 rfl (lv_at hl 3 rfl) ?_
        refine vp_callSi (va_Run.run (va_runS (As := [.int (kz co)]) (rest := []) ⟨hx, hb, hml, hown, hts⟩ (c_isCost l co (by omega)) (va_cwS 1 hts gX11_form_X11_isCost rfl rfl rfl (by decide +kernel) ⟨Nat.le_of_ble_eq_true rfl, Nat.le_of_ble_eq_true rfl⟩) ⟨fun a U g mk q => q, fun U hU hW => ⟨rfl, trivial⟩⟩ rfl rfl hl.1 rfl (lv_room (Nat.le_of_ble_eq_true rfl)) dX11_form_27 ⟨Nat.le_of_ble_eq_true rfl, Nat.le_of_ble_eq_true rfl⟩)) (fun r_9 hw_8 => ?_)
        rcases hw_8 with ⟨rfl, hw_8⟩ | ⟨rfl, hw_8⟩
        · refine iz_eqz (tgt := 63) hx hb dX11_form_30 (by decide) (by unfold rg2; omega) (fun q9 => absurd q9 (by decide)) (fun _ => ?_)
          refine lv_aload_n hx hb dX11_form_33 rfl (lv_at hl 0 rfl) ?_
          refine iz_get (D := (dC, dI)) (ci := 11) (v := .ref j_tape) (C := RX11) (T := TX11) (N := 7) hx hb hts hinX11 hown hK hO rfl 0 (by decide) hL12 (fun _ h9 => h9) rfl dX11_form_34 ?_
          obtain ⟨fs9, co_10, jo9⟩ := jv_o8 hI g_j_tape
          obtain ⟨bytes_10, size_10, rfl, g_bytes_10, ⟨size_10a, size_10b⟩⟩ := jo9
          refine iz_get (D := (dC, dI)) (ci := 8) (v := .int (kz size_10)) (C := RX8) (T := TX8) (N := 2) hx hb hts hinX8 hown hK co_10 rfl 1 (by decide) hL60 (fun _ h9 => h9) rfl dX11_form_37 ?_
          refine lv_iconst (v := kz 1) hx hb dX11_form_40 rfl ?_
          refine lv_bipush (v := kz 8) hx hb dX11_form_41 (by decide) ?_
          refine vp_callSi (va_Run.run (va_runS (As := [.int (kz size_10), .int (kz 1), .int (kz 8)]) (rest := []) ⟨hx, hb, hml, hown, hts⟩ (c_within l size_10 1 8 (by omega) (by omega) (by omega)) (va_cwS 3 hts gX11_form_X11_within rfl rfl rfl (by decide +kernel) ⟨Nat.le_of_ble_eq_true rfl, Nat.le_of_ble_eq_true rfl⟩) ⟨fun a U g mk q => q, fun U hU hW => ⟨rfl, trivial⟩⟩ rfl rfl hl.1 rfl (lv_room (Nat.le_of_ble_eq_true rfl)) dX11_form_43 ⟨Nat.le_of_ble_eq_true rfl, Nat.le_of_ble_eq_true rfl⟩)) (fun r_12 hw_11 => ?_)
          rcases hw_11 with ⟨rfl, hw_11⟩ | ⟨rfl, hw_11⟩
          · refine iz_eqz (tgt := 63) hx hb dX11_form_46 (by decide) (by unfold rg2; omega) (fun q9 => absurd q9 (by decide)) (fun _ => ?_)
            refine lv_aload_n hx hb dX11_form_49 rfl (lv_at hl 0 rfl) ?_
            refine iz_get (D := (dC, dI)) (ci := 11) (v := .ref j_tape) (C := RX11) (T := TX11) (N := 7) hx hb hts hinX11 hown hK hO rfl 0 (by decide) hL12 (fun _ h9 => h9) rfl dX11_form_50 ?_
            refine vp_callSi (va_Run.run (va_runV (As := []) (rest := []) ⟨hx, hb, hml, hown, hts⟩ (c_hasOnlyLetters l dC dI ca A X hU j_tape g_j_tape) (cwV 0 hts gX11_form_X8_hasOnlyLetters rfl rfl rfl (by decide +kernel) ⟨Nat.le_of_ble_eq_true rfl, Nat.le_of_ble_eq_true rfl⟩) ⟨fun a U g mk q => by obtain ⟨q0, ⟨qK, qN⟩, qI⟩ := q; exact ⟨q0, ⟨va_K.moved (u := U) (U := U.calling g mk a) (Vm.Alike.refl U.vm) qK, jN_same (U := U.calling g mk a) rfl qN⟩, qI⟩, va_recv hK (at_P co_10) (ci := 8) (q0 := 0) rfl rfl, fun U hU hW => ⟨rfl, jK_warm hW ⟨hK, hN⟩, by rw [hU]; exact hI⟩⟩ rfl rfl hl.1 rfl (lv_room (Nat.le_of_ble_eq_true rfl)) dX11_form_53 ⟨Nat.le_of_ble_eq_true rfl, Nat.le_of_ble_eq_true rfl⟩)) (fun r_14 hw_13 => ?_)
            rcases hw_13 with rfl | rfl
            · refine iz_eqz (tgt := 63) hx hb dX11_form_56 (by decide) (by unfold rg2; omega) (fun q9 => absurd q9 (by decide)) (fun _ => ?_)
              refine lv_iconst (v := kz 1) hx hb dX11_form_59 rfl ?_
              refine lv_goto (tgt := 64) hx hb dX11_form_60 (by decide) ?_
              refine lv_istore (lv' := [(5, .int (kz 1)), (0, .ref o), (1, .int (kz kd)), (2, .int (kz st9)), (3, .int (kz co)), (4, .int (kz kp))]) hx hb dX11_form_64 hl (by decide) rfl (fun ls hl => ?_)
              refine lv_iconst (v := kz (-1)) hx hb dX11_form_66 rfl ?_
              refine lv_istore (lv' := [(6, .int (kz (-1))), (5, .int (kz 1)), (0, .ref o), (1, .int (kz kd)), (2, .int (kz st9)), (3, .int (kz co)), (4, .int (kz kp))]) hx hb dX11_form_67 hl (by decide) rfl (fun ls hl => ?_)
              refine lv_iload hx hb dX11_form_69 (lv_at hl 1 rfl) ?_
              refine iz_eqz (tgt := 99) hx hb dX11_form_71 (by decide) (by unfold rg2; omega) (fun q9 => absurd q9 (by decide)) (fun _ => ?_)
              refine lv_aload_n hx hb dX11_form_74 rfl (lv_at hl 2 rfl) ?_
              refine iz_get (D := (dC, dI)) (ci := 11) (v := .ref j_tongue) (C := RX11) (T := TX11) (N := 7) hx hb hts hinX11 hown hK hO rfl 1 (by decide) hL19 (fun _ h9 => h9) rfl dX11_form_75 ?_
              have hzH : n0 ≤ H.size := by have h8 := hS.1; omega
              refine jz_new (ci := 2) (fs := [.null, .int (kz 0), .int (kz 0), .int (kz 0), .int (kz 0), .int (kz 0), .int (kz 0), .int (kz 0)]) (C := RX2) (T := TX2) (N := 8) hx hb hts (by decide +kernel) tyX2 tyX2_ok hown (hts (.classLink RX11 83 RX2) (by decide +kernel)) (hts (.instantiable RX2 8) (by decide +kernel)) (hts (.initialized RX2) (by decide +kernel)) hK hS rfl (fun j hj => by rcases (show j = 0 ∨ j = 1 ∨ j = 2 ∨ j = 3 ∨ j = 4 ∨ j = 5 ∨ j = 6 ∨ j = 7 by omega) with rfl | rfl | rfl | rfl | rfl | rfl | rfl | rfl <;> rfl) (Nat.le_of_ble_eq_true rfl) (Nat.le_of_ble_eq_true rfl) dX11_form_78 (fun x_15 H hx9 c_x_15 oq hz9 hS => ?_)
              have hFz := (oq _ (jv_lt hI (by rw [g_z]; exact hkz))).trans hFz
              have h0_x_15 : (X.1 x_15).2.1 = 0 := jv_out hI (by omega)
              have hge_x_15 : n0 ≤ x_15 := by omega
              have hne_x_15_o : x_15 ≠ o := by have h9 := hO.lt; omega
              have hO := hO.kept (oq _ hO.lt)
              have co_10 := co_10.kept (oq _ co_10.lt)
              have hI := jv_keep hI (fun q hq => oq q (jv_lt hI hq))
              clear oq hz9 hx9
              refine lv_dup hx hb dX11_form_81 rfl ?_
              refine lv_aload_n hx hb dX11_form_82 rfl (lv_at hl 2 rfl) ?_
              refine iz_get (D := (dC, dI)) (ci := 11) (v := .ref j_tape) (C := RX11) (T := TX11) (N := 7) hx hb hts hinX11 hown hK hO rfl 0 (by decide) hL12 (fun _ h9 => h9) rfl dX11_form_83 ?_
              refine lv_iload_n hx hb dX11_form_86 rfl (lv_at hl 3 rfl) ?_
              refine lv_iload_n hx hb dX11_form_87 rfl (lv_at hl 4 rfl) ?_
              refine lv_iload_n hx hb dX11_form_88 rfl (lv_at hl 5 rfl) ?_
              refine lv_iload hx hb dX11_form_89 (lv_at hl 6 rfl) ?_
              have hzH : n0 ≤ H.size := by have h8 := hS.1; omega
              have hxl := c_x_15.lt
              have hIA := hI
              refine va_callv (va_runI (As := [.ref j_tape, .int (kz kd), .int (kz st9), .int (kz co), .int (kz kp)]) (rest := [.ref x_15, .ref j_tongue]) ⟨hx, hb, hml, hown, hts⟩ (k_Form l dC dI ca X hU x_15 H.size j_tape kd st9 co kp bytes_10 size_10 h0_x_15 g_j_tape g_bytes_10 (by omega) hkp) (cwI 5 hts gX11_form_X2_init rfl rfl rfl (hts (.initialized RX2) (by decide +kernel)) (hts (.methodLink RX11 85 yX2_init) (by decide +kernel)) (hts (.instanceMethod yX2_init) (by decide +kernel)) rfl (by decide +kernel) ⟨Nat.le_of_ble_eq_true rfl, Nat.le_of_ble_eq_true rfl⟩) ⟨fun a U g mk q => by obtain ⟨q0, q1, ⟨qK, qN⟩, qI⟩ := q; exact ⟨q0, q1, ⟨va_K.moved (u := U) (U := U.calling g mk a) (Vm.Alike.refl U.vm) qK, jN_same (U := U.calling g mk a) rfl qN⟩, qI⟩, fun U hU9 hW => ⟨rfl, by rw [hU9], jK_warm hW ⟨hK, hN⟩, by rw [hU9]; exact ⟨jv_A2 hI (fun _ _ => trivial), c_x_15, co_10⟩⟩⟩ rfl rfl hl.1 rfl (lv_room (Nat.le_of_ble_eq_true rfl)) dX11_form_91 ⟨(Nat.le_of_ble_eq_true rfl), (Nat.le_of_ble_eq_true rfl)⟩) hS (fun q h8 h9 => h9.elim (fun e9 => by rw [e9]; exact (hA _ hge_x_15)) (fun e9 => absurd e9 (by omega))) (fun q h9 => h9.elim (fun e9 => by rw [e9]; exact (hA _ hge_x_15)) (fun e9 => hA q (by omega))) (fun X t9 H locs ht hvm hw_16 hB hz1 hk1 hS => ?_)
              have hzl9 := jv_lt hIA (q := z9) (by rw [g_z]; exact hkz)
              have hFz := (hk1 z9 hzl9 (fun e9 => e9.elim (kn_ne0 g_z h0_x_15 hkz) (fun e8 => absurd e8 (by omega)))).trans hFz
              obtain ⟨hw_16, hw_16g, hU⟩ := hw_16
              obtain ⟨-, hI, lt_x_15, g_lt_x_15, c_x_15⟩ := hB
              rw [ht] at hI c_x_15
              clear ht hvm
              have hI := jv_A2 hI (nw_A hIA hw_16 (hA _ hge_x_15) (fun q h8 => hA q (Nat.le_trans hzH h8)))
              clear hIA
              have hle9 := nw_le hw_16
              have h9o := hO.lt
              have hO := hO.kept (hk1 _ h9o (fun e9 => e9.elim (Ne.symm hne_x_15_o) (fun e8 => absurd e8 (by omega))))
              have g_o : X.1 o = (999, 0, 0, 0, 0) := (nw_eq hw_16 (Ne.symm hne_x_15_o) h9o).trans g_o
              have h9 := co_10.lt
              have co_10 := co_10.kept (hk1 _ h9 (fun e9 => e9.elim (kn_ne0 g_j_tape h0_x_15 (show (30 : Nat) ≠ 0 by decide)) (fun e8 => absurd e8 (by omega))))
              have hP := prl_nw hP hw_16 hU ((Ne.symm hne_x_15_o)) h9o (by intro t ht; simp at ht; subst ht; show (201 : Nat) ∈ [2, 201, 7, 202, 237, 238]; decide)
              have h0_x_15 := hw_16g
              have g_z := le_t hle9 g_z hkz
              have g_j_tongue := le_t hle9 g_j_tongue (show (30 : Nat) ≠ 0 by decide)
              have g_j_tape := le_t hle9 g_j_tape (show (30 : Nat) ≠ 0 by decide)
              have g_j_row := le_t hle9 g_j_row (show (30 : Nat) ≠ 0 by decide)
              have g_j_trees := le_t hle9 g_j_trees (show (30 : Nat) ≠ 0 by decide)
              have g_j_choices := le_t hle9 g_j_choices (show (30 : Nat) ≠ 0 by decide)
              have g_bytes_10 := le_t hle9 g_bytes_10 (show (21 : Nat) ≠ 0 by decide)
              have hpv := fun b q => le_t hle9 (hpv b q) (show (30 : Nat) ≠ 0 by decide)
              clear hle9 hxl hk1 hz1
              obtain ⟨fs9, co_17, jo9⟩ := jv_o9 hI g_j_tongue
              obtain ⟨forms_17, rules_17, formCount_17, ruleCount_17, forbidden_17, rfl, g_forms_17, g_rules_17, ⟨formCount_17a, formCount_17b⟩, ⟨ruleCount_17a, ruleCount_17b⟩, g_forbidden_17, x_17_0, x_17_1, x_17_2⟩ := jo9
              refine va_calli (va_runV (As := [.ref x_15]) (rest := []) ⟨hx, hb, hml, hown, hts⟩ (c_addFormZ l dC dI ca A X hU H z9 cz kdz nz loz hiz g_z hcz hkz j_tongue forms_17 rules_17 forbidden_17 formCount_17 ruleCount_17 x_15 lt_x_15 o kd st9 kp co (Int.toNat size_10) g_j_tongue g_forms_17 g_rules_17 g_forbidden_17 (by omega) (by omega) x_17_0 x_17_1 x_17_2 h0_x_15 (hA _ hge_x_15) g_o hne_x_15_o g_lt_x_15 (by omega) (by omega) (by omega) (by omega) (by omega)) (cwV 1 hts gX11_form_X9_addForm rfl rfl rfl (by decide +kernel) ⟨Nat.le_of_ble_eq_true rfl, Nat.le_of_ble_eq_true rfl⟩) ⟨fun a U g mk q => by obtain ⟨q0, qH, ⟨qK, qN⟩, qI⟩ := q; exact ⟨q0, qH, ⟨va_K.moved (u := U) (U := U.calling g mk a) (Vm.Alike.refl U.vm) qK, jN_same (U := U.calling g mk a) rfl qN⟩, qI⟩, va_recv hK (at_P co_17) (ci := 9) (q0 := 0) rfl rfl, fun U hU9 hW => ⟨rfl, hU9, jK_warm hW ⟨hK, hN⟩, by rw [hU9]; exact ⟨hI, co_17, c_x_15⟩⟩⟩ rfl rfl hl.1 rfl (lv_room (Nat.le_of_ble_eq_true rfl)) dX11_form_94 ⟨Nat.le_of_ble_eq_true rfl, Nat.le_of_ble_eq_true rfl⟩) hS (fun q _ h => h) (fun q h => h) (fun r_19 X t9 H locs ht hvm hw_18 hB hz1 hk1 hS => ?_)
              obtain ⟨-, hI, hFo, hfz9⟩ := hB
              rw [ht] at hI hFo hfz9
              have hFz := hfz9.trans hFz
              clear ht hvm hz1 hk1
              have hO := hO.kept hFo
              have hP := prl_af hP hw_18 h0_x_15 hne_x_15_o (by decide)
              have g_z := af_t hw_18 h0_x_15 g_z hkz
              have g_j_tape := af_t hw_18 h0_x_15 g_j_tape (show (30 : Nat) ≠ 0 by decide)
              have g_j_tongue := af_t hw_18 h0_x_15 g_j_tongue (show (30 : Nat) ≠ 0 by decide)
              have g_j_row := af_t hw_18 h0_x_15 g_j_row (show (30 : Nat) ≠ 0 by decide)
              have g_j_trees := af_t hw_18 h0_x_15 g_j_trees (show (30 : Nat) ≠ 0 by decide)
              have g_j_choices := af_t hw_18 h0_x_15 g_j_choices (show (30 : Nat) ≠ 0 by decide)
              have g_o : X.1 o = (999, 0, 0, 0, 0) := (af_o hw_18 (Ne.symm hne_x_15_o)).trans g_o
              have hU := hw_18.1
              have hpv := fun b q => af_t hw_18 h0_x_15 (hpv b q) (show (30 : Nat) ≠ 0 by decide)
              obtain ⟨z_20, z_20a, z_20b, rfl⟩ := kz_ex r_19
              refine lv_istore (lv' := [(6, .int (kz z_20)), (5, .int (kz 1)), (0, .ref o), (1, .int (kz kd)), (2, .int (kz st9)), (3, .int (kz co)), (4, .int (kz kp))]) hx hb dX11_form_97 hl (by decide) rfl (fun ls hl => ?_)
              refine lv_aload_n hx hb dX11_form_99 rfl (lv_at hl 2 rfl) ?_
              refine iz_get (D := (dC, dI)) (ci := 11) (v := .ref j_tape) (C := RX11) (T := TX11) (N := 7) hx hb hts hinX11 hown hK hO rfl 0 (by decide) hL12 (fun _ h9 => h9) rfl dX11_form_100 ?_
              refine lv_iconst (v := kz 0) hx hb dX11_form_103 rfl ?_
              obtain ⟨fs9, co_21, jo9⟩ := jv_o8 hI g_j_tape
              obtain ⟨bytes_21, size_21, rfl, g_bytes_21, ⟨size_21a, size_21b⟩⟩ := jo9
              refine iz_put (D := (dC, dI)) (ci := 8) (v := .int (kz 0)) (ty := .int) (C := RX8) (T := TX8) (N := 2) hx hb hts hinX8 tyX8 tyX8_ok nmX8 hown hK co_21 hS (jv_A hI g_j_tape (show (30 : Nat) ≠ 0 by decide)) rfl 1 (by decide) hL60 (fun _ h9 => h9) rfl (by decide +kernel) rfl rfl (Nat.le_of_ble_eq_true rfl) dX11_form_104 (fun H locs c9 oq hS => ?_)
              have hFz := (oq _ (kn_ne g_z g_j_tape (by first | (show cz ≠ (8 : Nat); omega) | (show cz ≠ (9 : Nat); omega) | (show cz ≠ (10 : Nat); omega) | (show cz ≠ (6 : Nat); omega) | (show cz ≠ (1 : Nat); omega) | (show cz ≠ (2 : Nat); omega) | (show cz ≠ (7 : Nat); omega) | (show cz ≠ (212 : Nat); omega) | (show cz ≠ (213 : Nat); omega) | (show cz ≠ (200 : Nat); omega) | (show cz ≠ (201 : Nat); omega) | (show cz ≠ (202 : Nat); omega) | (show cz ≠ (238 : Nat); omega) | (show cz ≠ (237 : Nat); omega) | (show cz ≠ (215 : Nat); omega) | (show cz ≠ (203 : Nat); omega) | (show cz ≠ (210 : Nat); omega) | (show cz ≠ (211 : Nat); omega) | (show cz ≠ (0 : Nat); omega)))).trans hFz
              have hI := jv_set hI c9 oq (by rw [g_j_tape]; exact jv_c8 ⟨bytes_21, 0, rfl, g_bytes_21, ⟨by omega, by omega⟩⟩)
              have hO := hO.kept (oq _ (kn_ne g_o g_j_tape (show (999 : Nat) ≠ 8 by decide)))
              have co_21 := c9
              clear oq c9
              refine lv_iload hx hb dX11_form_107 (lv_at hl 0 rfl) ?_
              refine W.widen (k := 2) (n := 24) (Nat.le_of_ble_eq_true rfl) (Nat.le_of_ble_eq_true rfl) ?_
              exact W.iret (v := kz z_20) hx hb hr (fun t9 ht hW => ⟨⟨kz z_20, (X, st), rfl, ⟨hP, rfl⟩, jK_warm hW ⟨hK, hN⟩, by rw [ht]; exact ⟨hI, hO, hFz⟩⟩, hS.F ht⟩) hS.2.2 dX11_form_109
            · refine iz_eqz (tgt := 63) hx hb dX11_form_56 (by decide) (by unfold rg2; omega) (fun _ => ?_) (fun q9 => absurd q9 (by decide))
              refine lv_iconst (v := kz 0) hx hb dX11_form_63 rfl ?_
              refine lv_istore (lv' := [(5, .int (kz 0)), (0, .ref o), (1, .int (kz kd)), (2, .int (kz st9)), (3, .int (kz co)), (4, .int (kz kp))]) hx hb dX11_form_64 hl (by decide) rfl (fun ls hl => ?_)
              refine lv_iconst (v := kz (-1)) hx hb dX11_form_66 rfl ?_
              refine lv_istore (lv' := [(6, .int (kz (-1))), (5, .int (kz 0)), (0, .ref o), (1, .int (kz kd)), (2, .int (kz st9)), (3, .int (kz co)), (4, .int (kz kp))]) hx hb dX11_form_67 hl (by decide) rfl (fun ls hl => ?_)
              refine lv_iload hx hb dX11_form_69 (lv_at hl 1 rfl) ?_
              refine iz_eqz (tgt := 99) hx hb dX11_form_71 (by decide) (by unfold rg2; omega) (fun _ => ?_) (fun q9 => absurd q9 (by decide))
              refine lv_aload_n hx hb dX11_form_99 rfl (lv_at hl 2 rfl) ?_
              refine iz_get (D := (dC, dI)) (ci := 11) (v := .ref j_tape) (C := RX11) (T := TX11) (N := 7) hx hb hts hinX11 hown hK hO rfl 0 (by decide) hL12 (fun _ h9 => h9) rfl dX11_form_100 ?_
              refine lv_iconst (v := kz 0) hx hb dX11_form_103 rfl ?_
              refine iz_put (D := (dC, dI)) (ci := 8) (v := .int (kz 0)) (ty := .int) (C := RX8) (T := TX8) (N := 2) hx hb hts hinX8 tyX8 tyX8_ok nmX8 hown hK co_10 hS (jv_A hI g_j_tape (show (30 : Nat) ≠ 0 by decide)) rfl 1 (by decide) hL60 (fun _ h9 => h9) rfl (by decide +kernel) rfl rfl (Nat.le_of_ble_eq_true rfl) dX11_form_104 (fun H locs c9 oq hS => ?_)
              have hFz := (oq _ (kn_ne g_z g_j_tape (by first | (show cz ≠ (8 : Nat); omega) | (show cz ≠ (9 : Nat); omega) | (show cz ≠ (10 : Nat); omega) | (show cz ≠ (6 : Nat); omega) | (show cz ≠ (1 : Nat); omega) | (show cz ≠ (2 : Nat); omega) | (show cz ≠ (7 : Nat); omega) | (show cz ≠ (212 : Nat); omega) | (show cz ≠ (213 : Nat); omega) | (show cz ≠ (200 : Nat); omega) | (show cz ≠ (201 : Nat); omega) | (show cz ≠ (202 : Nat); omega) | (show cz ≠ (238 : Nat); omega) | (show cz ≠ (237 : Nat); omega) | (show cz ≠ (215 : Nat); omega) | (show cz ≠ (203 : Nat); omega) | (show cz ≠ (210 : Nat); omega) | (show cz ≠ (211 : Nat); omega) | (show cz ≠ (0 : Nat); omega)))).trans hFz
              have hI := jv_set hI c9 oq (by rw [g_j_tape]; exact jv_c8 ⟨bytes_10, 0, rfl, g_bytes_10, ⟨by omega, by omega⟩⟩)
              have hO := hO.kept (oq _ (kn_ne g_o g_j_tape (show (999 : Nat) ≠ 8 by decide)))
              have co_1 := co_1.kept (oq _ (kn_ne g_j_tongue g_j_tape (show (9 : Nat) ≠ 8 by decide)))
              have co_10 := c9
              clear oq c9
              refine lv_iload hx hb dX11_form_107 (lv_at hl 0 rfl) ?_
              refine W.widen (k := 2) (n := 24) (Nat.le_of_ble_eq_true rfl) (Nat.le_of_ble_eq_true rfl) ?_
              exact W.iret (v := kz (-1)) hx hb hr (fun t9 ht hW => ⟨⟨kz (-1), (X, st), rfl, ⟨hP, rfl⟩, jK_warm hW ⟨hK, hN⟩, by rw [ht]; exact ⟨hI, hO, hFz⟩⟩, hS.F ht⟩) hS.2.2 dX11_form_109
          · refine iz_eqz (tgt := 63) hx hb dX11_form_46 (by decide) (by unfold rg2; omega) (fun _ => ?_) (fun q9 => absurd q9 (by decide))
            refine lv_iconst (v := kz 0) hx hb dX11_form_63 rfl ?_
            refine lv_istore (lv' := [(5, .int (kz 0)), (0, .ref o), (1, .int (kz kd)), (2, .int (kz st9)), (3, .int (kz co)), (4, .int (kz kp))]) hx hb dX11_form_64 hl (by decide) rfl (fun ls hl => ?_)
            refine lv_iconst (v := kz (-1)) hx hb dX11_form_66 rfl ?_
            refine lv_istore (lv' := [(6, .int (kz (-1))), (5, .int (kz 0)), (0, .ref o), (1, .int (kz kd)), (2, .int (kz st9)), (3, .int (kz co)), (4, .int (kz kp))]) hx hb dX11_form_67 hl (by decide) rfl (fun ls hl => ?_)
            refine lv_iload hx hb dX11_form_69 (lv_at hl 1 rfl) ?_
            refine iz_eqz (tgt := 99) hx hb dX11_form_71 (by decide) (by unfold rg2; omega) (fun _ => ?_) (fun q9 => absurd q9 (by decide))
            refine lv_aload_n hx hb dX11_form_99 rfl (lv_at hl 2 rfl) ?_
            refine iz_get (D := (dC, dI)) (ci := 11) (v := .ref j_tape) (C := RX11) (T := TX11) (N := 7) hx hb hts hinX11 hown hK hO rfl 0 (by decide) hL12 (fun _ h9 => h9) rfl dX11_form_100 ?_
            refine lv_iconst (v := kz 0) hx hb dX11_form_103 rfl ?_
            refine iz_put (D := (dC, dI)) (ci := 8) (v := .int (kz 0)) (ty := .int) (C := RX8) (T := TX8) (N := 2) hx hb hts hinX8 tyX8 tyX8_ok nmX8 hown hK co_10 hS (jv_A hI g_j_tape (show (30 : Nat) ≠ 0 by decide)) rfl 1 (by decide) hL60 (fun _ h9 => h9) rfl (by decide +kernel) rfl rfl (Nat.le_of_ble_eq_true rfl) dX11_form_104 (fun H locs c9 oq hS => ?_)
            have hFz := (oq _ (kn_ne g_z g_j_tape (by first | (show cz ≠ (8 : Nat); omega) | (show cz ≠ (9 : Nat); omega) | (show cz ≠ (10 : Nat); omega) | (show cz ≠ (6 : Nat); omega) | (show cz ≠ (1 : Nat); omega) | (show cz ≠ (2 : Nat); omega) | (show cz ≠ (7 : Nat); omega) | (show cz ≠ (212 : Nat); omega) | (show cz ≠ (213 : Nat); omega) | (show cz ≠ (200 : Nat); omega) | (show cz ≠ (201 : Nat); omega) | (show cz ≠ (202 : Nat); omega) | (show cz ≠ (238 : Nat); omega) | (show cz ≠ (237 : Nat); omega) | (show cz ≠ (215 : Nat); omega) | (show cz ≠ (203 : Nat); omega) | (show cz ≠ (210 : Nat); omega) | (show cz ≠ (211 : Nat); omega) | (show cz ≠ (0 : Nat); omega)))).trans hFz
            have hI := jv_set hI c9 oq (by rw [g_j_tape]; exact jv_c8 ⟨bytes_10, 0, rfl, g_bytes_10, ⟨by omega, by omega⟩⟩)
            have hO := hO.kept (oq _ (kn_ne g_o g_j_tape (show (999 : Nat) ≠ 8 by decide)))
            have co_1 := co_1.kept (oq _ (kn_ne g_j_tongue g_j_tape (show (9 : Nat) ≠ 8 by decide)))
            have co_10 := c9
            clear oq c9
            refine lv_iload hx hb dX11_form_107 (lv_at hl 0 rfl) ?_
            refine W.widen (k := 2) (n := 24) (Nat.le_of_ble_eq_true rfl) (Nat.le_of_ble_eq_true rfl) ?_
            exact W.iret (v := kz (-1)) hx hb hr (fun t9 ht hW => ⟨⟨kz (-1), (X, st), rfl, ⟨hP, rfl⟩, jK_warm hW ⟨hK, hN⟩, by rw [ht]; exact ⟨hI, hO, hFz⟩⟩, hS.F ht⟩) hS.2.2 dX11_form_109
        · refine iz_eqz (tgt := 63) hx hb dX11_form_30 (by decide) (by unfold rg2; omega) (fun _ => ?_) (fun q9 => absurd q9 (by decide))
          refine lv_iconst (v := kz 0) hx hb dX11_form_63 rfl ?_
          refine lv_istore (lv' := [(5, .int (kz 0)), (0, .ref o), (1, .int (kz kd)), (2, .int (kz st9)), (3, .int (kz co)), (4, .int (kz kp))]) hx hb dX11_form_64 hl (by decide) rfl (fun ls hl => ?_)
          refine lv_iconst (v := kz (-1)) hx hb dX11_form_66 rfl ?_
          refine lv_istore (lv' := [(6, .int (kz (-1))), (5, .int (kz 0)), (0, .ref o), (1, .int (kz kd)), (2, .int (kz st9)), (3, .int (kz co)), (4, .int (kz kp))]) hx hb dX11_form_67 hl (by decide) rfl (fun ls hl => ?_)
          refine lv_iload hx hb dX11_form_69 (lv_at hl 1 rfl) ?_
          refine iz_eqz (tgt := 99) hx hb dX11_form_71 (by decide) (by unfold rg2; omega) (fun _ => ?_) (fun q9 => absurd q9 (by decide))
          refine lv_aload_n hx hb dX11_form_99 rfl (lv_at hl 2 rfl) ?_
          refine iz_get (D := (dC, dI)) (ci := 11) (v := .ref j_tape) (C := RX11) (T := TX11) (N := 7) hx hb hts hinX11 hown hK hO rfl 0 (by decide) hL12 (fun _ h9 => h9) rfl dX11_form_100 ?_
          refine lv_iconst (v := kz 0) hx hb dX11_form_103 rfl ?_
          obtain ⟨fs9, co_22, jo9⟩ := jv_o8 hI g_j_tape
          obtain ⟨bytes_22, size_22, rfl, g_bytes_22, ⟨size_22a, size_22b⟩⟩ := jo9
          refine iz_put (D := (dC, dI)) (ci := 8) (v := .int (kz 0)) (ty := .int) (C := RX8) (T := TX8) (N := 2) hx hb hts hinX8 tyX8 tyX8_ok nmX8 hown hK co_22 hS (jv_A hI g_j_tape (show (30 : Nat) ≠ 0 by decide)) rfl 1 (by decide) hL60 (fun _ h9 => h9) rfl (by decide +kernel) rfl rfl (Nat.le_of_ble_eq_true rfl) dX11_form_104 (fun H locs c9 oq hS => ?_)
          have hFz := (oq _ (kn_ne g_z g_j_tape (by first | (show cz ≠ (8 : Nat); omega) | (show cz ≠ (9 : Nat); omega) | (show cz ≠ (10 : Nat); omega) | (show cz ≠ (6 : Nat); omega) | (show cz ≠ (1 : Nat); omega) | (show cz ≠ (2 : Nat); omega) | (show cz ≠ (7 : Nat); omega) | (show cz ≠ (212 : Nat); omega) | (show cz ≠ (213 : Nat); omega) | (show cz ≠ (200 : Nat); omega) | (show cz ≠ (201 : Nat); omega) | (show cz ≠ (202 : Nat); omega) | (show cz ≠ (238 : Nat); omega) | (show cz ≠ (237 : Nat); omega) | (show cz ≠ (215 : Nat); omega) | (show cz ≠ (203 : Nat); omega) | (show cz ≠ (210 : Nat); omega) | (show cz ≠ (211 : Nat); omega) | (show cz ≠ (0 : Nat); omega)))).trans hFz
          have hI := jv_set hI c9 oq (by rw [g_j_tape]; exact jv_c8 ⟨bytes_22, 0, rfl, g_bytes_22, ⟨by omega, by omega⟩⟩)
          have hO := hO.kept (oq _ (kn_ne g_o g_j_tape (show (999 : Nat) ≠ 8 by decide)))
          have co_1 := co_1.kept (oq _ (kn_ne g_j_tongue g_j_tape (show (9 : Nat) ≠ 8 by decide)))
          have co_22 := c9
          clear oq c9
          refine lv_iload hx hb dX11_form_107 (lv_at hl 0 rfl) ?_
          refine W.widen (k := 2) (n := 24) (Nat.le_of_ble_eq_true rfl) (Nat.le_of_ble_eq_true rfl) ?_
          exact W.iret (v := kz (-1)) hx hb hr (fun t9 ht hW => ⟨⟨kz (-1), (X, st), rfl, ⟨hP, rfl⟩, jK_warm hW ⟨hK, hN⟩, by rw [ht]; exact ⟨hI, hO, hFz⟩⟩, hS.F ht⟩) hS.2.2 dX11_form_109
      · refine iz_eqz (tgt := 63) hx hb dX11_form_23 (by decide) (by unfold rg2; omega) (fun _ => ?_) (fun q9 => absurd q9 (by decide))
        refine lv_iconst (v := kz 0) hx hb dX11_form_63 rfl ?_
        refine lv_istore (lv' := [(5, .int (kz 0)), (0, .ref o), (1, .int (kz kd)), (2, .int (kz st9)), (3, .int (kz co)), (4, .int (kz kp))]) hx hb dX11_form_64 hl (by decide) rfl (fun ls hl => ?_)
        refine lv_iconst (v := kz (-1)) hx hb dX11_form_66 rfl ?_
        refine lv_istore (lv' := [(6, .int (kz (-1))), (5, .int (kz 0)), (0, .ref o), (1, .int (kz kd)), (2, .int (kz st9)), (3, .int (kz co)), (4, .int (kz kp))]) hx hb dX11_form_67 hl (by decide) rfl (fun ls hl => ?_)
        refine lv_iload hx hb dX11_form_69 (lv_at hl 1 rfl) ?_
        refine iz_eqz (tgt := 99) hx hb dX11_form_71 (by decide) (by unfold rg2; omega) (fun _ => ?_) (fun q9 => absurd q9 (by decide))
        refine lv_aload_n hx hb dX11_form_99 rfl (lv_at hl 2 rfl) ?_
        refine iz_get (D := (dC, dI)) (ci := 11) (v := .ref j_tape) (C := RX11) (T := TX11) (N := 7) hx hb hts hinX11 hown hK hO rfl 0 (by decide) hL12 (fun _ h9 => h9) rfl dX11_form_100 ?_
        refine lv_iconst (v := kz 0) hx hb dX11_form_103 rfl ?_
        obtain ⟨fs9, co_23, jo9⟩ := jv_o8 hI g_j_tape
        obtain ⟨bytes_23, size_23, rfl, g_bytes_23, ⟨size_23a, size_23b⟩⟩ := jo9
        refine iz_put (D := (dC, dI)) (ci := 8) (v := .int (kz 0)) (ty := .int) (C := RX8) (T := TX8) (N := 2) hx hb hts hinX8 tyX8 tyX8_ok nmX8 hown hK co_23 hS (jv_A hI g_j_tape (show (30 : Nat) ≠ 0 by decide)) rfl 1 (by decide) hL60 (fun _ h9 => h9) rfl (by decide +kernel) rfl rfl (Nat.le_of_ble_eq_true rfl) dX11_form_104 (fun H locs c9 oq hS => ?_)
        have hFz := (oq _ (kn_ne g_z g_j_tape (by first | (show cz ≠ (8 : Nat); omega) | (show cz ≠ (9 : Nat); omega) | (show cz ≠ (10 : Nat); omega) | (show cz ≠ (6 : Nat); omega) | (show cz ≠ (1 : Nat); omega) | (show cz ≠ (2 : Nat); omega) | (show cz ≠ (7 : Nat); omega) | (show cz ≠ (212 : Nat); omega) | (show cz ≠ (213 : Nat); omega) | (show cz ≠ (200 : Nat); omega) | (show cz ≠ (201 : Nat); omega) | (show cz ≠ (202 : Nat); omega) | (show cz ≠ (238 : Nat); omega) | (show cz ≠ (237 : Nat); omega) | (show cz ≠ (215 : Nat); omega) | (show cz ≠ (203 : Nat); omega) | (show cz ≠ (210 : Nat); omega) | (show cz ≠ (211 : Nat); omega) | (show cz ≠ (0 : Nat); omega)))).trans hFz
        have hI := jv_set hI c9 oq (by rw [g_j_tape]; exact jv_c8 ⟨bytes_23, 0, rfl, g_bytes_23, ⟨by omega, by omega⟩⟩)
        have hO := hO.kept (oq _ (kn_ne g_o g_j_tape (show (999 : Nat) ≠ 8 by decide)))
        have co_1 := co_1.kept (oq _ (kn_ne g_j_tongue g_j_tape (show (9 : Nat) ≠ 8 by decide)))
        have co_23 := c9
        clear oq c9
        refine lv_iload hx hb dX11_form_107 (lv_at hl 0 rfl) ?_
        refine W.widen (k := 2) (n := 24) (Nat.le_of_ble_eq_true rfl) (Nat.le_of_ble_eq_true rfl) ?_
        exact W.iret (v := kz (-1)) hx hb hr (fun t9 ht hW => ⟨⟨kz (-1), (X, st), rfl, ⟨hP, rfl⟩, jK_warm hW ⟨hK, hN⟩, by rw [ht]; exact ⟨hI, hO, hFz⟩⟩, hS.F ht⟩) hS.2.2 dX11_form_109
    · refine iz_eqz (tgt := 63) hx hb dX11_form_16 (by decide) (by unfold rg2; omega) (fun _ => ?_) (fun q9 => absurd q9 (by decide))
      refine lv_iconst (v := kz 0) hx hb dX11_form_63 rfl ?_
      refine lv_istore (lv' := [(5, .int (kz 0)), (0, .ref o), (1, .int (kz kd)), (2, .int (kz st9)), (3, .int (kz co)), (4, .int (kz kp))]) hx hb dX11_form_64 hl (by decide) rfl (fun ls hl => ?_)
      refine lv_iconst (v := kz (-1)) hx hb dX11_form_66 rfl ?_
      refine lv_istore (lv' := [(6, .int (kz (-1))), (5, .int (kz 0)), (0, .ref o), (1, .int (kz kd)), (2, .int (kz st9)), (3, .int (kz co)), (4, .int (kz kp))]) hx hb dX11_form_67 hl (by decide) rfl (fun ls hl => ?_)
      refine lv_iload hx hb dX11_form_69 (lv_at hl 1 rfl) ?_
      refine iz_eqz (tgt := 99) hx hb dX11_form_71 (by decide) (by unfold rg2; omega) (fun _ => ?_) (fun q9 => absurd q9 (by decide))
      refine lv_aload_n hx hb dX11_form_99 rfl (lv_at hl 2 rfl) ?_
      refine iz_get (D := (dC, dI)) (ci := 11) (v := .ref j_tape) (C := RX11) (T := TX11) (N := 7) hx hb hts hinX11 hown hK hO rfl 0 (by decide) hL12 (fun _ h9 => h9) rfl dX11_form_100 ?_
      refine lv_iconst (v := kz 0) hx hb dX11_form_103 rfl ?_
      obtain ⟨fs9, co_24, jo9⟩ := jv_o8 hI g_j_tape
      obtain ⟨bytes_24, size_24, rfl, g_bytes_24, ⟨size_24a, size_24b⟩⟩ := jo9
      refine iz_put (D := (dC, dI)) (ci := 8) (v := .int (kz 0)) (ty := .int) (C := RX8) (T := TX8) (N := 2) hx hb hts hinX8 tyX8 tyX8_ok nmX8 hown hK co_24 hS (jv_A hI g_j_tape (show (30 : Nat) ≠ 0 by decide)) rfl 1 (by decide) hL60 (fun _ h9 => h9) rfl (by decide +kernel) rfl rfl (Nat.le_of_ble_eq_true rfl) dX11_form_104 (fun H locs c9 oq hS => ?_)
      have hFz := (oq _ (kn_ne g_z g_j_tape (by first | (show cz ≠ (8 : Nat); omega) | (show cz ≠ (9 : Nat); omega) | (show cz ≠ (10 : Nat); omega) | (show cz ≠ (6 : Nat); omega) | (show cz ≠ (1 : Nat); omega) | (show cz ≠ (2 : Nat); omega) | (show cz ≠ (7 : Nat); omega) | (show cz ≠ (212 : Nat); omega) | (show cz ≠ (213 : Nat); omega) | (show cz ≠ (200 : Nat); omega) | (show cz ≠ (201 : Nat); omega) | (show cz ≠ (202 : Nat); omega) | (show cz ≠ (238 : Nat); omega) | (show cz ≠ (237 : Nat); omega) | (show cz ≠ (215 : Nat); omega) | (show cz ≠ (203 : Nat); omega) | (show cz ≠ (210 : Nat); omega) | (show cz ≠ (211 : Nat); omega) | (show cz ≠ (0 : Nat); omega)))).trans hFz
      have hI := jv_set hI c9 oq (by rw [g_j_tape]; exact jv_c8 ⟨bytes_24, 0, rfl, g_bytes_24, ⟨by omega, by omega⟩⟩)
      have hO := hO.kept (oq _ (kn_ne g_o g_j_tape (show (999 : Nat) ≠ 8 by decide)))
      have co_1 := co_1.kept (oq _ (kn_ne g_j_tongue g_j_tape (show (9 : Nat) ≠ 8 by decide)))
      have co_24 := c9
      clear oq c9
      refine lv_iload hx hb dX11_form_107 (lv_at hl 0 rfl) ?_
      refine W.widen (k := 2) (n := 24) (Nat.le_of_ble_eq_true rfl) (Nat.le_of_ble_eq_true rfl) ?_
      exact W.iret (v := kz (-1)) hx hb hr (fun t9 ht hW => ⟨⟨kz (-1), (X, st), rfl, ⟨hP, rfl⟩, jK_warm hW ⟨hK, hN⟩, by rw [ht]; exact ⟨hI, hO, hFz⟩⟩, hS.F ht⟩) hS.2.2 dX11_form_109
set_option maxHeartbeats 4000000 in
set_option maxRecDepth 100000 in
theorem j_ruleZ (l : Launch) (dC : Nat → ClassId) (dI : Nat → Nat → Nat) (ca : Nat → ClassId) (A : Nat → Prop) (X : jG) (hU : jU X) (Hp : Heap) (z9 cz kdz nz : Nat) (loz hiz : Int) (g_z : X.1 z9 = (cz, kdz, nz, loz, hiz)) (hcz : cz = 214 ∨ cz = 229) (hkz : kdz ≠ 0) (o : Nat) (j_tape : Nat) (j_tongue : Nat) (j_row : Nat) (j_trees : Nat) (j_choices : Nat) (pv : Option Nat) (st : Int) (en : Int) (be : Int) (co : Int) (fd : Int) (ld : Int) (g_o : X.1 o = (999, 0, 0, 0, 0)) (hAo : A o) (g_j_tape : X.1 j_tape = (8, 30, 0, 0, 0)) (g_j_tongue : X.1 j_tongue = (9, 30, 0, 0, 0)) (g_j_row : X.1 j_row = (6, 30, 0, 0, 0)) (g_j_trees : X.1 j_trees = (10, 30, 0, 0, 0)) (g_j_choices : X.1 j_choices = (1, 30, 0, 0, 0)) (hpv : ∀ b : Nat, pv = some b → X.1 b = (4, 30, 0, 0, 0)) (hst : 0 ≤ st ∧ st ≤ 20) (enr : -2147483648 ≤ en ∧ en ≤ 2147483647) (ber : -2147483648 ≤ be ∧ be ≤ 2147483647) (cor : -2147483648 ≤ co ∧ co ≤ 2147483647) (fdr : -2147483648 ≤ fd ∧ fd ≤ 2147483647) (ldr : -2147483648 ≤ ld ∧ ld ≤ 2147483647) (hA9 : ∀ q : Nat, Hp.size ≤ q → A q) (ht9 : ∀ q : Nat, (X.1 q).2.1 ≠ 0 → (X.1 q).1 = 9 → q = j_tongue) : Met l yX11_rule wsX11_rule ({ frames := 4, cells := 2, slots := 25, locals := 92 }) (va_Pc [.ref o, .int (kz en), .int (kz be), .int (kz co), .int (kz fd), .int (kz ld)] (fun U => U.heap = Hp ∧ jK (dC, dI) ca U ∧ jv (dC, dI) ca A X U.heap ∧ va_at (dC, dI) vwCl (o, .inr (11, [.ref j_tape, .ref j_tongue, .ref j_row, .ref j_trees, .ref j_choices, va_rf pv, .int (kz st)])) U.heap)) (va_Qi (fun (r : Int32) (u : jG × Int) => prl X u.1 o [2, 201, 7, 202, 237, 238] ∧ u.2 = st) (fun (u : jG × Int) U => jK (dC, dI) ca U ∧ jv (dC, dI) ca A u.1 U.heap ∧ va_at (dC, dI) vwCl (o, .inr (11, [.ref j_tape, .ref j_tongue, .ref j_row, .ref j_trees, .ref j_choices, va_rf pv, .int (kz u.2)])) U.heap ∧ U.heap[z9]? = Hp[z9]?) A) 2 25 A := by
  refine Met.ofW (cc := cX11_rule) (maxL := 8) (ret := (some .int)) (by decide) rfl ?_
  intro p e s m args below meth c s₁ B hml hv
  obtain ⟨rfl, hHp, ⟨hK, hN⟩, hI, hO⟩ := hv
  have hx := B.exec
  have hb := B.bytes
  have hr := B.returns
  have hts := atoms_spec (ws := wsX11_rule) B.pre
  have hown : s.vm.findClass RX11 = some m.cls := findClass_of_methodNamed B.named
  have hL19 := hts (.fieldLink RX11 19 "JoinBench" "tongue" "LJoinBench$Tongue;") (by decide +kernel)
  have hL92 := hts (.fieldLink RX11 92 "JoinBench$Tongue" "ruleCount" "I") (by decide +kernel)
  have hL12 := hts (.fieldLink RX11 12 "JoinBench" "tape" "LJoinBench$Tape;") (by decide +kernel)
  have hL60 := hts (.fieldLink RX11 60 "JoinBench$Tape" "size" "I") (by decide +kernel)
  have hinX11 : ∀ w ∈ u_ws RX11 TX11 7, w ∈ wsX11_rule := by decide +kernel
  have hinX8 : ∀ w ∈ u_ws RX8 TX8 2, w ∈ wsX11_rule := by decide +kernel
  have hinX9 : ∀ w ∈ u_ws RX9 TX9 5, w ∈ wsX11_rule := by decide +kernel
  obtain ⟨H, hH⟩ : ∃ H : Heap, H = s.heap := ⟨_, rfl⟩
  have hS : va_S A s.heap H [] := by rw [hH]; exact va_S.rf
  have hF : kfm X [] Hp H := by rw [hH, hHp]; exact fm_rf _ _ _
  clear hF
  obtain ⟨n0, hn0⟩ : ∃ n9 : Nat, n9 = Hp.size := ⟨_, rfl⟩
  have hA : ∀ q : Nat, n0 ≤ q → A q := by rw [hn0]; exact hA9
  have hsz : s.heap.size = n0 := by rw [hn0, hHp]
  have hP := prl_rf o [2, 201, 7, 202, 237, 238] hU
  have hFz : H[z9]? = Hp[z9]? := by rw [hH, hHp]
  rw [← hH] at hI hO ⊢
  clear hH
  have hl := lv_entry ([.ref o, .int (kz en), .int (kz be), .int (kz co), .int (kz fd), .int (kz ld)]) (n := 8) (Nat.le_of_ble_eq_true rfl)
  rw [lg_entry_eq]
  generalize (lg_sl ([.ref o, .int (kz en), .int (kz be), .int (kz co), .int (kz fd), .int (kz ld)]) ++ List.replicate (8 - (lg_sl ([.ref o, .int (kz en), .int (kz be), .int (kz co), .int (kz fd), .int (kz ld)])).length) Slot.unset).toArray = ls at hl ⊢
  have hl : lv_has ls 8 [(0, .ref o), (1, .int (kz en)), (2, .int (kz be)), (3, .int (kz co)), (4, .int (kz fd)), (5, .int (kz ld))] := hl
  refine lv_aload_n hx hb dX11_rule_0 rfl (lv_at hl 0 rfl) ?_
  refine iz_get (D := (dC, dI)) (ci := 11) (v := .ref j_tongue) (C := RX11) (T := TX11) (N := 7) hx hb hts hinX11 hown hK hO rfl 1 (by decide) hL19 (fun _ h9 => h9) rfl dX11_rule_1 ?_
  obtain ⟨fs9, co_1, jo9⟩ := jv_o9 hI g_j_tongue
  obtain ⟨forms_1, rules_1, formCount_1, ruleCount_1, forbidden_1, rfl, g_forms_1, g_rules_1, ⟨formCount_1a, formCount_1b⟩, ⟨ruleCount_1a, ruleCount_1b⟩, g_forbidden_1, x_1_0, x_1_1, x_1_2⟩ := jo9
  refine iz_get (D := (dC, dI)) (ci := 9) (v := .int (kz ruleCount_1)) (C := RX9) (T := TX9) (N := 5) hx hb hts hinX9 hown hK co_1 rfl 3 (by decide) hL92 (fun _ h9 => h9) rfl dX11_rule_4 ?_
  refine lv_bipush (v := kz 24) hx hb dX11_rule_7 (by decide) ?_
  refine iz_ge (tgt := 99) hx hb dX11_rule_9 (by decide) (by unfold rg2; omega) (fun br_2 => ?_) (fun br_2 => ?_)
  · refine lv_iconst (v := kz 0) hx hb dX11_rule_99 rfl ?_
    refine lv_istore (lv' := [(6, .int (kz 0)), (0, .ref o), (1, .int (kz en)), (2, .int (kz be)), (3, .int (kz co)), (4, .int (kz fd)), (5, .int (kz ld))]) hx hb dX11_rule_100 hl (by decide) rfl (fun ls hl => ?_)
    refine lv_iconst (v := kz (-1)) hx hb dX11_rule_102 rfl ?_
    refine lv_istore (lv' := [(7, .int (kz (-1))), (6, .int (kz 0)), (0, .ref o), (1, .int (kz en)), (2, .int (kz be)), (3, .int (kz co)), (4, .int (kz fd)), (5, .int (kz ld))]) hx hb dX11_rule_103 hl (by decide) rfl (fun ls hl => ?_)
    refine lv_iload hx hb dX11_rule_105 (lv_at hl 1 rfl) ?_
    refine iz_eqz (tgt := 137) hx hb dX11_rule_107 (by decide) (by unfold rg2; omega) (fun _ => ?_) (fun q9 => absurd q9 (by decide))
    refine lv_aload_n hx hb dX11_rule_137 rfl (lv_at hl 2 rfl) ?_
    refine iz_get (D := (dC, dI)) (ci := 11) (v := .ref j_tape) (C := RX11) (T := TX11) (N := 7) hx hb hts hinX11 hown hK hO rfl 0 (by decide) hL12 (fun _ h9 => h9) rfl dX11_rule_138 ?_
    refine lv_iconst (v := kz 0) hx hb dX11_rule_141 rfl ?_
    obtain ⟨fs9, co_3, jo9⟩ := jv_o8 hI g_j_tape
    obtain ⟨bytes_3, size_3, rfl, g_bytes_3, ⟨size_3a, size_3b⟩⟩ := jo9
    refine iz_put (D := (dC, dI)) (ci := 8) (v := .int (kz 0)) (ty := .int) (C := RX8) (T := TX8) (N := 2) hx hb hts hinX8 tyX8 tyX8_ok nmX8 hown hK co_3 hS (jv_A hI g_j_tape (show (30 : Nat) ≠ 0 by decide)) rfl 1 (by decide) hL60 (fun _ h9 => h9) rfl (by decide +kernel) rfl rfl (Nat.le_of_ble_eq_true rfl) dX11_rule_142 (fun H locs c9 oq hS => ?_)
    have hFz := (oq _ (kn_ne g_z g_j_tape (by first | (show cz ≠ (8 : Nat); omega) | (show cz ≠ (9 : Nat); omega) | (show cz ≠ (10 : Nat); omega) | (show cz ≠ (6 : Nat); omega) | (show cz ≠ (1 : Nat); omega) | (show cz ≠ (2 : Nat); omega) | (show cz ≠ (7 : Nat); omega) | (show cz ≠ (212 : Nat); omega) | (show cz ≠ (213 : Nat); omega) | (show cz ≠ (200 : Nat); omega) | (show cz ≠ (201 : Nat); omega) | (show cz ≠ (202 : Nat); omega) | (show cz ≠ (238 : Nat); omega) | (show cz ≠ (237 : Nat); omega) | (show cz ≠ (215 : Nat); omega) | (show cz ≠ (203 : Nat); omega) | (show cz ≠ (210 : Nat); omega) | (show cz ≠ (211 : Nat); omega) | (show cz ≠ (0 : Nat); omega)))).trans hFz
    have hI := jv_set hI c9 oq (by rw [g_j_tape]; exact jv_c8 ⟨bytes_3, 0, rfl, g_bytes_3, ⟨by omega, by omega⟩⟩)
    have hO := hO.kept (oq _ (kn_ne g_o g_j_tape (show (999 : Nat) ≠ 8 by decide)))
    have co_1 := co_1.kept (oq _ (kn_ne g_j_tongue g_j_tape (show (9 : Nat) ≠ 8 by decide)))
    have co_3 := c9
    clear oq c9
    refine lv_iload hx hb dX11_rule_145 (lv_at hl 0 rfl) ?_
    refine W.widen (k := 2) (n := 25) (Nat.le_of_ble_eq_true rfl) (Nat.le_of_ble_eq_true rfl) ?_
    exact W.iret (v := kz (-1)) hx hb hr (fun t9 ht hW => ⟨⟨kz (-1), (X, st), rfl, ⟨hP, rfl⟩, jK_warm hW ⟨hK, hN⟩, by rw [ht]; exact ⟨hI, hO, hFz⟩⟩, hS.F ht⟩) hS.2.2 dX11_rule_147
  · refine lv_iload_n hx hb dX11_rule_12 rfl (lv_at hl 1 rfl) ?_
    refine lv_iconst (v := kz 0) hx hb dX11_rule_13 rfl ?_
    refine lv_iconst (v := kz 3) hx hb dX11_rule_14 rfl ?_
    refine vp_callSi (va_Run.run (va_runS (As := [.int (kz en), .int (kz 0), .int (kz 3)]) (rest := []) ⟨hx, hb, hml, hown, hts⟩ (c_within l en 0 3 (by omega) (by omega) (by omega)) (va_cwS 3 hts gX11_rule_X11_within rfl rfl rfl (by decide +kernel) ⟨Nat.le_of_ble_eq_true rfl, Nat.le_of_ble_eq_true rfl⟩) ⟨fun a U g mk q => q, fun U hU hW => ⟨rfl, trivial⟩⟩ rfl rfl hl.1 rfl (lv_room (Nat.le_of_ble_eq_true rfl)) dX11_rule_15 ⟨Nat.le_of_ble_eq_true rfl, Nat.le_of_ble_eq_true rfl⟩)) (fun r_5 hw_4 => ?_)
    rcases hw_4 with ⟨rfl, hw_4⟩ | ⟨rfl, hw_4⟩
    · refine iz_eqz (tgt := 99) hx hb dX11_rule_18 (by decide) (by unfold rg2; omega) (fun q9 => absurd q9 (by decide)) (fun _ => ?_)
      refine lv_iload_n hx hb dX11_rule_21 rfl (lv_at hl 2 rfl) ?_
      refine lv_iconst (v := kz 0) hx hb dX11_rule_22 rfl ?_
      refine lv_iconst (v := kz 3) hx hb dX11_rule_23 rfl ?_
      refine vp_callSi (va_Run.run (va_runS (As := [.int (kz be), .int (kz 0), .int (kz 3)]) (rest := []) ⟨hx, hb, hml, hown, hts⟩ (c_within l be 0 3 (by omega) (by omega) (by omega)) (va_cwS 3 hts gX11_rule_X11_within rfl rfl rfl (by decide +kernel) ⟨Nat.le_of_ble_eq_true rfl, Nat.le_of_ble_eq_true rfl⟩) ⟨fun a U g mk q => q, fun U hU hW => ⟨rfl, trivial⟩⟩ rfl rfl hl.1 rfl (lv_room (Nat.le_of_ble_eq_true rfl)) dX11_rule_24 ⟨Nat.le_of_ble_eq_true rfl, Nat.le_of_ble_eq_true rfl⟩)) (fun r_7 hw_6 => ?_)
      rcases hw_6 with ⟨rfl, hw_6⟩ | ⟨rfl, hw_6⟩
      · refine iz_eqz (tgt := 99) hx hb dX11_rule_27 (by decide) (by unfold rg2; omega) (fun q9 => absurd q9 (by decide)) (fun _ => ?_)
        refine lv_iload_n hx hb dX11_rule_30 rfl (lv_at hl 1 rfl) ?_
        refine lv_iload_n hx hb dX11_rule_31 rfl (lv_at hl 2 rfl) ?_
        refine iz_iadd hx hb dX11_rule_32 ?_
        refine iz_lez (tgt := 99) hx hb dX11_rule_33 (by decide) (by unfold rg2; omega) (fun br_8 => ?_) (fun br_8 => ?_)
        · refine lv_iconst (v := kz 0) hx hb dX11_rule_99 rfl ?_
          refine lv_istore (lv' := [(6, .int (kz 0)), (0, .ref o), (1, .int (kz en)), (2, .int (kz be)), (3, .int (kz co)), (4, .int (kz fd)), (5, .int (kz ld))]) hx hb dX11_rule_100 hl (by decide) rfl (fun ls hl => ?_)
          refine lv_iconst (v := kz (-1)) hx hb dX11_rule_102 rfl ?_
          refine lv_istore (lv' := [(7, .int (kz (-1))), (6, .int (kz 0)), (0, .ref o), (1, .int (kz en)), (2, .int (kz be)), (3, .int (kz co)), (4, .int (kz fd)), (5, .int (kz ld))]) hx hb dX11_rule_103 hl (by decide) rfl (fun ls hl => ?_)
          refine lv_iload hx hb dX11_rule_105 (lv_at hl 1 rfl) ?_
          refine iz_eqz (tgt := 137) hx hb dX11_rule_107 (by decide) (by unfold rg2; omega) (fun _ => ?_) (fun q9 => absurd q9 (by decide))
          refine lv_aload_n hx hb dX11_rule_137 rfl (lv_at hl 2 rfl) ?_
          refine iz_get (D := (dC, dI)) (ci := 11) (v := .ref j_tape) (C := RX11) (T := TX11) (N := 7) hx hb hts hinX11 hown hK hO rfl 0 (by decide) hL12 (fun _ h9 => h9) rfl dX11_rule_138 ?_
          refine lv_iconst (v := kz 0) hx hb dX11_rule_141 rfl ?_
          obtain ⟨fs9, co_9, jo9⟩ := jv_o8 hI g_j_tape
          obtain ⟨bytes_9, size_9, rfl, g_bytes_9, ⟨size_9a, size_9b⟩⟩ := jo9
          refine iz_put (D := (dC, dI)) (ci := 8) (v := .int (kz 0)) (ty := .int) (C := RX8) (T := TX8) (N := 2) hx hb hts hinX8 tyX8 tyX8_ok nmX8 hown hK co_9 hS (jv_A hI g_j_tape (show (30 : Nat) ≠ 0 by decide)) rfl 1 (by decide) hL60 (fun _ h9 => h9) rfl (by decide +kernel) rfl rfl (Nat.le_of_ble_eq_true rfl) dX11_rule_142 (fun H locs c9 oq hS => ?_)
          have hFz := (oq _ (kn_ne g_z g_j_tape (by first | (show cz ≠ (8 : Nat); omega) | (show cz ≠ (9 : Nat); omega) | (show cz ≠ (10 : Nat); omega) | (show cz ≠ (6 : Nat); omega) | (show cz ≠ (1 : Nat); omega) | (show cz ≠ (2 : Nat); omega) | (show cz ≠ (7 : Nat); omega) | (show cz ≠ (212 : Nat); omega) | (show cz ≠ (213 : Nat); omega) | (show cz ≠ (200 : Nat); omega) | (show cz ≠ (201 : Nat); omega) | (show cz ≠ (202 : Nat); omega) | (show cz ≠ (238 : Nat); omega) | (show cz ≠ (237 : Nat); omega) | (show cz ≠ (215 : Nat); omega) | (show cz ≠ (203 : Nat); omega) | (show cz ≠ (210 : Nat); omega) | (show cz ≠ (211 : Nat); omega) | (show cz ≠ (0 : Nat); omega)))).trans hFz
          have hI := jv_set hI c9 oq (by rw [g_j_tape]; exact jv_c8 ⟨bytes_9, 0, rfl, g_bytes_9, ⟨by omega, by omega⟩⟩)
          have hO := hO.kept (oq _ (kn_ne g_o g_j_tape (show (999 : Nat) ≠ 8 by decide)))
          have co_1 := co_1.kept (oq _ (kn_ne g_j_tongue g_j_tape (show (9 : Nat) ≠ 8 by decide)))
          have co_9 := c9
          clear oq c9
          refine lv_iload hx hb dX11_rule_145 (lv_at hl 0 rfl) ?_
          refine W.widen (k := 2) (n := 25) (Nat.le_of_ble_eq_true rfl) (Nat.le_of_ble_eq_true rfl) ?_
          exact W.iret (v := kz (-1)) hx hb hr (fun t9 ht hW => ⟨⟨kz (-1), (X, st), rfl, ⟨hP, rfl⟩, jK_warm hW ⟨hK, hN⟩, by rw [ht]; exact ⟨hI, hO, hFz⟩⟩, hS.F ht⟩) hS.2.2 dX11_rule_147
        · refine lv_aload_n hx hb dX11_rule_36 rfl (lv_at hl 0 rfl) ?_
          refine iz_get (D := (dC, dI)) (ci := 11) (v := .ref j_tape) (C := RX11) (T := TX11) (N := 7) hx hb hts hinX11 hown hK hO rfl 0 (by decide) hL12 (fun _ h9 => h9) rfl dX11_rule_37 ?_
          obtain ⟨fs9, co_10, jo9⟩ := jv_o8 hI g_j_tape
          obtain ⟨bytes_10, size_10, rfl, g_bytes_10, ⟨size_10a, size_10b⟩⟩ := jo9
          refine iz_get (D := (dC, dI)) (ci := 8) (v := .int (kz size_10)) (C := RX8) (T := TX8) (N := 2) hx hb hts hinX8 hown hK co_10 rfl 1 (by decide) hL60 (fun _ h9 => h9) rfl dX11_rule_40 ?_
          refine lv_iload_n hx hb dX11_rule_43 rfl (lv_at hl 1 rfl) ?_
          refine iz_isub hx hb dX11_rule_44 ?_
          refine lv_iload_n hx hb dX11_rule_45 rfl (lv_at hl 2 rfl) ?_
          refine iz_isub hx hb dX11_rule_46 ?_
          refine lv_iconst (v := kz 0) hx hb dX11_rule_47 rfl ?_
          refine lv_iconst (v := kz 4) hx hb dX11_rule_48 rfl ?_
          refine vp_callSi (va_Run.run (va_runS (As := [.int (kz ((size_10 - en) - be)), .int (kz 0), .int (kz 4)]) (rest := []) ⟨hx, hb, hml, hown, hts⟩ (c_within l ((size_10 - en) - be) 0 4 (by omega) (by omega) (by omega)) (va_cwS 3 hts gX11_rule_X11_within rfl rfl rfl (by decide +kernel) ⟨Nat.le_of_ble_eq_true rfl, Nat.le_of_ble_eq_true rfl⟩) ⟨fun a U g mk q => q, fun U hU hW => ⟨rfl, trivial⟩⟩ rfl rfl hl.1 rfl (lv_room (Nat.le_of_ble_eq_true rfl)) dX11_rule_49 ⟨Nat.le_of_ble_eq_true rfl, Nat.le_of_ble_eq_true rfl⟩)) (fun r_12 hw_11 => ?_)
          rcases hw_11 with ⟨rfl, hw_11⟩ | ⟨rfl, hw_11⟩
          · refine iz_eqz (tgt := 99) hx hb dX11_rule_52 (by decide) (by unfold rg2; omega) (fun q9 => absurd q9 (by decide)) (fun _ => ?_)
            refine lv_aload_n hx hb dX11_rule_55 rfl (lv_at hl 0 rfl) ?_
            refine iz_get (D := (dC, dI)) (ci := 11) (v := .ref j_tape) (C := RX11) (T := TX11) (N := 7) hx hb hts hinX11 hown hK hO rfl 0 (by decide) hL12 (fun _ h9 => h9) rfl dX11_rule_56 ?_
            refine vp_callSi (va_Run.run (va_runV (As := []) (rest := []) ⟨hx, hb, hml, hown, hts⟩ (c_hasOnlyLetters l dC dI ca A X hU j_tape g_j_tape) (cwV 0 hts gX11_rule_X8_hasOnlyLetters rfl rfl rfl (by decide +kernel) ⟨Nat.le_of_ble_eq_true rfl, Nat.le_of_ble_eq_true rfl⟩) ⟨fun a U g mk q => by obtain ⟨q0, ⟨qK, qN⟩, qI⟩ := q; exact ⟨q0, ⟨va_K.moved (u := U) (U := U.calling g mk a) (Vm.Alike.refl U.vm) qK, jN_same (U := U.calling g mk a) rfl qN⟩, qI⟩, va_recv hK (at_P co_10) (ci := 8) (q0 := 0) rfl rfl, fun U hU hW => ⟨rfl, jK_warm hW ⟨hK, hN⟩, by rw [hU]; exact hI⟩⟩ rfl rfl hl.1 rfl (lv_room (Nat.le_of_ble_eq_true rfl)) dX11_rule_59 ⟨Nat.le_of_ble_eq_true rfl, Nat.le_of_ble_eq_true rfl⟩)) (fun r_14 hw_13 => ?_)
            rcases hw_13 with rfl | rfl
            · refine iz_eqz (tgt := 99) hx hb dX11_rule_62 (by decide) (by unfold rg2; omega) (fun q9 => absurd q9 (by decide)) (fun _ => ?_)
              refine lv_iload_n hx hb dX11_rule_65 rfl (lv_at hl 3 rfl) ?_
              refine vp_callSi (va_Run.run (va_runS (As := [.int (kz co)]) (rest := []) ⟨hx, hb, hml, hown, hts⟩ (c_isCost l co (by omega)) (va_cwS 1 hts gX11_rule_X11_isCost rfl rfl rfl (by decide +kernel) ⟨Nat.le_of_ble_eq_true rfl, Nat.le_of_ble_eq_true rfl⟩) ⟨fun a U g mk q => q, fun U hU hW => ⟨rfl, trivial⟩⟩ rfl rfl hl.1 rfl (lv_room (Nat.le_of_ble_eq_true rfl)) dX11_rule_66 ⟨Nat.le_of_ble_eq_true rfl, Nat.le_of_ble_eq_true rfl⟩)) (fun r_16 hw_15 => ?_)
              rcases hw_15 with ⟨rfl, hw_15⟩ | ⟨rfl, hw_15⟩
              · refine iz_eqz (tgt := 99) hx hb dX11_rule_69 (by decide) (by unfold rg2; omega) (fun q9 => absurd q9 (by decide)) (fun _ => ?_)
                refine lv_iload hx hb dX11_rule_72 (lv_at hl 4 rfl) ?_
                refine vp_callSi (va_Run.run (va_runS (As := [.int (kz fd)]) (rest := []) ⟨hx, hb, hml, hown, hts⟩ (c_isDay l fd (by omega)) (va_cwS 1 hts gX11_rule_X11_isDay rfl rfl rfl (by decide +kernel) ⟨Nat.le_of_ble_eq_true rfl, Nat.le_of_ble_eq_true rfl⟩) ⟨fun a U g mk q => q, fun U hU hW => ⟨rfl, trivial⟩⟩ rfl rfl hl.1 rfl (lv_room (Nat.le_of_ble_eq_true rfl)) dX11_rule_74 ⟨Nat.le_of_ble_eq_true rfl, Nat.le_of_ble_eq_true rfl⟩)) (fun r_18 hw_17 => ?_)
                rcases hw_17 with ⟨rfl, hw_17⟩ | ⟨rfl, hw_17⟩
                · refine iz_eqz (tgt := 99) hx hb dX11_rule_77 (by decide) (by unfold rg2; omega) (fun q9 => absurd q9 (by decide)) (fun _ => ?_)
                  refine lv_iload hx hb dX11_rule_80 (lv_at hl 5 rfl) ?_
                  refine vp_callSi (va_Run.run (va_runS (As := [.int (kz ld)]) (rest := []) ⟨hx, hb, hml, hown, hts⟩ (c_isDay l ld (by omega)) (va_cwS 1 hts gX11_rule_X11_isDay rfl rfl rfl (by decide +kernel) ⟨Nat.le_of_ble_eq_true rfl, Nat.le_of_ble_eq_true rfl⟩) ⟨fun a U g mk q => q, fun U hU hW => ⟨rfl, trivial⟩⟩ rfl rfl hl.1 rfl (lv_room (Nat.le_of_ble_eq_true rfl)) dX11_rule_82 ⟨Nat.le_of_ble_eq_true rfl, Nat.le_of_ble_eq_true rfl⟩)) (fun r_20 hw_19 => ?_)
                  rcases hw_19 with ⟨rfl, hw_19⟩ | ⟨rfl, hw_19⟩
                  · refine iz_eqz (tgt := 99) hx hb dX11_rule_85 (by decide) (by unfold rg2; omega) (fun q9 => absurd q9 (by decide)) (fun _ => ?_)
                    refine lv_iload hx hb dX11_rule_88 (lv_at hl 4 rfl) ?_
                    refine lv_iload hx hb dX11_rule_90 (lv_at hl 5 rfl) ?_
                    refine iz_gt (tgt := 99) hx hb dX11_rule_92 (by decide) (by unfold rg2; omega) (fun br_21 => ?_) (fun br_21 => ?_)
                    · refine lv_iconst (v := kz 0) hx hb dX11_rule_99 rfl ?_
                      refine lv_istore (lv' := [(6, .int (kz 0)), (0, .ref o), (1, .int (kz en)), (2, .int (kz be)), (3, .int (kz co)), (4, .int (kz fd)), (5, .int (kz ld))]) hx hb dX11_rule_100 hl (by decide) rfl (fun ls hl => ?_)
                      refine lv_iconst (v := kz (-1)) hx hb dX11_rule_102 rfl ?_
                      refine lv_istore (lv' := [(7, .int (kz (-1))), (6, .int (kz 0)), (0, .ref o), (1, .int (kz en)), (2, .int (kz be)), (3, .int (kz co)), (4, .int (kz fd)), (5, .int (kz ld))]) hx hb dX11_rule_103 hl (by decide) rfl (fun ls hl => ?_)
                      refine lv_iload hx hb dX11_rule_105 (lv_at hl 1 rfl) ?_
                      refine iz_eqz (tgt := 137) hx hb dX11_rule_107 (by decide) (by unfold rg2; omega) (fun _ => ?_) (fun q9 => absurd q9 (by decide))
                      refine lv_aload_n hx hb dX11_rule_137 rfl (lv_at hl 2 rfl) ?_
                      refine iz_get (D := (dC, dI)) (ci := 11) (v := .ref j_tape) (C := RX11) (T := TX11) (N := 7) hx hb hts hinX11 hown hK hO rfl 0 (by decide) hL12 (fun _ h9 => h9) rfl dX11_rule_138 ?_
                      refine lv_iconst (v := kz 0) hx hb dX11_rule_141 rfl ?_
                      refine iz_put (D := (dC, dI)) (ci := 8) (v := .int (kz 0)) (ty := .int) (C := RX8) (T := TX8) (N := 2) hx hb hts hinX8 tyX8 tyX8_ok nmX8 hown hK co_10 hS (jv_A hI g_j_tape (show (30 : Nat) ≠ 0 by decide)) rfl 1 (by decide) hL60 (fun _ h9 => h9) rfl (by decide +kernel) rfl rfl (Nat.le_of_ble_eq_true rfl) dX11_rule_142 (fun H locs c9 oq hS => ?_)
                      have hFz := (oq _ (kn_ne g_z g_j_tape (by first | (show cz ≠ (8 : Nat); omega) | (show cz ≠ (9 : Nat); omega) | (show cz ≠ (10 : Nat); omega) | (show cz ≠ (6 : Nat); omega) | (show cz ≠ (1 : Nat); omega) | (show cz ≠ (2 : Nat); omega) | (show cz ≠ (7 : Nat); omega) | (show cz ≠ (212 : Nat); omega) | (show cz ≠ (213 : Nat); omega) | (show cz ≠ (200 : Nat); omega) | (show cz ≠ (201 : Nat); omega) | (show cz ≠ (202 : Nat); omega) | (show cz ≠ (238 : Nat); omega) | (show cz ≠ (237 : Nat); omega) | (show cz ≠ (215 : Nat); omega) | (show cz ≠ (203 : Nat); omega) | (show cz ≠ (210 : Nat); omega) | (show cz ≠ (211 : Nat); omega) | (show cz ≠ (0 : Nat); omega)))).trans hFz
                      have hI := jv_set hI c9 oq (by rw [g_j_tape]; exact jv_c8 ⟨bytes_10, 0, rfl, g_bytes_10, ⟨by omega, by omega⟩⟩)
                      have hO := hO.kept (oq _ (kn_ne g_o g_j_tape (show (999 : Nat) ≠ 8 by decide)))
                      have co_1 := co_1.kept (oq _ (kn_ne g_j_tongue g_j_tape (show (9 : Nat) ≠ 8 by decide)))
                      have co_10 := c9
                      clear oq c9
                      refine lv_iload hx hb dX11_rule_145 (lv_at hl 0 rfl) ?_
                      refine W.widen (k := 2) (n := 25) (Nat.le_of_ble_eq_true rfl) (Nat.le_of_ble_eq_true rfl) ?_
                      exact W.iret (v := kz (-1)) hx hb hr (fun t9 ht hW => ⟨⟨kz (-1), (X, st), rfl, ⟨hP, rfl⟩, jK_warm hW ⟨hK, hN⟩, by rw [ht]; exact ⟨hI, hO, hFz⟩⟩, hS.F ht⟩) hS.2.2 dX11_rule_147
                    · refine lv_iconst (v := kz 1) hx hb dX11_rule_95 rfl ?_
                      refine lv_goto (tgt := 100) hx hb dX11_rule_96 (by decide) ?_
                      refine lv_istore (lv' := [(6, .int (kz 1)), (0, .ref o), (1, .int (kz en)), (2, .int (kz be)), (3, .int (kz co)), (4, .int (kz fd)), (5, .int (kz ld))]) hx hb dX11_rule_100 hl (by decide) rfl (fun ls hl => ?_)
                      refine lv_iconst (v := kz (-1)) hx hb dX11_rule_102 rfl ?_
                      refine lv_istore (lv' := [(7, .int (kz (-1))), (6, .int (kz 1)), (0, .ref o), (1, .int (kz en)), (2, .int (kz be)), (3, .int (kz co)), (4, .int (kz fd)), (5, .int (kz ld))]) hx hb dX11_rule_103 hl (by decide) rfl (fun ls hl => ?_)
                      refine lv_iload hx hb dX11_rule_105 (lv_at hl 1 rfl) ?_
                      refine iz_eqz (tgt := 137) hx hb dX11_rule_107 (by decide) (by unfold rg2; omega) (fun q9 => absurd q9 (by decide)) (fun _ => ?_)
                      refine lv_aload_n hx hb dX11_rule_110 rfl (lv_at hl 2 rfl) ?_
                      refine iz_get (D := (dC, dI)) (ci := 11) (v := .ref j_tongue) (C := RX11) (T := TX11) (N := 7) hx hb hts hinX11 hown hK hO rfl 1 (by decide) hL19 (fun _ h9 => h9) rfl dX11_rule_111 ?_
                      have hzH : n0 ≤ H.size := by have h8 := hS.1; omega
                      refine jz_new (ci := 7) (fs := [.null, .int (kz 0), .int (kz 0), .int (kz 0), .int (kz 0), .int (kz 0), .int (kz 0), .int (kz 0), .int (kz 0)]) (C := RX7) (T := TX7) (N := 9) hx hb hts (by decide +kernel) tyX7 tyX7_ok hown (hts (.classLink RX11 98 RX7) (by decide +kernel)) (hts (.instantiable RX7 9) (by decide +kernel)) (hts (.initialized RX7) (by decide +kernel)) hK hS rfl (fun j hj => by rcases (show j = 0 ∨ j = 1 ∨ j = 2 ∨ j = 3 ∨ j = 4 ∨ j = 5 ∨ j = 6 ∨ j = 7 ∨ j = 8 by omega) with rfl | rfl | rfl | rfl | rfl | rfl | rfl | rfl | rfl <;> rfl) (Nat.le_of_ble_eq_true rfl) (Nat.le_of_ble_eq_true rfl) dX11_rule_114 (fun x_22 H hx9 c_x_22 oq hz9 hS => ?_)
                      have hFz := (oq _ (jv_lt hI (by rw [g_z]; exact hkz))).trans hFz
                      have h0_x_22 : (X.1 x_22).2.1 = 0 := jv_out hI (by omega)
                      have hge_x_22 : n0 ≤ x_22 := by omega
                      have hne_x_22_o : x_22 ≠ o := by have h9 := hO.lt; omega
                      have hO := hO.kept (oq _ hO.lt)
                      have co_10 := co_10.kept (oq _ co_10.lt)
                      have hI := jv_keep hI (fun q hq => oq q (jv_lt hI hq))
                      clear oq hz9 hx9
                      refine lv_dup hx hb dX11_rule_117 rfl ?_
                      refine lv_aload_n hx hb dX11_rule_118 rfl (lv_at hl 2 rfl) ?_
                      refine iz_get (D := (dC, dI)) (ci := 11) (v := .ref j_tape) (C := RX11) (T := TX11) (N := 7) hx hb hts hinX11 hown hK hO rfl 0 (by decide) hL12 (fun _ h9 => h9) rfl dX11_rule_119 ?_
                      refine lv_iload_n hx hb dX11_rule_122 rfl (lv_at hl 3 rfl) ?_
                      refine lv_iload_n hx hb dX11_rule_123 rfl (lv_at hl 4 rfl) ?_
                      refine lv_iload_n hx hb dX11_rule_124 rfl (lv_at hl 5 rfl) ?_
                      refine lv_iload hx hb dX11_rule_125 (lv_at hl 6 rfl) ?_
                      refine lv_iload hx hb dX11_rule_127 (lv_at hl 7 rfl) ?_
                      have hzH : n0 ≤ H.size := by have h8 := hS.1; omega
                      have hxl := c_x_22.lt
                      have hIA := hI
                      refine va_callv (va_runI (As := [.ref j_tape, .int (kz en), .int (kz be), .int (kz co), .int (kz fd), .int (kz ld)]) (rest := [.ref x_22, .ref j_tongue]) ⟨hx, hb, hml, hown, hts⟩ (k_Rule l dC dI ca X hU x_22 H.size j_tape en be co fd ld bytes_10 size_10 h0_x_22 g_j_tape g_bytes_10 (by omega)) (cwI 6 hts gX11_rule_X7_init rfl rfl rfl (hts (.initialized RX7) (by decide +kernel)) (hts (.methodLink RX11 100 yX7_init) (by decide +kernel)) (hts (.instanceMethod yX7_init) (by decide +kernel)) rfl (by decide +kernel) ⟨Nat.le_of_ble_eq_true rfl, Nat.le_of_ble_eq_true rfl⟩) ⟨fun a U g mk q => by obtain ⟨q0, q1, ⟨qK, qN⟩, qI⟩ := q; exact ⟨q0, q1, ⟨va_K.moved (u := U) (U := U.calling g mk a) (Vm.Alike.refl U.vm) qK, jN_same (U := U.calling g mk a) rfl qN⟩, qI⟩, fun U hU9 hW => ⟨rfl, by rw [hU9], jK_warm hW ⟨hK, hN⟩, by rw [hU9]; exact ⟨jv_A2 hI (fun _ _ => trivial), c_x_22, co_10⟩⟩⟩ rfl rfl hl.1 rfl (lv_room (Nat.le_of_ble_eq_true rfl)) dX11_rule_129 ⟨(Nat.le_of_ble_eq_true rfl), (Nat.le_of_ble_eq_true rfl)⟩) hS (fun q h8 h9 => h9.elim (fun e9 => by rw [e9]; exact (hA _ hge_x_22)) (fun e9 => absurd e9 (by omega))) (fun q h9 => h9.elim (fun e9 => by rw [e9]; exact (hA _ hge_x_22)) (fun e9 => hA q (by omega))) (fun X t9 H locs ht hvm hw_23 hB hz1 hk1 hS => ?_)
                      have hzl9 := jv_lt hIA (q := z9) (by rw [g_z]; exact hkz)
                      have hFz := (hk1 z9 hzl9 (fun e9 => e9.elim (kn_ne0 g_z h0_x_22 hkz) (fun e8 => absurd e8 (by omega)))).trans hFz
                      obtain ⟨hw_23, hw_23g, hU⟩ := hw_23
                      obtain ⟨-, hI, lt_x_22, g_lt_x_22, c_x_22⟩ := hB
                      rw [ht] at hI c_x_22
                      clear ht hvm
                      have hI := jv_A2 hI (nw_A hIA hw_23 (hA _ hge_x_22) (fun q h8 => hA q (Nat.le_trans hzH h8)))
                      clear hIA
                      have hle9 := nw_le hw_23
                      have h9o := hO.lt
                      have hO := hO.kept (hk1 _ h9o (fun e9 => e9.elim (Ne.symm hne_x_22_o) (fun e8 => absurd e8 (by omega))))
                      have g_o : X.1 o = (999, 0, 0, 0, 0) := (nw_eq hw_23 (Ne.symm hne_x_22_o) h9o).trans g_o
                      have h9 := co_10.lt
                      have co_10 := co_10.kept (hk1 _ h9 (fun e9 => e9.elim (kn_ne0 g_j_tape h0_x_22 (show (30 : Nat) ≠ 0 by decide)) (fun e8 => absurd e8 (by omega))))
                      have ht9 := nw_9 hw_23 ht9 (by intro t ht; simp at ht; subst ht; show (202 : Nat) ≠ 9; decide)
                      have hP := prl_nw hP hw_23 hU ((Ne.symm hne_x_22_o)) h9o (by intro t ht; simp at ht; subst ht; show (202 : Nat) ∈ [2, 201, 7, 202, 237, 238]; decide)
                      have h0_x_22 := hw_23g
                      have g_z := le_t hle9 g_z hkz
                      have g_j_tongue := le_t hle9 g_j_tongue (show (30 : Nat) ≠ 0 by decide)
                      have g_j_tape := le_t hle9 g_j_tape (show (30 : Nat) ≠ 0 by decide)
                      have g_j_row := le_t hle9 g_j_row (show (30 : Nat) ≠ 0 by decide)
                      have g_j_trees := le_t hle9 g_j_trees (show (30 : Nat) ≠ 0 by decide)
                      have g_j_choices := le_t hle9 g_j_choices (show (30 : Nat) ≠ 0 by decide)
                      have g_bytes_10 := le_t hle9 g_bytes_10 (show (21 : Nat) ≠ 0 by decide)
                      have hpv := fun b q => le_t hle9 (hpv b q) (show (30 : Nat) ≠ 0 by decide)
                      clear hle9 hxl hk1 hz1
                      obtain ⟨fs9, co_24, jo9⟩ := jv_o9 hI g_j_tongue
                      obtain ⟨forms_24, rules_24, formCount_24, ruleCount_24, forbidden_24, rfl, g_forms_24, g_rules_24, ⟨formCount_24a, formCount_24b⟩, ⟨ruleCount_24a, ruleCount_24b⟩, g_forbidden_24, x_24_0, x_24_1, x_24_2⟩ := jo9
                      refine va_calli (va_runV (As := [.ref x_22]) (rest := []) ⟨hx, hb, hml, hown, hts⟩ (c_addRuleZ l dC dI ca A X hU H z9 cz kdz nz loz hiz g_z hcz hkz j_tongue forms_24 rules_24 forbidden_24 formCount_24 ruleCount_24 x_22 lt_x_22 o en be (size_10 - (en + be)) co fd ld (Int.toNat size_10) g_j_tongue g_forms_24 g_rules_24 g_forbidden_24 (by omega) (by omega) x_24_0 x_24_1 x_24_2 h0_x_22 (hA _ hge_x_22) g_o hne_x_22_o ht9 g_lt_x_22 (by omega) (by omega) (by omega) (by omega) (by omega) (by omega) (by omega)) (cwV 1 hts gX11_rule_X9_addRule rfl rfl rfl (by decide +kernel) ⟨Nat.le_of_ble_eq_true rfl, Nat.le_of_ble_eq_true rfl⟩) ⟨fun a U g mk q => by obtain ⟨q0, qH, ⟨qK, qN⟩, qI⟩ := q; exact ⟨q0, qH, ⟨va_K.moved (u := U) (U := U.calling g mk a) (Vm.Alike.refl U.vm) qK, jN_same (U := U.calling g mk a) rfl qN⟩, qI⟩, va_recv hK (at_P co_24) (ci := 9) (q0 := 0) rfl rfl, fun U hU9 hW => ⟨rfl, hU9, jK_warm hW ⟨hK, hN⟩, by rw [hU9]; exact ⟨hI, co_24, c_x_22⟩⟩⟩ rfl rfl hl.1 rfl (lv_room (Nat.le_of_ble_eq_true rfl)) dX11_rule_132 ⟨Nat.le_of_ble_eq_true rfl, Nat.le_of_ble_eq_true rfl⟩) hS (fun q _ h => h) (fun q h => h) (fun r_26 X t9 H locs ht hvm hw_25 hB hz1 hk1 hS => ?_)
                      obtain ⟨-, hI, hFo, hfz9⟩ := hB
                      rw [ht] at hI hFo hfz9
                      have hFz := hfz9.trans hFz
                      clear ht hvm hz1 hk1
                      have hO := hO.kept hFo
                      have hP := prl_af hP hw_25 h0_x_22 hne_x_22_o (by decide)
                      have g_z := af_t hw_25 h0_x_22 g_z hkz
                      have g_j_tape := af_t hw_25 h0_x_22 g_j_tape (show (30 : Nat) ≠ 0 by decide)
                      have g_j_tongue := af_t hw_25 h0_x_22 g_j_tongue (show (30 : Nat) ≠ 0 by decide)
                      have g_j_row := af_t hw_25 h0_x_22 g_j_row (show (30 : Nat) ≠ 0 by decide)
                      have g_j_trees := af_t hw_25 h0_x_22 g_j_trees (show (30 : Nat) ≠ 0 by decide)
                      have g_j_choices := af_t hw_25 h0_x_22 g_j_choices (show (30 : Nat) ≠ 0 by decide)
                      have g_o : X.1 o = (999, 0, 0, 0, 0) := (af_o hw_25 (Ne.symm hne_x_22_o)).trans g_o
                      have hU := hw_25.1
                      have hpv := fun b q => af_t hw_25 h0_x_22 (hpv b q) (show (30 : Nat) ≠ 0 by decide)
                      obtain ⟨z_27, z_27a, z_27b, rfl⟩ := kz_ex r_26
                      refine lv_istore (lv' := [(7, .int (kz z_27)), (6, .int (kz 1)), (0, .ref o), (1, .int (kz en)), (2, .int (kz be)), (3, .int (kz co)), (4, .int (kz fd)), (5, .int (kz ld))]) hx hb dX11_rule_135 hl (by decide) rfl (fun ls hl => ?_)
                      refine lv_aload_n hx hb dX11_rule_137 rfl (lv_at hl 2 rfl) ?_
                      refine iz_get (D := (dC, dI)) (ci := 11) (v := .ref j_tape) (C := RX11) (T := TX11) (N := 7) hx hb hts hinX11 hown hK hO rfl 0 (by decide) hL12 (fun _ h9 => h9) rfl dX11_rule_138 ?_
                      refine lv_iconst (v := kz 0) hx hb dX11_rule_141 rfl ?_
                      obtain ⟨fs9, co_28, jo9⟩ := jv_o8 hI g_j_tape
                      obtain ⟨bytes_28, size_28, rfl, g_bytes_28, ⟨size_28a, size_28b⟩⟩ := jo9
                      refine iz_put (D := (dC, dI)) (ci := 8) (v := .int (kz 0)) (ty := .int) (C := RX8) (T := TX8) (N := 2) hx hb hts hinX8 tyX8 tyX8_ok nmX8 hown hK co_28 hS (jv_A hI g_j_tape (show (30 : Nat) ≠ 0 by decide)) rfl 1 (by decide) hL60 (fun _ h9 => h9) rfl (by decide +kernel) rfl rfl (Nat.le_of_ble_eq_true rfl) dX11_rule_142 (fun H locs c9 oq hS => ?_)
                      have hFz := (oq _ (kn_ne g_z g_j_tape (by first | (show cz ≠ (8 : Nat); omega) | (show cz ≠ (9 : Nat); omega) | (show cz ≠ (10 : Nat); omega) | (show cz ≠ (6 : Nat); omega) | (show cz ≠ (1 : Nat); omega) | (show cz ≠ (2 : Nat); omega) | (show cz ≠ (7 : Nat); omega) | (show cz ≠ (212 : Nat); omega) | (show cz ≠ (213 : Nat); omega) | (show cz ≠ (200 : Nat); omega) | (show cz ≠ (201 : Nat); omega) | (show cz ≠ (202 : Nat); omega) | (show cz ≠ (238 : Nat); omega) | (show cz ≠ (237 : Nat); omega) | (show cz ≠ (215 : Nat); omega) | (show cz ≠ (203 : Nat); omega) | (show cz ≠ (210 : Nat); omega) | (show cz ≠ (211 : Nat); omega) | (show cz ≠ (0 : Nat); omega)))).trans hFz
                      have hI := jv_set hI c9 oq (by rw [g_j_tape]; exact jv_c8 ⟨bytes_28, 0, rfl, g_bytes_28, ⟨by omega, by omega⟩⟩)
                      have hO := hO.kept (oq _ (kn_ne g_o g_j_tape (show (999 : Nat) ≠ 8 by decide)))
                      have co_28 := c9
                      clear oq c9
                      refine lv_iload hx hb dX11_rule_145 (lv_at hl 0 rfl) ?_
                      refine W.widen (k := 2) (n := 25) (Nat.le_of_ble_eq_true rfl) (Nat.le_of_ble_eq_true rfl) ?_
                      exact W.iret (v := kz z_27) hx hb hr (fun t9 ht hW => ⟨⟨kz z_27, (X, st), rfl, ⟨hP, rfl⟩, jK_warm hW ⟨hK, hN⟩, by rw [ht]; exact ⟨hI, hO, hFz⟩⟩, hS.F ht⟩) hS.2.2 dX11_rule_147
                  · refine iz_eqz (tgt := 99) hx hb dX11_rule_85 (by decide) (by unfold rg2; omega) (fun _ => ?_) (fun q9 => absurd q9 (by decide))
                    refine lv_iconst (v := kz 0) hx hb dX11_rule_99 rfl ?_
                    refine lv_istore (lv' := [(6, .int (kz 0)), (0, .ref o), (1, .int (kz en)), (2, .int (kz be)), (3, .int (kz co)), (4, .int (kz fd)), (5, .int (kz ld))]) hx hb dX11_rule_100 hl (by decide) rfl (fun ls hl => ?_)
                    refine lv_iconst (v := kz (-1)) hx hb dX11_rule_102 rfl ?_
                    refine lv_istore (lv' := [(7, .int (kz (-1))), (6, .int (kz 0)), (0, .ref o), (1, .int (kz en)), (2, .int (kz be)), (3, .int (kz co)), (4, .int (kz fd)), (5, .int (kz ld))]) hx hb dX11_rule_103 hl (by decide) rfl (fun ls hl => ?_)
                    refine lv_iload hx hb dX11_rule_105 (lv_at hl 1 rfl) ?_
                    refine iz_eqz (tgt := 137) hx hb dX11_rule_107 (by decide) (by unfold rg2; omega) (fun _ => ?_) (fun q9 => absurd q9 (by decide))
                    refine lv_aload_n hx hb dX11_rule_137 rfl (lv_at hl 2 rfl) ?_
                    refine iz_get (D := (dC, dI)) (ci := 11) (v := .ref j_tape) (C := RX11) (T := TX11) (N := 7) hx hb hts hinX11 hown hK hO rfl 0 (by decide) hL12 (fun _ h9 => h9) rfl dX11_rule_138 ?_
                    refine lv_iconst (v := kz 0) hx hb dX11_rule_141 rfl ?_
                    refine iz_put (D := (dC, dI)) (ci := 8) (v := .int (kz 0)) (ty := .int) (C := RX8) (T := TX8) (N := 2) hx hb hts hinX8 tyX8 tyX8_ok nmX8 hown hK co_10 hS (jv_A hI g_j_tape (show (30 : Nat) ≠ 0 by decide)) rfl 1 (by decide) hL60 (fun _ h9 => h9) rfl (by decide +kernel) rfl rfl (Nat.le_of_ble_eq_true rfl) dX11_rule_142 (fun H locs c9 oq hS => ?_)
                    have hFz := (oq _ (kn_ne g_z g_j_tape (by first | (show cz ≠ (8 : Nat); omega) | (show cz ≠ (9 : Nat); omega) | (show cz ≠ (10 : Nat); omega) | (show cz ≠ (6 : Nat); omega) | (show cz ≠ (1 : Nat); omega) | (show cz ≠ (2 : Nat); omega) | (show cz ≠ (7 : Nat); omega) | (show cz ≠ (212 : Nat); omega) | (show cz ≠ (213 : Nat); omega) | (show cz ≠ (200 : Nat); omega) | (show cz ≠ (201 : Nat); omega) | (show cz ≠ (202 : Nat); omega) | (show cz ≠ (238 : Nat); omega) | (show cz ≠ (237 : Nat); omega) | (show cz ≠ (215 : Nat); omega) | (show cz ≠ (203 : Nat); omega) | (show cz ≠ (210 : Nat); omega) | (show cz ≠ (211 : Nat); omega) | (show cz ≠ (0 : Nat); omega)))).trans hFz
                    have hI := jv_set hI c9 oq (by rw [g_j_tape]; exact jv_c8 ⟨bytes_10, 0, rfl, g_bytes_10, ⟨by omega, by omega⟩⟩)
                    have hO := hO.kept (oq _ (kn_ne g_o g_j_tape (show (999 : Nat) ≠ 8 by decide)))
                    have co_1 := co_1.kept (oq _ (kn_ne g_j_tongue g_j_tape (show (9 : Nat) ≠ 8 by decide)))
                    have co_10 := c9
                    clear oq c9
                    refine lv_iload hx hb dX11_rule_145 (lv_at hl 0 rfl) ?_
                    refine W.widen (k := 2) (n := 25) (Nat.le_of_ble_eq_true rfl) (Nat.le_of_ble_eq_true rfl) ?_
                    exact W.iret (v := kz (-1)) hx hb hr (fun t9 ht hW => ⟨⟨kz (-1), (X, st), rfl, ⟨hP, rfl⟩, jK_warm hW ⟨hK, hN⟩, by rw [ht]; exact ⟨hI, hO, hFz⟩⟩, hS.F ht⟩) hS.2.2 dX11_rule_147
                · refine iz_eqz (tgt := 99) hx hb dX11_rule_77 (by decide) (by unfold rg2; omega) (fun _ => ?_) (fun q9 => absurd q9 (by decide))
                  refine lv_iconst (v := kz 0) hx hb dX11_rule_99 rfl ?_
                  refine lv_istore (lv' := [(6, .int (kz 0)), (0, .ref o), (1, .int (kz en)), (2, .int (kz be)), (3, .int (kz co)), (4, .int (kz fd)), (5, .int (kz ld))]) hx hb dX11_rule_100 hl (by decide) rfl (fun ls hl => ?_)
                  refine lv_iconst (v := kz (-1)) hx hb dX11_rule_102 rfl ?_
                  refine lv_istore (lv' := [(7, .int (kz (-1))), (6, .int (kz 0)), (0, .ref o), (1, .int (kz en)), (2, .int (kz be)), (3, .int (kz co)), (4, .int (kz fd)), (5, .int (kz ld))]) hx hb dX11_rule_103 hl (by decide) rfl (fun ls hl => ?_)
                  refine lv_iload hx hb dX11_rule_105 (lv_at hl 1 rfl) ?_
                  refine iz_eqz (tgt := 137) hx hb dX11_rule_107 (by decide) (by unfold rg2; omega) (fun _ => ?_) (fun q9 => absurd q9 (by decide))
                  refine lv_aload_n hx hb dX11_rule_137 rfl (lv_at hl 2 rfl) ?_
                  refine iz_get (D := (dC, dI)) (ci := 11) (v := .ref j_tape) (C := RX11) (T := TX11) (N := 7) hx hb hts hinX11 hown hK hO rfl 0 (by decide) hL12 (fun _ h9 => h9) rfl dX11_rule_138 ?_
                  refine lv_iconst (v := kz 0) hx hb dX11_rule_141 rfl ?_
                  refine iz_put (D := (dC, dI)) (ci := 8) (v := .int (kz 0)) (ty := .int) (C := RX8) (T := TX8) (N := 2) hx hb hts hinX8 tyX8 tyX8_ok nmX8 hown hK co_10 hS (jv_A hI g_j_tape (show (30 : Nat) ≠ 0 by decide)) rfl 1 (by decide) hL60 (fun _ h9 => h9) rfl (by decide +kernel) rfl rfl (Nat.le_of_ble_eq_true rfl) dX11_rule_142 (fun H locs c9 oq hS => ?_)
                  have hFz := (oq _ (kn_ne g_z g_j_tape (by first | (show cz ≠ (8 : Nat); omega) | (show cz ≠ (9 : Nat); omega) | (show cz ≠ (10 : Nat); omega) | (show cz ≠ (6 : Nat); omega) | (show cz ≠ (1 : Nat); omega) | (show cz ≠ (2 : Nat); omega) | (show cz ≠ (7 : Nat); omega) | (show cz ≠ (212 : Nat); omega) | (show cz ≠ (213 : Nat); omega) | (show cz ≠ (200 : Nat); omega) | (show cz ≠ (201 : Nat); omega) | (show cz ≠ (202 : Nat); omega) | (show cz ≠ (238 : Nat); omega) | (show cz ≠ (237 : Nat); omega) | (show cz ≠ (215 : Nat); omega) | (show cz ≠ (203 : Nat); omega) | (show cz ≠ (210 : Nat); omega) | (show cz ≠ (211 : Nat); omega) | (show cz ≠ (0 : Nat); omega)))).trans hFz
                  have hI := jv_set hI c9 oq (by rw [g_j_tape]; exact jv_c8 ⟨bytes_10, 0, rfl, g_bytes_10, ⟨by omega, by omega⟩⟩)
                  have hO := hO.kept (oq _ (kn_ne g_o g_j_tape (show (999 : Nat) ≠ 8 by decide)))
                  have co_1 := co_1.kept (oq _ (kn_ne g_j_tongue g_j_tape (show (9 : Nat) ≠ 8 by decide)))
                  have co_10 := c9
                  clear oq c9
                  refine lv_iload hx hb dX11_rule_145 (lv_at hl 0 rfl) ?_
                  refine W.widen (k := 2) (n := 25) (Nat.le_of_ble_eq_true rfl) (Nat.le_of_ble_eq_true rfl) ?_
                  exact W.iret (v := kz (-1)) hx hb hr (fun t9 ht hW => ⟨⟨kz (-1), (X, st), rfl, ⟨hP, rfl⟩, jK_warm hW ⟨hK, hN⟩, by rw [ht]; exact ⟨hI, hO, hFz⟩⟩, hS.F ht⟩) hS.2.2 dX11_rule_147
              · refine iz_eqz (tgt := 99) hx hb dX11_rule_69 (by decide) (by unfold rg2; omega) (fun _ => ?_) (fun q9 => absurd q9 (by decide))
                refine lv_iconst (v := kz 0) hx hb dX11_rule_99 rfl ?_
                refine lv_istore (lv' := [(6, .int (kz 0)), (0, .ref o), (1, .int (kz en)), (2, .int (kz be)), (3, .int (kz co)), (4, .int (kz fd)), (5, .int (kz ld))]) hx hb dX11_rule_100 hl (by decide) rfl (fun ls hl => ?_)
                refine lv_iconst (v := kz (-1)) hx hb dX11_rule_102 rfl ?_
                refine lv_istore (lv' := [(7, .int (kz (-1))), (6, .int (kz 0)), (0, .ref o), (1, .int (kz en)), (2, .int (kz be)), (3, .int (kz co)), (4, .int (kz fd)), (5, .int (kz ld))]) hx hb dX11_rule_103 hl (by decide) rfl (fun ls hl => ?_)
                refine lv_iload hx hb dX11_rule_105 (lv_at hl 1 rfl) ?_
                refine iz_eqz (tgt := 137) hx hb dX11_rule_107 (by decide) (by unfold rg2; omega) (fun _ => ?_) (fun q9 => absurd q9 (by decide))
                refine lv_aload_n hx hb dX11_rule_137 rfl (lv_at hl 2 rfl) ?_
                refine iz_get (D := (dC, dI)) (ci := 11) (v := .ref j_tape) (C := RX11) (T := TX11) (N := 7) hx hb hts hinX11 hown hK hO rfl 0 (by decide) hL12 (fun _ h9 => h9) rfl dX11_rule_138 ?_
                refine lv_iconst (v := kz 0) hx hb dX11_rule_141 rfl ?_
                refine iz_put (D := (dC, dI)) (ci := 8) (v := .int (kz 0)) (ty := .int) (C := RX8) (T := TX8) (N := 2) hx hb hts hinX8 tyX8 tyX8_ok nmX8 hown hK co_10 hS (jv_A hI g_j_tape (show (30 : Nat) ≠ 0 by decide)) rfl 1 (by decide) hL60 (fun _ h9 => h9) rfl (by decide +kernel) rfl rfl (Nat.le_of_ble_eq_true rfl) dX11_rule_142 (fun H locs c9 oq hS => ?_)
                have hFz := (oq _ (kn_ne g_z g_j_tape (by first | (show cz ≠ (8 : Nat); omega) | (show cz ≠ (9 : Nat); omega) | (show cz ≠ (10 : Nat); omega) | (show cz ≠ (6 : Nat); omega) | (show cz ≠ (1 : Nat); omega) | (show cz ≠ (2 : Nat); omega) | (show cz ≠ (7 : Nat); omega) | (show cz ≠ (212 : Nat); omega) | (show cz ≠ (213 : Nat); omega) | (show cz ≠ (200 : Nat); omega) | (show cz ≠ (201 : Nat); omega) | (show cz ≠ (202 : Nat); omega) | (show cz ≠ (238 : Nat); omega) | (show cz ≠ (237 : Nat); omega) | (show cz ≠ (215 : Nat); omega) | (show cz ≠ (203 : Nat); omega) | (show cz ≠ (210 : Nat); omega) | (show cz ≠ (211 : Nat); omega) | (show cz ≠ (0 : Nat); omega)))).trans hFz
                have hI := jv_set hI c9 oq (by rw [g_j_tape]; exact jv_c8 ⟨bytes_10, 0, rfl, g_bytes_10, ⟨by omega, by omega⟩⟩)
                have hO := hO.kept (oq _ (kn_ne g_o g_j_tape (show (999 : Nat) ≠ 8 by decide)))
                have co_1 := co_1.kept (oq _ (kn_ne g_j_tongue g_j_tape (show (9 : Nat) ≠ 8 by decide)))
                have co_10 := c9
                clear oq c9
                refine lv_iload hx hb dX11_rule_145 (lv_at hl 0 rfl) ?_
                refine W.widen (k := 2) (n := 25) (Nat.le_of_ble_eq_true rfl) (Nat.le_of_ble_eq_true rfl) ?_
                exact W.iret (v := kz (-1)) hx hb hr (fun t9 ht hW => ⟨⟨kz (-1), (X, st), rfl, ⟨hP, rfl⟩, jK_warm hW ⟨hK, hN⟩, by rw [ht]; exact ⟨hI, hO, hFz⟩⟩, hS.F ht⟩) hS.2.2 dX11_rule_147
            · refine iz_eqz (tgt := 99) hx hb dX11_rule_62 (by decide) (by unfold rg2; omega) (fun _ => ?_) (fun q9 => absurd q9 (by decide))
              refine lv_iconst (v := kz 0) hx hb dX11_rule_99 rfl ?_
              refine lv_istore (lv' := [(6, .int (kz 0)), (0, .ref o), (1, .int (kz en)), (2, .int (kz be)), (3, .int (kz co)), (4, .int (kz fd)), (5, .int (kz ld))]) hx hb dX11_rule_100 hl (by decide) rfl (fun ls hl => ?_)
              refine lv_iconst (v := kz (-1)) hx hb dX11_rule_102 rfl ?_
              refine lv_istore (lv' := [(7, .int (kz (-1))), (6, .int (kz 0)), (0, .ref o), (1, .int (kz en)), (2, .int (kz be)), (3, .int (kz co)), (4, .int (kz fd)), (5, .int (kz ld))]) hx hb dX11_rule_103 hl (by decide) rfl (fun ls hl => ?_)
              refine lv_iload hx hb dX11_rule_105 (lv_at hl 1 rfl) ?_
              refine iz_eqz (tgt := 137) hx hb dX11_rule_107 (by decide) (by unfold rg2; omega) (fun _ => ?_) (fun q9 => absurd q9 (by decide))
              refine lv_aload_n hx hb dX11_rule_137 rfl (lv_at hl 2 rfl) ?_
              refine iz_get (D := (dC, dI)) (ci := 11) (v := .ref j_tape) (C := RX11) (T := TX11) (N := 7) hx hb hts hinX11 hown hK hO rfl 0 (by decide) hL12 (fun _ h9 => h9) rfl dX11_rule_138 ?_
              refine lv_iconst (v := kz 0) hx hb dX11_rule_141 rfl ?_
              refine iz_put (D := (dC, dI)) (ci := 8) (v := .int (kz 0)) (ty := .int) (C := RX8) (T := TX8) (N := 2) hx hb hts hinX8 tyX8 tyX8_ok nmX8 hown hK co_10 hS (jv_A hI g_j_tape (show (30 : Nat) ≠ 0 by decide)) rfl 1 (by decide) hL60 (fun _ h9 => h9) rfl (by decide +kernel) rfl rfl (Nat.le_of_ble_eq_true rfl) dX11_rule_142 (fun H locs c9 oq hS => ?_)
              have hFz := (oq _ (kn_ne g_z g_j_tape (by first | (show cz ≠ (8 : Nat); omega) | (show cz ≠ (9 : Nat); omega) | (show cz ≠ (10 : Nat); omega) | (show cz ≠ (6 : Nat); omega) | (show cz ≠ (1 : Nat); omega) | (show cz ≠ (2 : Nat); omega) | (show cz ≠ (7 : Nat); omega) | (show cz ≠ (212 : Nat); omega) | (show cz ≠ (213 : Nat); omega) | (show cz ≠ (200 : Nat); omega) | (show cz ≠ (201 : Nat); omega) | (show cz ≠ (202 : Nat); omega) | (show cz ≠ (238 : Nat); omega) | (show cz ≠ (237 : Nat); omega) | (show cz ≠ (215 : Nat); omega) | (show cz ≠ (203 : Nat); omega) | (show cz ≠ (210 : Nat); omega) | (show cz ≠ (211 : Nat); omega) | (show cz ≠ (0 : Nat); omega)))).trans hFz
              have hI := jv_set hI c9 oq (by rw [g_j_tape]; exact jv_c8 ⟨bytes_10, 0, rfl, g_bytes_10, ⟨by omega, by omega⟩⟩)
              have hO := hO.kept (oq _ (kn_ne g_o g_j_tape (show (999 : Nat) ≠ 8 by decide)))
              have co_1 := co_1.kept (oq _ (kn_ne g_j_tongue g_j_tape (show (9 : Nat) ≠ 8 by decide)))
              have co_10 := c9
              clear oq c9
              refine lv_iload hx hb dX11_rule_145 (lv_at hl 0 rfl) ?_
              refine W.widen (k := 2) (n := 25) (Nat.le_of_ble_eq_true rfl) (Nat.le_of_ble_eq_true rfl) ?_
              exact W.iret (v := kz (-1)) hx hb hr (fun t9 ht hW => ⟨⟨kz (-1), (X, st), rfl, ⟨hP, rfl⟩, jK_warm hW ⟨hK, hN⟩, by rw [ht]; exact ⟨hI, hO, hFz⟩⟩, hS.F ht⟩) hS.2.2 dX11_rule_147
          · refine iz_eqz (tgt := 99) hx hb dX11_rule_52 (by decide) (by unfold rg2; omega) (fun _ => ?_) (fun q9 => absurd q9 (by decide))
            refine lv_iconst (v := kz 0) hx hb dX11_rule_99 rfl ?_
            refine lv_istore (lv' := [(6, .int (kz 0)), (0, .ref o), (1, .int (kz en)), (2, .int (kz be)), (3, .int (kz co)), (4, .int (kz fd)), (5, .int (kz ld))]) hx hb dX11_rule_100 hl (by decide) rfl (fun ls hl => ?_)
            refine lv_iconst (v := kz (-1)) hx hb dX11_rule_102 rfl ?_
            refine lv_istore (lv' := [(7, .int (kz (-1))), (6, .int (kz 0)), (0, .ref o), (1, .int (kz en)), (2, .int (kz be)), (3, .int (kz co)), (4, .int (kz fd)), (5, .int (kz ld))]) hx hb dX11_rule_103 hl (by decide) rfl (fun ls hl => ?_)
            refine lv_iload hx hb dX11_rule_105 (lv_at hl 1 rfl) ?_
            refine iz_eqz (tgt := 137) hx hb dX11_rule_107 (by decide) (by unfold rg2; omega) (fun _ => ?_) (fun q9 => absurd q9 (by decide))
            refine lv_aload_n hx hb dX11_rule_137 rfl (lv_at hl 2 rfl) ?_
            refine iz_get (D := (dC, dI)) (ci := 11) (v := .ref j_tape) (C := RX11) (T := TX11) (N := 7) hx hb hts hinX11 hown hK hO rfl 0 (by decide) hL12 (fun _ h9 => h9) rfl dX11_rule_138 ?_
            refine lv_iconst (v := kz 0) hx hb dX11_rule_141 rfl ?_
            refine iz_put (D := (dC, dI)) (ci := 8) (v := .int (kz 0)) (ty := .int) (C := RX8) (T := TX8) (N := 2) hx hb hts hinX8 tyX8 tyX8_ok nmX8 hown hK co_10 hS (jv_A hI g_j_tape (show (30 : Nat) ≠ 0 by decide)) rfl 1 (by decide) hL60 (fun _ h9 => h9) rfl (by decide +kernel) rfl rfl (Nat.le_of_ble_eq_true rfl) dX11_rule_142 (fun H locs c9 oq hS => ?_)
            have hFz := (oq _ (kn_ne g_z g_j_tape (by first | (show cz ≠ (8 : Nat); omega) | (show cz ≠ (9 : Nat); omega) | (show cz ≠ (10 : Nat); omega) | (show cz ≠ (6 : Nat); omega) | (show cz ≠ (1 : Nat); omega) | (show cz ≠ (2 : Nat); omega) | (show cz ≠ (7 : Nat); omega) | (show cz ≠ (212 : Nat); omega) | (show cz ≠ (213 : Nat); omega) | (show cz ≠ (200 : Nat); omega) | (show cz ≠ (201 : Nat); omega) | (show cz ≠ (202 : Nat); omega) | (show cz ≠ (238 : Nat); omega) | (show cz ≠ (237 : Nat); omega) | (show cz ≠ (215 : Nat); omega) | (show cz ≠ (203 : Nat); omega) | (show cz ≠ (210 : Nat); omega) | (show cz ≠ (211 : Nat); omega) | (show cz ≠ (0 : Nat); omega)))).trans hFz
            have hI := jv_set hI c9 oq (by rw [g_j_tape]; exact jv_c8 ⟨bytes_10, 0, rfl, g_bytes_10, ⟨by omega, by omega⟩⟩)
            have hO := hO.kept (oq _ (kn_ne g_o g_j_tape (show (999 : Nat) ≠ 8 by decide)))
            have co_1 := co_1.kept (oq _ (kn_ne g_j_tongue g_j_tape (show (9 : Nat) ≠ 8 by decide)))
            have co_10 := c9
            clear oq c9
            refine lv_iload hx hb dX11_rule_145 (lv_at hl 0 rfl) ?_
            refine W.widen (k := 2) (n := 25) (Nat.le_of_ble_eq_true rfl) (Nat.le_of_ble_eq_true rfl) ?_
            exact W.iret (v := kz (-1)) hx hb hr (fun t9 ht hW => ⟨⟨kz (-1), (X, st), rfl, ⟨hP, rfl⟩, jK_warm hW ⟨hK, hN⟩, by rw [ht]; exact ⟨hI, hO, hFz⟩⟩, hS.F ht⟩) hS.2.2 dX11_rule_147
      · refine iz_eqz (tgt := 99) hx hb dX11_rule_27 (by decide) (by unfold rg2; omega) (fun _ => ?_) (fun q9 => absurd q9 (by decide))
        refine lv_iconst (v := kz 0) hx hb dX11_rule_99 rfl ?_
        refine lv_istore (lv' := [(6, .int (kz 0)), (0, .ref o), (1, .int (kz en)), (2, .int (kz be)), (3, .int (kz co)), (4, .int (kz fd)), (5, .int (kz ld))]) hx hb dX11_rule_100 hl (by decide) rfl (fun ls hl => ?_)
        refine lv_iconst (v := kz (-1)) hx hb dX11_rule_102 rfl ?_
        refine lv_istore (lv' := [(7, .int (kz (-1))), (6, .int (kz 0)), (0, .ref o), (1, .int (kz en)), (2, .int (kz be)), (3, .int (kz co)), (4, .int (kz fd)), (5, .int (kz ld))]) hx hb dX11_rule_103 hl (by decide) rfl (fun ls hl => ?_)
        refine lv_iload hx hb dX11_rule_105 (lv_at hl 1 rfl) ?_
        refine iz_eqz (tgt := 137) hx hb dX11_rule_107 (by decide) (by unfold rg2; omega) (fun _ => ?_) (fun q9 => absurd q9 (by decide))
        refine lv_aload_n hx hb dX11_rule_137 rfl (lv_at hl 2 rfl) ?_
        refine iz_get (D := (dC, dI)) (ci := 11) (v := .ref j_tape) (C := RX11) (T := TX11) (N := 7) hx hb hts hinX11 hown hK hO rfl 0 (by decide) hL12 (fun _ h9 => h9) rfl dX11_rule_138 ?_
        refine lv_iconst (v := kz 0) hx hb dX11_rule_141 rfl ?_
        obtain ⟨fs9, co_29, jo9⟩ := jv_o8 hI g_j_tape
        obtain ⟨bytes_29, size_29, rfl, g_bytes_29, ⟨size_29a, size_29b⟩⟩ := jo9
        refine iz_put (D := (dC, dI)) (ci := 8) (v := .int (kz 0)) (ty := .int) (C := RX8) (T := TX8) (N := 2) hx hb hts hinX8 tyX8 tyX8_ok nmX8 hown hK co_29 hS (jv_A hI g_j_tape (show (30 : Nat) ≠ 0 by decide)) rfl 1 (by decide) hL60 (fun _ h9 => h9) rfl (by decide +kernel) rfl rfl (Nat.le_of_ble_eq_true rfl) dX11_rule_142 (fun H locs c9 oq hS => ?_)
        have hFz := (oq _ (kn_ne g_z g_j_tape (by first | (show cz ≠ (8 : Nat); omega) | (show cz ≠ (9 : Nat); omega) | (show cz ≠ (10 : Nat); omega) | (show cz ≠ (6 : Nat); omega) | (show cz ≠ (1 : Nat); omega) | (show cz ≠ (2 : Nat); omega) | (show cz ≠ (7 : Nat); omega) | (show cz ≠ (212 : Nat); omega) | (show cz ≠ (213 : Nat); omega) | (show cz ≠ (200 : Nat); omega) | (show cz ≠ (201 : Nat); omega) | (show cz ≠ (202 : Nat); omega) | (show cz ≠ (238 : Nat); omega) | (show cz ≠ (237 : Nat); omega) | (show cz ≠ (215 : Nat); omega) | (show cz ≠ (203 : Nat); omega) | (show cz ≠ (210 : Nat); omega) | (show cz ≠ (211 : Nat); omega) | (show cz ≠ (0 : Nat); omega)))).trans hFz
        have hI := jv_set hI c9 oq (by rw [g_j_tape]; exact jv_c8 ⟨bytes_29, 0, rfl, g_bytes_29, ⟨by omega, by omega⟩⟩)
        have hO := hO.kept (oq _ (kn_ne g_o g_j_tape (show (999 : Nat) ≠ 8 by decide)))
        have co_1 := co_1.kept (oq _ (kn_ne g_j_tongue g_j_tape (show (9 : Nat) ≠ 8 by decide)))
        have co_29 := c9
        clear oq c9
        refine lv_iload hx hb dX11_rule_145 (lv_at hl 0 rfl) ?_
        refine W.widen (k := 2) (n := 25) (Nat.le_of_ble_eq_true rfl) (Nat.le_of_ble_eq_true rfl) ?_
        exact W.iret (v := kz (-1)) hx hb hr (fun t9 ht hW => ⟨⟨kz (-1), (X, st), rfl, ⟨hP, rfl⟩, jK_warm hW ⟨hK, hN⟩, by rw [ht]; exact ⟨hI, hO, hFz⟩⟩, hS.F ht⟩) hS.2.2 dX11_rule_147
    · refine iz_eqz (tgt := 99) hx hb dX11_rule_18 (by decide) (by unfold rg2; omega) (fun _ => ?_) (fun q9 => absurd q9 (by decide))
      refine lv_iconst (v := kz 0) hx hb dX11_rule_99 rfl ?_
      refine lv_istore (lv' := [(6, .int (kz 0)), (0, .ref o), (1, .int (kz en)), (2, .int (kz be)), (3, .int (kz co)), (4, .int (kz fd)), (5, .int (kz ld))]) hx hb dX11_rule_100 hl (by decide) rfl (fun ls hl => ?_)
      refine lv_iconst (v := kz (-1)) hx hb dX11_rule_102 rfl ?_
      refine lv_istore (lv' := [(7, .int (kz (-1))), (6, .int (kz 0)), (0, .ref o), (1, .int (kz en)), (2, .int (kz be)), (3, .int (kz co)), (4, .int (kz fd)), (5, .int (kz ld))]) hx hb dX11_rule_103 hl (by decide) rfl (fun ls hl => ?_)
      refine lv_iload hx hb dX11_rule_105 (lv_at hl 1 rfl) ?_
      refine iz_eqz (tgt := 137) hx hb dX11_rule_107 (by decide) (by unfold rg2; omega) (fun _ => ?_) (fun q9 => absurd q9 (by decide))
      refine lv_aload_n hx hb dX11_rule_137 rfl (lv_at hl 2 rfl) ?_
      refine iz_get (D := (dC, dI)) (ci := 11) (v := .ref j_tape) (C := RX11) (T := TX11) (N := 7) hx hb hts hinX11 hown hK hO rfl 0 (by decide) hL12 (fun _ h9 => h9) rfl dX11_rule_138 ?_
      refine lv_iconst (v := kz 0) hx hb dX11_rule_141 rfl ?_
      obtain ⟨fs9, co_30, jo9⟩ := jv_o8 hI g_j_tape
      obtain ⟨bytes_30, size_30, rfl, g_bytes_30, ⟨size_30a, size_30b⟩⟩ := jo9
      refine iz_put (D := (dC, dI)) (ci := 8) (v := .int (kz 0)) (ty := .int) (C := RX8) (T := TX8) (N := 2) hx hb hts hinX8 tyX8 tyX8_ok nmX8 hown hK co_30 hS (jv_A hI g_j_tape (show (30 : Nat) ≠ 0 by decide)) rfl 1 (by decide) hL60 (fun _ h9 => h9) rfl (by decide +kernel) rfl rfl (Nat.le_of_ble_eq_true rfl) dX11_rule_142 (fun H locs c9 oq hS => ?_)
      have hFz := (oq _ (kn_ne g_z g_j_tape (by first | (show cz ≠ (8 : Nat); omega) | (show cz ≠ (9 : Nat); omega) | (show cz ≠ (10 : Nat); omega) | (show cz ≠ (6 : Nat); omega) | (show cz ≠ (1 : Nat); omega) | (show cz ≠ (2 : Nat); omega) | (show cz ≠ (7 : Nat); omega) | (show cz ≠ (212 : Nat); omega) | (show cz ≠ (213 : Nat); omega) | (show cz ≠ (200 : Nat); omega) | (show cz ≠ (201 : Nat); omega) | (show cz ≠ (202 : Nat); omega) | (show cz ≠ (238 : Nat); omega) | (show cz ≠ (237 : Nat); omega) | (show cz ≠ (215 : Nat); omega) | (show cz ≠ (203 : Nat); omega) | (show cz ≠ (210 : Nat); omega) | (show cz ≠ (211 : Nat); omega) | (show cz ≠ (0 : Nat); omega)))).trans hFz
      have hI := jv_set hI c9 oq (by rw [g_j_tape]; exact jv_c8 ⟨bytes_30, 0, rfl, g_bytes_30, ⟨by omega, by omega⟩⟩)
      have hO := hO.kept (oq _ (kn_ne g_o g_j_tape (show (999 : Nat) ≠ 8 by decide)))
      have co_1 := co_1.kept (oq _ (kn_ne g_j_tongue g_j_tape (show (9 : Nat) ≠ 8 by decide)))
      have co_30 := c9
      clear oq c9
      refine lv_iload hx hb dX11_rule_145 (lv_at hl 0 rfl) ?_
      refine W.widen (k := 2) (n := 25) (Nat.le_of_ble_eq_true rfl) (Nat.le_of_ble_eq_true rfl) ?_
      exact W.iret (v := kz (-1)) hx hb hr (fun t9 ht hW => ⟨⟨kz (-1), (X, st), rfl, ⟨hP, rfl⟩, jK_warm hW ⟨hK, hN⟩, by rw [ht]; exact ⟨hI, hO, hFz⟩⟩, hS.F ht⟩) hS.2.2 dX11_rule_147
set_option maxHeartbeats 4000000 in
set_option maxRecDepth 100000 in
theorem c_waysToZ (l : Launch) (dC : Nat → ClassId) (dI : Nat → Nat → Nat) (ca : Nat → ClassId) (A : Nat → Prop) (X : jG) (hU : jU X) (Hp : Heap) (z9 cz kdz nz : Nat) (loz hiz : Int) (g_z : X.1 z9 = (cz, kdz, nz, loz, hiz)) (hcz : cz = 214 ∨ cz = 229) (hkz : kdz ≠ 0) (a0 : Nat) (ch : Nat) (kd : Int) (id : Nat) (o : Nat) (forms_ch : Nat) (rules_ch : Nat) (size_ch : Int) (g_a0 : X.1 a0 = (10, 30, 0, 0, 0)) (g_ch : X.1 ch = (0, 30, id, 0, 0)) (g_forms_ch : X.1 forms_ch = (210, 24, 40, 2, (id : Int))) (g_rules_ch : X.1 rules_ch = (211, 25, 40, 7, (id : Int))) (size_chi : 0 ≤ size_ch ∧ size_ch ≤ 40) (x_ch_0 : size_ch ≤ (X.2.1 forms_ch : Int)) (kdi : 0 ≤ kd ∧ kd ≤ 5) (hA9 : ∀ q : Nat, Hp.size ≤ q → A q) (g_o : X.1 o = (999, 0, 0, 0, 0)) (ho : o < Hp.size) : Met l yX10_waysTo wsX10_waysTo ({ frames := 5, cells := 41, slots := 9640, locals := 118 }) (va_Pc [.ref a0, .ref ch, .int (kz kd)] (fun U => U.heap = Hp ∧ jK (dC, dI) ca U ∧ jv (dC, dI) ca A X U.heap ∧ va_at (dC, dI) vwCl (ch, .inr (0, [.ref forms_ch, .ref rules_ch, .int (kz size_ch)])) U.heap)) (va_Ql (fun (r : Int64) (u : jG) => prl X u o [2, 201, 7, 202, 237, 238]) (fun (u : jG) U => jK (dC, dI) ca U ∧ jv (dC, dI) ca A u U.heap ∧ U.heap[o]? = Hp[o]? ∧ U.heap[z9]? = Hp[z9]?) A) 41 9640 A := by
  refine Met.ofW (cc := cX10_waysTo) (maxL := 5) (ret := (some .long)) (by decide) rfl ?_
  intro p e s m args below meth c s₁ B hml hv
  obtain ⟨rfl, hHp, ⟨hK, hN⟩, hI, co_ch⟩ := hv
  have hx := B.exec
  have hb := B.bytes
  have hr := B.returns
  have hts := atoms_spec (ws := wsX10_waysTo) B.pre
  have hown : s.vm.findClass RX10 = some m.cls := findClass_of_methodNamed B.named
  have hL15 := hts (.fieldLink RX10 15 "JoinBench$Trees" "ways" "[[J") (by decide +kernel)
  have hL26 := hts (.fieldLink RX10 26 "JoinBench$Chain" "size" "I") (by decide +kernel)
  have hL35 := hts (.fieldLink RX10 35 "JoinBench$Chain" "forms" "[LJoinBench$Form;") (by decide +kernel)
  have hL39 := hts (.fieldLink RX10 39 "JoinBench$Form" "kind" "I") (by decide +kernel)
  have hinX0 : ∀ w ∈ u_ws RX0 TX0 3, w ∈ wsX10_waysTo := by decide +kernel
  have hinX10 : ∀ w ∈ u_ws RX10 TX10 2, w ∈ wsX10_waysTo := by decide +kernel
  have hinX2 : ∀ w ∈ u_ws RX2 TX2 8, w ∈ wsX10_waysTo := by decide +kernel
  obtain ⟨H, hH⟩ : ∃ H : Heap, H = s.heap := ⟨_, rfl⟩
  have hS : va_S A s.heap H [] := by rw [hH]; exact va_S.rf
  have hF : kfm X [] Hp H := by rw [hH, hHp]; exact fm_rf _ _ _
  clear hF
  obtain ⟨n0, hn0⟩ : ∃ n9 : Nat, n9 = Hp.size := ⟨_, rfl⟩
  have hA : ∀ q : Nat, n0 ≤ q → A q := by rw [hn0]; exact hA9
  have hsz : s.heap.size = n0 := by rw [hn0, hHp]
  have hP := prl_rf o [2, 201, 7, 202, 237, 238] hU
  have hFo : H[o]? = Hp[o]? := by rw [hH, hHp]
  have g_o0 : (X.1 o).2.1 = 0 := by rw [g_o]
  have hFz : H[z9]? = Hp[z9]? := by rw [hH, hHp]
  rw [← hH] at hI co_ch ⊢
  clear hH
  have hl := lv_entry ([.ref a0, .ref ch, .int (kz kd)]) (n := 5) (Nat.le_of_ble_eq_true rfl)
  rw [lg_entry_eq]
  generalize (lg_sl ([.ref a0, .ref ch, .int (kz kd)]) ++ List.replicate (5 - (lg_sl ([.ref a0, .ref ch, .int (kz kd)])).length) Slot.unset).toArray = ls at hl ⊢
  have hl : lv_has ls 5 [(0, .ref a0), (1, .ref ch), (2, .int (kz kd))] := hl
  refine lv_aload_n hx hb dX10_waysTo_0 rfl (lv_at hl 0 rfl) ?_
  obtain ⟨fs9, co_1, jo9⟩ := jv_o10 hI g_a0
  obtain ⟨kinds_1, ways_1, rfl, g_kinds_1, q_ways_1⟩ := jo9
  refine iz_get (D := (dC, dI)) (ci := 10) (v := va_rf ways_1) (C := RX10) (T := TX10) (N := 2) hx hb hts hinX10 hown hK co_1 rfl 1 (by decide) hL15 (fun _ h9 => h9) rfl dX10_waysTo_1 ?_
  rcases ways_1 with _ | b_2
  · refine W.eq (g2 := F0 m 4 ls [.null]) rfl ?_
    refine lv_ifnonnullN hx hb dX10_waysTo_4 ?_
    refine lv_aload_n hx hb dX10_waysTo_7 rfl (lv_at hl 0 rfl) ?_
    refine lv_bipush (v := kz 40) hx hb dX10_waysTo_8 (by decide) ?_
    refine lv_sipush (v := kz 240) hx hb dX10_waysTo_10 (by decide) ?_
    have hzH : n0 ≤ H.size := by have h8 := hS.1; omega
    refine jz_mna (ty := .long) (kd := 28) (N := 40) (M := 240) hx hb hown (hts (.classLink RX10 25 "[[J") (by decide +kernel)) (jN_AO hN).2.2.2.2 (hts (.arrayClass .long) (by decide +kernel)) hK 3 8 rfl rfl (fun h9 => h9) hS (fun q h8 => hA q (by omega)) (by decide) (by decide) (by decide) (by decide) (by decide) (r0 := (240, .inr (.inl (fun _ => 0)))) rfl rfl rfl (Nat.le_of_ble_eq_true rfl) (Nat.le_of_ble_eq_true rfl) dX10_waysTo_13 (fun x_3 H locs hx9 c_x_3 r9 oq hz9 hS => ?_)
    have hFz := (oq _ (jv_lt hI (by rw [g_z]; exact hkz))).trans hFz
    have hu9 : ∀ q : Nat, x_3 ≤ q → (X.1 q).2.1 = 0 := fun q hq => jv_out hI (by omega)
    have co_ch := co_ch.kept (oq _ co_ch.lt)
    have co_1 := co_1.kept (oq _ co_1.lt)
    have hlt_o : o < x_3 := by omega
    have hFo := (oq _ (by omega)).trans hFo
    have hz8 : n0 ≤ x_3 := by rw [hx9]; exact hzH
    have hle9 := jmul_le (X := X) (x := x_3) (N := 40) (237, 28, 40, 238, 240) (238, 23, 240, 0, 0) hu9
    have hI := jv_mul (x := x_3) (N := 40) (t := (237, 28, 40, 238, 240)) (tr := (238, 23, 240, 0, 0)) hI (by omega) (fun q h9 => hA q (by omega)) (fun q hq => oq q (jv_lt hI hq)) c_x_3 r9 (jq_e28 (fun j hj => ⟨x_3 + 1 + j, if_pos hj, jmul_row X _ _ (by omega)⟩)) (fun q => jz_e23)
    have hU := jmul_U (x := x_3) (N := 40) (t := (237, 28, 40, 238, 240)) (tr := (238, 23, 240, 0, 0)) hU (fun q9 => absurd q9 (show ¬ uq 237 = true by decide)) (by decide)
    have hP := prl_mul (x := x_3) (N := 40) (t := (237, 28, 40, 238, 240)) (tr := (238, 23, 240, 0, 0)) hP hu9 hU hlt_o (by decide) (by decide)
    have g_x_3 := jmul_self X x_3 40 (237, 28, 40, 238, 240) (238, 23, 240, 0, 0)
    have g_o : (jmul X x_3 40 (237, 28, 40, 238, 240) (238, 23, 240, 0, 0)).1 o = (999, 0, 0, 0, 0) := by rw [jmul_ne X _ _ (Or.inl hlt_o)]; exact g_o
    have g_o0 : ((jmul X x_3 40 (237, 28, 40, 238, 240) (238, 23, 240, 0, 0)).1 o).2.1 = 0 := by rw [g_o]
    obtain ⟨X, hY9⟩ : ∃ Y9 : jG, Y9 = jmul X x_3 40 (237, 28, 40, 238, 240) (238, 23, 240, 0, 0) := ⟨_, rfl⟩
    rw [← hY9] at hle9 hI hU hP g_x_3 g_o g_o0
    clear hY9
    have hzH : n0 ≤ H.size := by have h8 := hS.1; omega
    have x_ch_0 : size_ch ≤ (X.2.1 forms_ch : Int) := by rw [(hle9.1 forms_ch (by rw [g_forms_ch]; exact (by decide : (24 : Nat) ≠ 0))).2]; exact x_ch_0
    have g_z := le_t hle9 g_z hkz
    have g_a0 := le_t hle9 g_a0 (show (30 : Nat) ≠ 0 by decide)
    have g_ch := le_t hle9 g_ch (show (30 : Nat) ≠ 0 by decide)
    have g_forms_ch := le_t hle9 g_forms_ch (show (24 : Nat) ≠ 0 by decide)
    have g_rules_ch := le_t hle9 g_rules_ch (show (25 : Nat) ≠ 0 by decide)
    have g_kinds_1 := le_t hle9 g_kinds_1 (show (20 : Nat) ≠ 0 by decide)
    clear hle9 hu9 hz8 oq hz9 hx9 r9
    refine iz_put (D := (dC, dI)) (ci := 10) (v := .ref x_3) (ty := .array (.array .long)) (C := RX10) (T := TX10) (N := 2) hx hb hts hinX10 tyX10 tyX10_ok nmX10 hown hK co_1 hS (jv_A hI g_a0 (show (30 : Nat) ≠ 0 by decide)) rfl 1 (by decide) hL15 (fun _ h9 => h9) rfl (by decide +kernel) rfl rfl (Nat.le_of_ble_eq_true rfl) dX10_waysTo_17 (fun H locs c9 oq hS => ?_)
    have hFz := (oq _ (kn_ne g_z g_a0 (by first | (show cz ≠ (8 : Nat); omega) | (show cz ≠ (9 : Nat); omega) | (show cz ≠ (10 : Nat); omega) | (show cz ≠ (6 : Nat); omega) | (show cz ≠ (1 : Nat); omega) | (show cz ≠ (2 : Nat); omega) | (show cz ≠ (7 : Nat); omega) | (show cz ≠ (212 : Nat); omega) | (show cz ≠ (213 : Nat); omega) | (show cz ≠ (200 : Nat); omega) | (show cz ≠ (201 : Nat); omega) | (show cz ≠ (202 : Nat); omega) | (show cz ≠ (238 : Nat); omega) | (show cz ≠ (237 : Nat); omega) | (show cz ≠ (215 : Nat); omega) | (show cz ≠ (203 : Nat); omega) | (show cz ≠ (210 : Nat); omega) | (show cz ≠ (211 : Nat); omega) | (show cz ≠ (0 : Nat); omega)))).trans hFz
    have hI := jv_set hI c9 oq (by rw [g_a0]; exact jv_c10 ⟨kinds_1, some x_3, rfl, g_kinds_1, fun b9 q9 => (by cases q9; exact g_x_3)⟩)
    have co_ch := co_ch.kept (oq _ (kn_ne g_ch g_a0 (show (0 : Nat) ≠ 10 by decide)))
    have hFo := (oq _ (kn_ne0 g_a0 g_o0 (show (30 : Nat) ≠ 0 by decide)).symm).trans hFo
    have co_1 := c9
    clear oq c9
    refine lv_aload_n hx hb dX10_waysTo_20 rfl (lv_at hl 1 rfl) ?_
    refine iz_get (D := (dC, dI)) (ci := 0) (v := .int (kz size_ch)) (C := RX0) (T := TX0) (N := 3) hx hb hts hinX0 hown hK co_ch rfl 2 (by decide) hL26 (fun _ h9 => h9) rfl dX10_waysTo_21 ?_
    refine lv_iconst (v := kz 1) hx hb dX10_waysTo_24 rfl ?_
    refine iz_ge (tgt := 30) hx hb dX10_waysTo_25 (by decide) (by unfold rg2; omega) (fun br_4 => ?_) (fun br_4 => ?_)
    · refine lv_iconst (v := kz 0) hx hb dX10_waysTo_30 rfl ?_
      refine lv_istore_n (lv' := [(3, .int (kz 0)), (0, .ref a0), (1, .ref ch), (2, .int (kz kd))]) hx hb dX10_waysTo_31 rfl hl (by decide) rfl (fun ls hl => ?_)
      refine iz_loopA1 (α := Unit) (P := fun N9 _u9 k H locs ls => (0 ≤ k) ∧ (k ≤ 40) ∧ 40 - k ≤ (N9 : Int) ∧ lv_has ls 5 [(3, .int (kz k)), (0, .ref a0), (1, .ref ch), (2, .int (kz kd))] ∧ jv (dC, dI) ca A X H ∧ va_S A s.heap H locs ∧ H[o]? = Hp[o]? ∧ H[z9]? = Hp[z9]? ∧ va_at (dC, dI) vwCl (a0, .inr (10, [.ref kinds_1, .ref x_3])) H ∧ va_at (dC, dI) vwCl (ch, .inr (0, [.ref forms_ch, .ref rules_ch, .int (kz size_ch)])) H) 100000 () (x0 := 0) ?_ ⟨by omega, by omega, by omega, lv_sub hl [0, 1, 2, 3] rfl, hI, hS, hFo, hFz, co_1, co_ch⟩
      intro n_5 _u9 k H locs ls ⟨n_5f0, n_5f1, n_5f2, hl, hI, hS, hFo, hFz, co_1, co_ch⟩ ihn_5
      refine lv_iload_n hx hb dX10_waysTo_32 rfl (lv_at hl 0 rfl) ?_
      refine lv_aload_n hx hb dX10_waysTo_33 rfl (lv_at hl 2 rfl) ?_
      refine iz_get (D := (dC, dI)) (ci := 0) (v := .int (kz size_ch)) (C := RX0) (T := TX0) (N := 3) hx hb hts hinX0 hown hK co_ch rfl 2 (by decide) hL26 (fun _ h9 => h9) rfl dX10_waysTo_34 ?_
      refine iz_ge (tgt := 73) hx hb dX10_waysTo_37 (by decide) (by unfold rg2; omega) (fun br_6 => ?_) (fun br_6 => ?_)
      · refine lv_iconst (v := kz 1) hx hb dX10_waysTo_73 rfl ?_
        refine lv_istore_n (lv' := [(3, .int (kz 1)), (0, .ref a0), (1, .ref ch), (2, .int (kz kd))]) hx hb dX10_waysTo_74 rfl hl (by decide) rfl (fun ls hl => ?_)
        refine iz_loopA1 (α := Unit) (P := fun N9 _u9 mo H locs ls => (1 ≤ mo) ∧ (mo ≤ 40) ∧ 40 - mo ≤ (N9 : Int) ∧ lv_has ls 5 [(3, .int (kz mo)), (0, .ref a0), (1, .ref ch), (2, .int (kz kd))] ∧ jv (dC, dI) ca A X H ∧ va_S A s.heap H locs ∧ H[o]? = Hp[o]? ∧ H[z9]? = Hp[z9]? ∧ va_at (dC, dI) vwCl (a0, .inr (10, [.ref kinds_1, .ref x_3])) H ∧ va_at (dC, dI) vwCl (ch, .inr (0, [.ref forms_ch, .ref rules_ch, .int (kz size_ch)])) H) 100000 () (x0 := 1) ?_ ⟨by omega, by omega, by omega, lv_sub hl [0, 1, 2, 3] rfl, hI, hS, hFo, hFz, co_1, co_ch⟩
        intro n_7 _u9 mo H locs ls ⟨n_7f0, n_7f1, n_7f2, hl, hI, hS, hFo, hFz, co_1, co_ch⟩ ihn_7
        refine lv_iload_n hx hb dX10_waysTo_75 rfl (lv_at hl 0 rfl) ?_
        refine lv_aload_n hx hb dX10_waysTo_76 rfl (lv_at hl 2 rfl) ?_
        refine iz_get (D := (dC, dI)) (ci := 0) (v := .int (kz size_ch)) (C := RX0) (T := TX0) (N := 3) hx hb hts hinX0 hown hK co_ch rfl 2 (by decide) hL26 (fun _ h9 => h9) rfl dX10_waysTo_77 ?_
        refine iz_ge (tgt := 116) hx hb dX10_waysTo_80 (by decide) (by unfold rg2; omega) (fun br_8 => ?_) (fun br_8 => ?_)
        · refine lv_aload_n hx hb dX10_waysTo_116 rfl (lv_at hl 1 rfl) ?_
          refine iz_get (D := (dC, dI)) (ci := 10) (v := .ref x_3) (C := RX10) (T := TX10) (N := 2) hx hb hts hinX10 hown hK co_1 rfl 1 (by decide) hL15 (fun _ h9 => h9) rfl dX10_waysTo_117 ?_
          refine lv_iconst (v := kz 0) hx hb dX10_waysTo_120 rfl ?_
          obtain ⟨f_9, c_f_9, k_f_9⟩ := jv_q28 hI g_x_3
          refine jz_aald hx hb hK 8 c_f_9 rfl rfl (by omega) (by decide) dX10_waysTo_121 ?_
          obtain ⟨b_10, eb_10, g_b_10⟩ := k_f_9 (Int.toNat 0) (by omega)
          rw [eb_10]
          have g_b_10 : X.1 b_10 = (238, 23, 240, 0, 0) := g_b_10
          refine W.eq (g2 := F0 m 122 ls [.ref b_10]) rfl ?_
          refine lv_aload_n hx hb dX10_waysTo_122 rfl (lv_at hl 2 rfl) ?_
          refine iz_get (D := (dC, dI)) (ci := 0) (v := .int (kz size_ch)) (C := RX0) (T := TX0) (N := 3) hx hb hts hinX0 hown hK co_ch rfl 2 (by decide) hL26 (fun _ h9 => h9) rfl dX10_waysTo_123 ?_
          refine lv_iconst (v := kz 1) hx hb dX10_waysTo_126 rfl ?_
          refine iz_isub hx hb dX10_waysTo_127 ?_
          refine lv_bipush (v := kz 6) hx hb dX10_waysTo_128 (by decide) ?_
          refine iz_imul hx hb dX10_waysTo_130 ?_
          refine lv_iload_n hx hb dX10_waysTo_131 rfl (lv_at hl 3 rfl) ?_
          refine iz_iadd hx hb dX10_waysTo_132 ?_
          obtain ⟨f_11, c_f_11⟩ := iv_o23 (jv_iv hI) g_b_10
          refine iz_lald hx hb hK 3 c_f_11 rfl (by omega) (by decide) dX10_waysTo_133 ?_
          refine lv_topl (fun y_12 ey_12 => ?_)
          refine W.widen (k := 41) (n := 9640) (Nat.le_of_ble_eq_true rfl) (Nat.le_of_ble_eq_true rfl) ?_
          exact W.lret (v := y_12) hx hb hr (fun t9 ht hW => ⟨⟨y_12, X, rfl, hP, jK_warm hW ⟨hK, hN⟩, by rw [ht]; exact ⟨hI, hFo, hFz⟩⟩, hS.F ht⟩) hS.2.2 dX10_waysTo_134
        · refine lv_iconst (v := kz 0) hx hb dX10_waysTo_83 rfl ?_
          refine lv_istore (lv' := [(4, .int (kz 0)), (3, .int (kz mo)), (0, .ref a0), (1, .ref ch), (2, .int (kz kd))]) hx hb dX10_waysTo_84 hl (by decide) rfl (fun ls hl => ?_)
          refine iz_loopA1 (α := Unit) (P := fun N9 _u9 sa H locs ls => (0 ≤ sa) ∧ (sa ≤ 40) ∧ 40 - sa ≤ (N9 : Int) ∧ lv_has ls 5 [(4, .int (kz sa)), (3, .int (kz mo)), (0, .ref a0), (1, .ref ch), (2, .int (kz kd))] ∧ jv (dC, dI) ca A X H ∧ va_S A s.heap H locs ∧ H[o]? = Hp[o]? ∧ H[z9]? = Hp[z9]? ∧ va_at (dC, dI) vwCl (a0, .inr (10, [.ref kinds_1, .ref x_3])) H ∧ va_at (dC, dI) vwCl (ch, .inr (0, [.ref forms_ch, .ref rules_ch, .int (kz size_ch)])) H) 100000 () (x0 := 0) ?_ ⟨by omega, by omega, by omega, lv_sub hl [0, 1, 2, 3, 4] rfl, hI, hS, hFo, hFz, co_1, co_ch⟩
          intro n_13 _u9 sa H locs ls ⟨n_13f0, n_13f1, n_13f2, hl, hI, hS, hFo, hFz, co_1, co_ch⟩ ihn_13
          refine lv_iload hx hb dX10_waysTo_86 (lv_at hl 0 rfl) ?_
          refine lv_iload_n hx hb dX10_waysTo_88 rfl (lv_at hl 1 rfl) ?_
          refine iz_iadd hx hb dX10_waysTo_89 ?_
          refine lv_aload_n hx hb dX10_waysTo_90 rfl (lv_at hl 3 rfl) ?_
          refine iz_get (D := (dC, dI)) (ci := 0) (v := .int (kz size_ch)) (C := RX0) (T := TX0) (N := 3) hx hb hts hinX0 hown hK co_ch rfl 2 (by decide) hL26 (fun _ h9 => h9) rfl dX10_waysTo_91 ?_
          refine iz_ge (tgt := 110) hx hb dX10_waysTo_94 (by decide) (by unfold rg2; omega) (fun br_14 => ?_) (fun br_14 => ?_)
          · refine lv_iinc (v := kz (mo + 1)) (lv' := [(3, .int (kz (mo + 1))), (4, .int (kz sa)), (0, .ref a0), (1, .ref ch), (2, .int (kz kd))]) hx hb dX10_waysTo_110 hl (k := 1) rfl (kz_add mo 1) (by decide) rfl (fun ls hl => ?_)
            refine lv_goto (tgt := 75) hx hb dX10_waysTo_113 (by decide) ?_
            exact ihn_7 (n_7 - 1) (by omega) () (mo + 1) _ _ _ ⟨by omega, by omega, by omega, lv_sub hl [0, 2, 3, 4] rfl, hI, hS, hFo, hFz, co_1, co_ch⟩
          · refine lv_aload_n hx hb dX10_waysTo_97 rfl (lv_at hl 2 rfl) ?_
            refine lv_iload hx hb dX10_waysTo_98 (lv_at hl 0 rfl) ?_
            refine lv_iload_n hx hb dX10_waysTo_100 rfl (lv_at hl 1 rfl) ?_
            refine va_callv (va_runV (As := [.int (kz sa), .int (kz mo)]) (rest := []) ⟨hx, hb, hml, hown, hts⟩ (c_addSplits l dC dI ca A X hU H a0 sa mo kinds_1 x_3 g_a0 g_kinds_1 g_x_3 (by omega)) (cwV 2 hts gX10_waysTo_X10_addSplits rfl rfl rfl (by decide +kernel) ⟨Nat.le_of_ble_eq_true rfl, Nat.le_of_ble_eq_true rfl⟩) ⟨fun a U g mk q => by obtain ⟨q0, qH, ⟨qK, qN⟩, qI⟩ := q; exact ⟨q0, qH, ⟨va_K.moved (u := U) (U := U.calling g mk a) (Vm.Alike.refl U.vm) qK, jN_same (U := U.calling g mk a) rfl qN⟩, qI⟩, va_recv hK (at_P co_1) (ci := 10) (q0 := 0) rfl rfl, fun U hU hW => ⟨rfl, hU, jK_warm hW ⟨hK, hN⟩, by rw [hU]; exact ⟨hI, co_1⟩⟩⟩ rfl rfl hl.1 rfl (lv_room (Nat.le_of_ble_eq_true rfl)) dX10_waysTo_101 ⟨Nat.le_of_ble_eq_true rfl, Nat.le_of_ble_eq_true rfl⟩) hS (fun q _ h => h) (fun q h => h) (fun u t9 H locs ht hvm hw_15 hB hz1 hk1 hS => ?_)
            obtain ⟨-, hI, hf9⟩ := hB
            rw [ht] at hI hf9
            have hFz := (hf9 z9 (by rw [g_z]; rcases hcz with h9 | h9 <;> first | (simp [h9]; done) | (simp [Lc, h9]; done))).trans hFz
            clear ht hvm hz1
            have hFo := (hf9 o (by rw [g_o]; decide)).trans hFo
            have co_ch := fm_at hf9 g_ch (show (0 : Nat) ∉ ([238] : List Nat) by decide) co_ch
            have co_1 := fm_at hf9 g_a0 (show (10 : Nat) ∉ ([238] : List Nat) by decide) co_1
            clear hk1 hf9
            refine lv_iinc (v := kz (sa + 1)) (lv' := [(4, .int (kz (sa + 1))), (3, .int (kz mo)), (0, .ref a0), (1, .ref ch), (2, .int (kz kd))]) hx hb dX10_waysTo_104 hl (k := 0) rfl (kz_add sa 1) (by decide) rfl (fun ls hl => ?_)
            refine lv_goto (tgt := 86) hx hb dX10_waysTo_107 (by decide) ?_
            exact ihn_13 (n_13 - 1) (by omega) () (sa + 1) _ _ _ ⟨by omega, by omega, by omega, lv_sub hl [0, 1, 2, 3, 4] rfl, hI, hS, hFo, hFz, co_1, co_ch⟩
      · refine lv_aload_n hx hb dX10_waysTo_40 rfl (lv_at hl 1 rfl) ?_
        refine iz_get (D := (dC, dI)) (ci := 10) (v := .ref x_3) (C := RX10) (T := TX10) (N := 2) hx hb hts hinX10 hown hK co_1 rfl 1 (by decide) hL15 (fun _ h9 => h9) rfl dX10_waysTo_41 ?_
        refine lv_iload_n hx hb dX10_waysTo_44 rfl (lv_at hl 0 rfl) ?_
        obtain ⟨f_17, c_f_17, k_f_17⟩ := jv_q28 hI g_x_3
        refine jz_aald hx hb hK 8 c_f_17 rfl rfl (by omega) (by decide) dX10_waysTo_45 ?_
        obtain ⟨b_18, eb_18, g_b_18⟩ := k_f_17 (Int.toNat k) (by omega)
        rw [eb_18]
        have g_b_18 : X.1 b_18 = (238, 23, 240, 0, 0) := g_b_18
        refine W.eq (g2 := F0 m 46 ls [.ref b_18]) rfl ?_
        refine lv_lconst (v := 0) hx hb dX10_waysTo_46 (by decide) ?_
        refine va_callv (va_runS (As := [.ref b_18, .long 0]) (rest := []) ⟨hx, hb, hml, hown, hts⟩ (c_fill238 l dC dI ca A X hU H b_18 0 g_b_18) (va_cwS 2 hts gX10_waysTo_J7_fill_d0a16 rfl rfl rfl (by decide +kernel) ⟨Nat.le_of_ble_eq_true rfl, Nat.le_of_ble_eq_true rfl⟩) ⟨fun a U g mk q => by obtain ⟨q0, qH, ⟨qK, qN⟩, qI⟩ := q; exact ⟨q0, qH, ⟨va_K.moved (u := U) (U := U.calling g mk a) (Vm.Alike.refl U.vm) qK, jN_same (U := U.calling g mk a) rfl qN⟩, qI⟩, fun U hU hW => ⟨rfl, hU, jK_warm hW ⟨hK, hN⟩, by rw [hU]; exact hI⟩⟩ rfl rfl hl.1 rfl (lv_room (Nat.le_of_ble_eq_true rfl)) dX10_waysTo_47 ⟨Nat.le_of_ble_eq_true rfl, Nat.le_of_ble_eq_true rfl⟩) hS (fun q _ h => h) (fun q h => h) (fun u t9 H locs ht hvm hw_19 hB hz1 hk1 hS => ?_)
        obtain ⟨-, hI, hf9⟩ := hB
        rw [ht] at hI hf9
        have hFz := (hf9 z9 (by rw [g_z]; rcases hcz with h9 | h9 <;> first | (simp [h9]; done) | (simp [Lc, h9]; done))).trans hFz
        clear ht hvm hz1
        have hFo := (hf9 o (by rw [g_o]; decide)).trans hFo
        have co_ch := fm_at hf9 g_ch (show (0 : Nat) ∉ ([238] : List Nat) by decide) co_ch
        have co_1 := fm_at hf9 g_a0 (show (10 : Nat) ∉ ([238] : List Nat) by decide) co_1
        have c_f_17 := fm_at hf9 g_x_3 (show (237 : Nat) ∉ ([238] : List Nat) by decide) c_f_17
        clear hk1 hf9
        refine lv_aload_n hx hb dX10_waysTo_50 rfl (lv_at hl 1 rfl) ?_
        refine iz_get (D := (dC, dI)) (ci := 10) (v := .ref x_3) (C := RX10) (T := TX10) (N := 2) hx hb hts hinX10 hown hK co_1 rfl 1 (by decide) hL15 (fun _ h9 => h9) rfl dX10_waysTo_51 ?_
        refine lv_iload_n hx hb dX10_waysTo_54 rfl (lv_at hl 0 rfl) ?_
        refine jz_aald hx hb hK 8 c_f_17 rfl rfl (by omega) (by decide) dX10_waysTo_55 ?_
        rw [eb_18]
        refine W.eq (g2 := F0 m 56 ls [.ref b_18]) rfl ?_
        refine lv_aload_n hx hb dX10_waysTo_56 rfl (lv_at hl 2 rfl) ?_
        refine iz_get (D := (dC, dI)) (ci := 0) (v := .ref forms_ch) (C := RX0) (T := TX0) (N := 3) hx hb hts hinX0 hown hK co_ch rfl 0 (by decide) hL35 (fun _ h9 => h9) rfl dX10_waysTo_57 ?_
        refine lv_iload_n hx hb dX10_waysTo_60 rfl (lv_at hl 0 rfl) ?_
        obtain ⟨f_22, c_f_22, k_f_22⟩ := jv_q24 hI g_forms_ch
        refine jz_aald hx hb hK 4 c_f_22 rfl rfl (by omega) (by decide) dX10_waysTo_61 ?_
        obtain ⟨b_23, eb_23⟩ : ∃ b9 : Nat, f_22 (Int.toNat k) = some b9 := Option.ne_none_iff_exists'.mp ((k_f_22 (Int.toNat k) (by omega)).2 (by omega))
        have g_b_23 := (k_f_22 (Int.toNat k) (by omega)).1 b_23 eb_23
        rw [eb_23]
        refine W.eq (g2 := F0 m 62 ls [.ref b_23, .ref b_18]) rfl ?_
        obtain ⟨fs9, co_24, jo9⟩ := jv_o2 hI g_b_23
        obtain ⟨ln_24, letters_24, kind_24, stem_24, kept_24, cost_24, number_24, ends_24, begins_24, rfl, g_letters_24, ⟨kind_24a, kind_24b⟩, ⟨stem_24a, stem_24b⟩, ⟨kept_24a, kept_24b⟩, ⟨cost_24a, cost_24b⟩, ⟨number_24a, number_24b⟩, ⟨ends_24a, ends_24b⟩, ⟨begins_24a, begins_24b⟩, x_24_0, x_24_1, x_24_2, x_24_3⟩ := jo9
        refine iz_get (D := (dC, dI)) (ci := 2) (v := .int (kz kind_24)) (C := RX2) (T := TX2) (N := 8) hx hb hts hinX2 hown hK co_24 rfl 1 (by decide) hL39 (fun _ h9 => h9) rfl dX10_waysTo_62 ?_
        refine lv_lconst (v := 1) hx hb dX10_waysTo_65 (by decide) ?_
        obtain ⟨f_25, c_f_25⟩ := iv_o23 (jv_iv hI) g_b_18
        refine iz_last hx hb hK 3 c_f_25 hS (jv_A hI g_b_18 (show (23 : Nat) ≠ 0 by decide)) rfl (by omega) (by decide) dX10_waysTo_66 (fun H locs c9 oq hS => ?_)
        have hFz := (oq _ (kn_ne g_z g_b_18 (by first | (show cz ≠ (8 : Nat); omega) | (show cz ≠ (9 : Nat); omega) | (show cz ≠ (10 : Nat); omega) | (show cz ≠ (6 : Nat); omega) | (show cz ≠ (1 : Nat); omega) | (show cz ≠ (2 : Nat); omega) | (show cz ≠ (7 : Nat); omega) | (show cz ≠ (212 : Nat); omega) | (show cz ≠ (213 : Nat); omega) | (show cz ≠ (200 : Nat); omega) | (show cz ≠ (201 : Nat); omega) | (show cz ≠ (202 : Nat); omega) | (show cz ≠ (238 : Nat); omega) | (show cz ≠ (237 : Nat); omega) | (show cz ≠ (215 : Nat); omega) | (show cz ≠ (203 : Nat); omega) | (show cz ≠ (210 : Nat); omega) | (show cz ≠ (211 : Nat); omega) | (show cz ≠ (0 : Nat); omega)))).trans hFz
        have hI := jv_s23 hI g_b_18 c9 oq
        have c_f_17 := c_f_17.kept (oq _ (kn_ne g_x_3 g_b_18 (show (237 : Nat) ≠ 238 by decide)))
        have c_f_22 := c_f_22.kept (oq _ (kn_ne g_forms_ch g_b_18 (show (210 : Nat) ≠ 238 by decide)))
        have co_ch := co_ch.kept (oq _ (kn_ne g_ch g_b_18 (show (0 : Nat) ≠ 238 by decide)))
        have co_1 := co_1.kept (oq _ (kn_ne g_a0 g_b_18 (show (10 : Nat) ≠ 238 by decide)))
        have co_24 := co_24.kept (oq _ (kn_ne g_b_23 g_b_18 (show (2 : Nat) ≠ 238 by decide)))
        have hFo := (oq _ (kn_ne0 g_b_18 g_o0 (show (23 : Nat) ≠ 0 by decide)).symm).trans hFo
        clear oq c9
        refine lv_iinc (v := kz (k + 1)) (lv' := [(3, .int (kz (k + 1))), (0, .ref a0), (1, .ref ch), (2, .int (kz kd))]) hx hb dX10_waysTo_67 hl (k := 0) rfl (kz_add k 1) (by decide) rfl (fun ls hl => ?_)
        refine lv_goto (tgt := 32) hx hb dX10_waysTo_70 (by decide) ?_
        exact ihn_5 (n_5 - 1) (by omega) () (k + 1) _ _ _ ⟨by omega, by omega, by omega, lv_sub hl [0, 1, 2, 3] rfl, hI, hS, hFo, hFz, co_1, co_ch⟩
    · refine lv_lconst (v := 0) hx hb dX10_waysTo_28 (by decide) ?_
      refine W.widen (k := 41) (n := 9640) (Nat.le_of_ble_eq_true rfl) (Nat.le_of_ble_eq_true rfl) ?_
      exact W.lret (v := 0) hx hb hr (fun t9 ht hW => ⟨⟨0, X, rfl, hP, jK_warm hW ⟨hK, hN⟩, by rw [ht]; exact ⟨hI, hFo, hFz⟩⟩, hS.F ht⟩) hS.2.2 dX10_waysTo_29
  · have g_b_2 := q_ways_1 b_2 rfl
    refine W.eq (g2 := F0 m 4 ls [.ref b_2]) rfl ?_
    refine lv_ifnonnull (tgt := 20) hx hb dX10_waysTo_4 (by decide) ?_
    refine lv_aload_n hx hb dX10_waysTo_20 rfl (lv_at hl 1 rfl) ?_
    refine iz_get (D := (dC, dI)) (ci := 0) (v := .int (kz size_ch)) (C := RX0) (T := TX0) (N := 3) hx hb hts hinX0 hown hK co_ch rfl 2 (by decide) hL26 (fun _ h9 => h9) rfl dX10_waysTo_21 ?_
    refine lv_iconst (v := kz 1) hx hb dX10_waysTo_24 rfl ?_
    refine iz_ge (tgt := 30) hx hb dX10_waysTo_25 (by decide) (by unfold rg2; omega) (fun br_26 => ?_) (fun br_26 => ?_)
    · refine lv_iconst (v := kz 0) hx hb dX10_waysTo_30 rfl ?_
      refine lv_istore_n (lv' := [(3, .int (kz 0)), (0, .ref a0), (1, .ref ch), (2, .int (kz kd))]) hx hb dX10_waysTo_31 rfl hl (by decide) rfl (fun ls hl => ?_)
      refine iz_loopA1 (α := Unit) (P := fun N9 _u9 k H locs ls => (0 ≤ k) ∧ (k ≤ 40) ∧ 40 - k ≤ (N9 : Int) ∧ lv_has ls 5 [(3, .int (kz k)), (0, .ref a0), (1, .ref ch), (2, .int (kz kd))] ∧ jv (dC, dI) ca A X H ∧ va_S A s.heap H locs ∧ H[o]? = Hp[o]? ∧ H[z9]? = Hp[z9]? ∧ va_at (dC, dI) vwCl (a0, .inr (10, [.ref kinds_1, .ref b_2])) H ∧ va_at (dC, dI) vwCl (ch, .inr (0, [.ref forms_ch, .ref rules_ch, .int (kz size_ch)])) H) 100000 () (x0 := 0) ?_ ⟨by omega, by omega, by omega, lv_sub hl [0, 1, 2, 3] rfl, hI, hS, hFo, hFz, co_1, co_ch⟩
      intro n_27 _u9 k H locs ls ⟨n_27f0, n_27f1, n_27f2, hl, hI, hS, hFo, hFz, co_1, co_ch⟩ ihn_27
      refine lv_iload_n hx hb dX10_waysTo_32 rfl (lv_at hl 0 rfl) ?_
      refine lv_aload_n hx hb dX10_waysTo_33 rfl (lv_at hl 2 rfl) ?_
      refine iz_get (D := (dC, dI)) (ci := 0) (v := .int (kz size_ch)) (C := RX0) (T := TX0) (N := 3) hx hb hts hinX0 hown hK co_ch rfl 2 (by decide) hL26 (fun _ h9 => h9) rfl dX10_waysTo_34 ?_
      refine iz_ge (tgt := 73) hx hb dX10_waysTo_37 (by decide) (by unfold rg2; omega) (fun br_28 => ?_) (fun br_28 => ?_)
      · refine lv_iconst (v := kz 1) hx hb dX10_waysTo_73 rfl ?_
        refine lv_istore_n (lv' := [(3, .int (kz 1)), (0, .ref a0), (1, .ref ch), (2, .int (kz kd))]) hx hb dX10_waysTo_74 rfl hl (by decide) rfl (fun ls hl => ?_)
        refine iz_loopA1 (α := Unit) (P := fun N9 _u9 mo H locs ls => (1 ≤ mo) ∧ (mo ≤ 40) ∧ 40 - mo ≤ (N9 : Int) ∧ lv_has ls 5 [(3, .int (kz mo)), (0, .ref a0), (1, .ref ch), (2, .int (kz kd))] ∧ jv (dC, dI) ca A X H ∧ va_S A s.heap H locs ∧ H[o]? = Hp[o]? ∧ H[z9]? = Hp[z9]? ∧ va_at (dC, dI) vwCl (a0, .inr (10, [.ref kinds_1, .ref b_2])) H ∧ va_at (dC, dI) vwCl (ch, .inr (0, [.ref forms_ch, .ref rules_ch, .int (kz size_ch)])) H) 100000 () (x0 := 1) ?_ ⟨by omega, by omega, by omega, lv_sub hl [0, 1, 2, 3] rfl, hI, hS, hFo, hFz, co_1, co_ch⟩
        intro n_29 _u9 mo H locs ls ⟨n_29f0, n_29f1, n_29f2, hl, hI, hS, hFo, hFz, co_1, co_ch⟩ ihn_29
        refine lv_iload_n hx hb dX10_waysTo_75 rfl (lv_at hl 0 rfl) ?_
        refine lv_aload_n hx hb dX10_waysTo_76 rfl (lv_at hl 2 rfl) ?_
        refine iz_get (D := (dC, dI)) (ci := 0) (v := .int (kz size_ch)) (C := RX0) (T := TX0) (N := 3) hx hb hts hinX0 hown hK co_ch rfl 2 (by decide) hL26 (fun _ h9 => h9) rfl dX10_waysTo_77 ?_
        refine iz_ge (tgt := 116) hx hb dX10_waysTo_80 (by decide) (by unfold rg2; omega) (fun br_30 => ?_) (fun br_30 => ?_)
        · refine lv_aload_n hx hb dX10_waysTo_116 rfl (lv_at hl 1 rfl) ?_
          refine iz_get (D := (dC, dI)) (ci := 10) (v := .ref b_2) (C := RX10) (T := TX10) (N := 2) hx hb hts hinX10 hown hK co_1 rfl 1 (by decide) hL15 (fun _ h9 => h9) rfl dX10_waysTo_117 ?_
          refine lv_iconst (v := kz 0) hx hb dX10_waysTo_120 rfl ?_
          obtain ⟨f_31, c_f_31, k_f_31⟩ := jv_q28 hI g_b_2
          refine jz_aald hx hb hK 8 c_f_31 rfl rfl (by omega) (by decide) dX10_waysTo_121 ?_
          obtain ⟨b_32, eb_32, g_b_32⟩ := k_f_31 (Int.toNat 0) (by omega)
          rw [eb_32]
          have g_b_32 : X.1 b_32 = (238, 23, 240, 0, 0) := g_b_32
          refine W.eq (g2 := F0 m 122 ls [.ref b_32]) rfl ?_
          refine lv_aload_n hx hb dX10_waysTo_122 rfl (lv_at hl 2 rfl) ?_
          refine iz_get (D := (dC, dI)) (ci := 0) (v := .int (kz size_ch)) (C := RX0) (T := TX0) (N := 3) hx hb hts hinX0 hown hK co_ch rfl 2 (by decide) hL26 (fun _ h9 => h9) rfl dX10_waysTo_123 ?_
          refine lv_iconst (v := kz 1) hx hb dX10_waysTo_126 rfl ?_
          refine iz_isub hx hb dX10_waysTo_127 ?_
          refine lv_bipush (v := kz 6) hx hb dX10_waysTo_128 (by decide) ?_
          refine iz_imul hx hb dX10_waysTo_130 ?_
          refine lv_iload_n hx hb dX10_waysTo_131 rfl (lv_at hl 3 rfl) ?_
          refine iz_iadd hx hb dX10_waysTo_132 ?_
          obtain ⟨f_33, c_f_33⟩ := iv_o23 (jv_iv hI) g_b_32
          refine iz_lald hx hb hK 3 c_f_33 rfl (by omega) (by decide) dX10_waysTo_133 ?_
          refine lv_topl (fun y_34 ey_34 => ?_)
          refine W.widen (k := 41) (n := 9640) (Nat.le_of_ble_eq_true rfl) (Nat.le_of_ble_eq_true rfl) ?_
          exact W.lret (v := y_34) hx hb hr (fun t9 ht hW => ⟨⟨y_34, X, rfl, hP, jK_warm hW ⟨hK, hN⟩, by rw [ht]; exact ⟨hI, hFo, hFz⟩⟩, hS.F ht⟩) hS.2.2 dX10_waysTo_134
        · refine lv_iconst (v := kz 0) hx hb dX10_waysTo_83 rfl ?_
          refine lv_istore (lv' := [(4, .int (kz 0)), (3, .int (kz mo)), (0, .ref a0), (1, .ref ch), (2, .int (kz kd))]) hx hb dX10_waysTo_84 hl (by decide) rfl (fun ls hl => ?_)
          refine iz_loopA1 (α := Unit) (P := fun N9 _u9 sa H locs ls => (0 ≤ sa) ∧ (sa ≤ 40) ∧ 40 - sa ≤ (N9 : Int) ∧ lv_has ls 5 [(4, .int (kz sa)), (3, .int (kz mo)), (0, .ref a0), (1, .ref ch), (2, .int (kz kd))] ∧ jv (dC, dI) ca A X H ∧ va_S A s.heap H locs ∧ H[o]? = Hp[o]? ∧ H[z9]? = Hp[z9]? ∧ va_at (dC, dI) vwCl (a0, .inr (10, [.ref kinds_1, .ref b_2])) H ∧ va_at (dC, dI) vwCl (ch, .inr (0, [.ref forms_ch, .ref rules_ch, .int (kz size_ch)])) H) 100000 () (x0 := 0) ?_ ⟨by omega, by omega, by omega, lv_sub hl [0, 1, 2, 3, 4] rfl, hI, hS, hFo, hFz, co_1, co_ch⟩
          intro n_35 _u9 sa H locs ls ⟨n_35f0, n_35f1, n_35f2, hl, hI, hS, hFo, hFz, co_1, co_ch⟩ ihn_35
          refine lv_iload hx hb dX10_waysTo_86 (lv_at hl 0 rfl) ?_
          refine lv_iload_n hx hb dX10_waysTo_88 rfl (lv_at hl 1 rfl) ?_
          refine iz_iadd hx hb dX10_waysTo_89 ?_
          refine lv_aload_n hx hb dX10_waysTo_90 rfl (lv_at hl 3 rfl) ?_
          refine iz_get (D := (dC, dI)) (ci := 0) (v := .int (kz size_ch)) (C := RX0) (T := TX0) (N := 3) hx hb hts hinX0 hown hK co_ch rfl 2 (by decide) hL26 (fun _ h9 => h9) rfl dX10_waysTo_91 ?_
          refine iz_ge (tgt := 110) hx hb dX10_waysTo_94 (by decide) (by unfold rg2; omega) (fun br_36 => ?_) (fun br_36 => ?_)
          · refine lv_iinc (v := kz (mo + 1)) (lv' := [(3, .int (kz (mo + 1))), (4, .int (kz sa)), (0, .ref a0), (1, .ref ch), (2, .int (kz kd))]) hx hb dX10_waysTo_110 hl (k := 1) rfl (kz_add mo 1) (by decide) rfl (fun ls hl => ?_)
            refine lv_goto (tgt := 75) hx hb dX10_waysTo_113 (by decide) ?_
            exact ihn_29 (n_29 - 1) (by omega) () (mo + 1) _ _ _ ⟨by omega, by omega, by omega, lv_sub hl [0, 2, 3, 4] rfl, hI, hS, hFo, hFz, co_1, co_ch⟩
          · refine lv_aload_n hx hb dX10_waysTo_97 rfl (lv_at hl 2 rfl) ?_
            refine lv_iload hx hb dX10_waysTo_98 (lv_at hl 0 rfl) ?_
            refine lv_iload_n hx hb dX10_waysTo_100 rfl (lv_at hl 1 rfl) ?_
            refine va_callv (va_runV (As := [.int (kz sa), .int (kz mo)]) (rest := []) ⟨hx, hb, hml, hown, hts⟩ (c_addSplits l dC dI ca A X hU H a0 sa mo kinds_1 b_2 g_a0 g_kinds_1 g_b_2 (by omega)) (cwV 2 hts gX10_waysTo_X10_addSplits rfl rfl rfl (by decide +kernel) ⟨Nat.le_of_ble_eq_true rfl, Nat.le_of_ble_eq_true rfl⟩) ⟨fun a U g mk q => by obtain ⟨q0, qH, ⟨qK, qN⟩, qI⟩ := q; exact ⟨q0, qH, ⟨va_K.moved (u := U) (U := U.calling g mk a) (Vm.Alike.refl U.vm) qK, jN_same (U := U.calling g mk a) rfl qN⟩, qI⟩, va_recv hK (at_P co_1) (ci := 10) (q0 := 0) rfl rfl, fun U hU hW => ⟨rfl, hU, jK_warm hW ⟨hK, hN⟩, by rw [hU]; exact ⟨hI, co_1⟩⟩⟩ rfl rfl hl.1 rfl (lv_room (Nat.le_of_ble_eq_true rfl)) dX10_waysTo_101 ⟨Nat.le_of_ble_eq_true rfl, Nat.le_of_ble_eq_true rfl⟩) hS (fun q _ h => h) (fun q h => h) (fun u t9 H locs ht hvm hw_37 hB hz1 hk1 hS => ?_)
            obtain ⟨-, hI, hf9⟩ := hB
            rw [ht] at hI hf9
            have hFz := (hf9 z9 (by rw [g_z]; rcases hcz with h9 | h9 <;> first | (simp [h9]; done) | (simp [Lc, h9]; done))).trans hFz
            clear ht hvm hz1
            have hFo := (hf9 o (by rw [g_o]; decide)).trans hFo
            have co_ch := fm_at hf9 g_ch (show (0 : Nat) ∉ ([238] : List Nat) by decide) co_ch
            have co_1 := fm_at hf9 g_a0 (show (10 : Nat) ∉ ([238] : List Nat) by decide) co_1
            clear hk1 hf9
            refine lv_iinc (v := kz (sa + 1)) (lv' := [(4, .int (kz (sa + 1))), (3, .int (kz mo)), (0, .ref a0), (1, .ref ch), (2, .int (kz kd))]) hx hb dX10_waysTo_104 hl (k := 0) rfl (kz_add sa 1) (by decide) rfl (fun ls hl => ?_)
            refine lv_goto (tgt := 86) hx hb dX10_waysTo_107 (by decide) ?_
            exact ihn_35 (n_35 - 1) (by omega) () (sa + 1) _ _ _ ⟨by omega, by omega, by omega, lv_sub hl [0, 1, 2, 3, 4] rfl, hI, hS, hFo, hFz, co_1, co_ch⟩
      · refine lv_aload_n hx hb dX10_waysTo_40 rfl (lv_at hl 1 rfl) ?_
        refine iz_get (D := (dC, dI)) (ci := 10) (v := .ref b_2) (C := RX10) (T := TX10) (N := 2) hx hb hts hinX10 hown hK co_1 rfl 1 (by decide) hL15 (fun _ h9 => h9) rfl dX10_waysTo_41 ?_
        refine lv_iload_n hx hb dX10_waysTo_44 rfl (lv_at hl 0 rfl) ?_
        obtain ⟨f_39, c_f_39, k_f_39⟩ := jv_q28 hI g_b_2
        refine jz_aald hx hb hK 8 c_f_39 rfl rfl (by omega) (by decide) dX10_waysTo_45 ?_
        obtain ⟨b_40, eb_40, g_b_40⟩ := k_f_39 (Int.toNat k) (by omega)
        rw [eb_40]
        have g_b_40 : X.1 b_40 = (238, 23, 240, 0, 0) := g_b_40
        refine W.eq (g2 := F0 m 46 ls [.ref b_40]) rfl ?_
        refine lv_lconst (v := 0) hx hb dX10_waysTo_46 (by decide) ?_
        refine va_callv (va_runS (As := [.ref b_40, .long 0]) (rest := []) ⟨hx, hb, hml, hown, hts⟩ (c_fill238 l dC dI ca A X hU H b_40 0 g_b_40) (va_cwS 2 hts gX10_waysTo_J7_fill_d0a16 rfl rfl rfl (by decide +kernel) ⟨Nat.le_of_ble_eq_true rfl, Nat.le_of_ble_eq_true rfl⟩) ⟨fun a U g mk q => by obtain ⟨q0, qH, ⟨qK, qN⟩, qI⟩ := q; exact ⟨q0, qH, ⟨va_K.moved (u := U) (U := U.calling g mk a) (Vm.Alike.refl U.vm) qK, jN_same (U := U.calling g mk a) rfl qN⟩, qI⟩, fun U hU hW => ⟨rfl, hU, jK_warm hW ⟨hK, hN⟩, by rw [hU]; exact hI⟩⟩ rfl rfl hl.1 rfl (lv_room (Nat.le_of_ble_eq_true rfl)) dX10_waysTo_47 ⟨Nat.le_of_ble_eq_true rfl, Nat.le_of_ble_eq_true rfl⟩) hS (fun q _ h => h) (fun q h => h) (fun u t9 H locs ht hvm hw_41 hB hz1 hk1 hS => ?_)
        obtain ⟨-, hI, hf9⟩ := hB
        rw [ht] at hI hf9
        have hFz := (hf9 z9 (by rw [g_z]; rcases hcz with h9 | h9 <;> first | (simp [h9]; done) | (simp [Lc, h9]; done))).trans hFz
        clear ht hvm hz1
        have hFo := (hf9 o (by rw [g_o]; decide)).trans hFo
        have co_ch := fm_at hf9 g_ch (show (0 : Nat) ∉ ([238] : List Nat) by decide) co_ch
        have co_1 := fm_at hf9 g_a0 (show (10 : Nat) ∉ ([238] : List Nat) by decide) co_1
        have c_f_39 := fm_at hf9 g_b_2 (show (237 : Nat) ∉ ([238] : List Nat) by decide) c_f_39
        clear hk1 hf9
        refine lv_aload_n hx hb dX10_waysTo_50 rfl (lv_at hl 1 rfl) ?_
        refine iz_get (D := (dC, dI)) (ci := 10) (v := .ref b_2) (C := RX10) (T := TX10) (N := 2) hx hb hts hinX10 hown hK co_1 rfl 1 (by decide) hL15 (fun _ h9 => h9) rfl dX10_waysTo_51 ?_
        refine lv_iload_n hx hb dX10_waysTo_54 rfl (lv_at hl 0 rfl) ?_
        refine jz_aald hx hb hK 8 c_f_39 rfl rfl (by omega) (by decide) dX10_waysTo_55 ?_
        rw [eb_40]
        refine W.eq (g2 := F0 m 56 ls [.ref b_40]) rfl ?_
        refine lv_aload_n hx hb dX10_waysTo_56 rfl (lv_at hl 2 rfl) ?_
        refine iz_get (D := (dC, dI)) (ci := 0) (v := .ref forms_ch) (C := RX0) (T := TX0) (N := 3) hx hb hts hinX0 hown hK co_ch rfl 0 (by decide) hL35 (fun _ h9 => h9) rfl dX10_waysTo_57 ?_
        refine lv_iload_n hx hb dX10_waysTo_60 rfl (lv_at hl 0 rfl) ?_
        obtain ⟨f_44, c_f_44, k_f_44⟩ := jv_q24 hI g_forms_ch
        refine jz_aald hx hb hK 4 c_f_44 rfl rfl (by omega) (by decide) dX10_waysTo_61 ?_
        obtain ⟨b_45, eb_45⟩ : ∃ b9 : Nat, f_44 (Int.toNat k) = some b9 := Option.ne_none_iff_exists'.mp ((k_f_44 (Int.toNat k) (by omega)).2 (by omega))
        have g_b_45 := (k_f_44 (Int.toNat k) (by omega)).1 b_45 eb_45
        rw [eb_45]
        refine W.eq (g2 := F0 m 62 ls [.ref b_45, .ref b_40]) rfl ?_
        obtain ⟨fs9, co_46, jo9⟩ := jv_o2 hI g_b_45
        obtain ⟨ln_46, letters_46, kind_46, stem_46, kept_46, cost_46, number_46, ends_46, begins_46, rfl, g_letters_46, ⟨kind_46a, kind_46b⟩, ⟨stem_46a, stem_46b⟩, ⟨kept_46a, kept_46b⟩, ⟨cost_46a, cost_46b⟩, ⟨number_46a, number_46b⟩, ⟨ends_46a, ends_46b⟩, ⟨begins_46a, begins_46b⟩, x_46_0, x_46_1, x_46_2, x_46_3⟩ := jo9
        refine iz_get (D := (dC, dI)) (ci := 2) (v := .int (kz kind_46)) (C := RX2) (T := TX2) (N := 8) hx hb hts hinX2 hown hK co_46 rfl 1 (by decide) hL39 (fun _ h9 => h9) rfl dX10_waysTo_62 ?_
        refine lv_lconst (v := 1) hx hb dX10_waysTo_65 (by decide) ?_
        obtain ⟨f_47, c_f_47⟩ := iv_o23 (jv_iv hI) g_b_40
        refine iz_last hx hb hK 3 c_f_47 hS (jv_A hI g_b_40 (show (23 : Nat) ≠ 0 by decide)) rfl (by omega) (by decide) dX10_waysTo_66 (fun H locs c9 oq hS => ?_)
        have hFz := (oq _ (kn_ne g_z g_b_40 (by first | (show cz ≠ (8 : Nat); omega) | (show cz ≠ (9 : Nat); omega) | (show cz ≠ (10 : Nat); omega) | (show cz ≠ (6 : Nat); omega) | (show cz ≠ (1 : Nat); omega) | (show cz ≠ (2 : Nat); omega) | (show cz ≠ (7 : Nat); omega) | (show cz ≠ (212 : Nat); omega) | (show cz ≠ (213 : Nat); omega) | (show cz ≠ (200 : Nat); omega) | (show cz ≠ (201 : Nat); omega) | (show cz ≠ (202 : Nat); omega) | (show cz ≠ (238 : Nat); omega) | (show cz ≠ (237 : Nat); omega) | (show cz ≠ (215 : Nat); omega) | (show cz ≠ (203 : Nat); omega) | (show cz ≠ (210 : Nat); omega) | (show cz ≠ (211 : Nat); omega) | (show cz ≠ (0 : Nat); omega)))).trans hFz
        have hI := jv_s23 hI g_b_40 c9 oq
        have c_f_39 := c_f_39.kept (oq _ (kn_ne g_b_2 g_b_40 (show (237 : Nat) ≠ 238 by decide)))
        have c_f_44 := c_f_44.kept (oq _ (kn_ne g_forms_ch g_b_40 (show (210 : Nat) ≠ 238 by decide)))
        have co_ch := co_ch.kept (oq _ (kn_ne g_ch g_b_40 (show (0 : Nat) ≠ 238 by decide)))
        have co_1 := co_1.kept (oq _ (kn_ne g_a0 g_b_40 (show (10 : Nat) ≠ 238 by decide)))
        have co_46 := co_46.kept (oq _ (kn_ne g_b_45 g_b_40 (show (2 : Nat) ≠ 238 by decide)))
        have hFo := (oq _ (kn_ne0 g_b_40 g_o0 (show (23 : Nat) ≠ 0 by decide)).symm).trans hFo
        clear oq c9
        refine lv_iinc (v := kz (k + 1)) (lv' := [(3, .int (kz (k + 1))), (0, .ref a0), (1, .ref ch), (2, .int (kz kd))]) hx hb dX10_waysTo_67 hl (k := 0) rfl (kz_add k 1) (by decide) rfl (fun ls hl => ?_)
        refine lv_goto (tgt := 32) hx hb dX10_waysTo_70 (by decide) ?_
        exact ihn_27 (n_27 - 1) (by omega) () (k + 1) _ _ _ ⟨by omega, by omega, by omega, lv_sub hl [0, 1, 2, 3] rfl, hI, hS, hFo, hFz, co_1, co_ch⟩
    · refine lv_lconst (v := 0) hx hb dX10_waysTo_28 (by decide) ?_
      refine W.widen (k := 41) (n := 9640) (Nat.le_of_ble_eq_true rfl) (Nat.le_of_ble_eq_true rfl) ?_
      exact W.lret (v := 0) hx hb hr (fun t9 ht hW => ⟨⟨0, X, rfl, hP, jK_warm hW ⟨hK, hN⟩, by rw [ht]; exact ⟨hI, hFo, hFz⟩⟩, hS.F ht⟩) hS.2.2 dX10_waysTo_29
set_option maxHeartbeats 4000000 in
set_option maxRecDepth 100000 in
theorem j_treesZ (l : Launch) (dC : Nat → ClassId) (dI : Nat → Nat → Nat) (ca : Nat → ClassId) (A : Nat → Prop) (X : jG) (hU : jU X) (Hp : Heap) (z9 cz kdz nz : Nat) (loz hiz : Int) (g_z : X.1 z9 = (cz, kdz, nz, loz, hiz)) (hcz : cz = 214 ∨ cz = 229) (hkz : kdz ≠ 0) (o : Nat) (j_tape : Nat) (j_tongue : Nat) (j_row : Nat) (j_trees : Nat) (j_choices : Nat) (pv : Option Nat) (st : Int) (k : Int) (kd : Int) (g_o : X.1 o = (999, 0, 0, 0, 0)) (hAo : A o) (g_j_tape : X.1 j_tape = (8, 30, 0, 0, 0)) (g_j_tongue : X.1 j_tongue = (9, 30, 0, 0, 0)) (g_j_row : X.1 j_row = (6, 30, 0, 0, 0)) (g_j_trees : X.1 j_trees = (10, 30, 0, 0, 0)) (g_j_choices : X.1 j_choices = (1, 30, 0, 0, 0)) (hpv : ∀ b : Nat, pv = some b → X.1 b = (4, 30, 0, 0, 0)) (hst : 0 ≤ st ∧ st ≤ 20) (kr : -2147483648 ≤ k ∧ k ≤ 2147483647) (kdr : -2147483648 ≤ kd ∧ kd ≤ 2147483647) (hA9 : ∀ q : Nat, Hp.size ≤ q → A q) : Met l yX11_trees wsX11_trees ({ frames := 6, cells := 41, slots := 9640, locals := 142 }) (va_Pc [.ref o, .int (kz k), .int (kz kd)] (fun U => U.heap = Hp ∧ jK (dC, dI) ca U ∧ jv (dC, dI) ca A X U.heap ∧ va_at (dC, dI) vwCl (o, .inr (11, [.ref j_tape, .ref j_tongue, .ref j_row, .ref j_trees, .ref j_choices, va_rf pv, .int (kz st)])) U.heap)) (va_Ql (fun (r : Int64) (u : jG × Int) => prl X u.1 o [2, 201, 7, 202, 237, 238] ∧ u.2 = st) (fun (u : jG × Int) U => jK (dC, dI) ca U ∧ jv (dC, dI) ca A u.1 U.heap ∧ va_at (dC, dI) vwCl (o, .inr (11, [.ref j_tape, .ref j_tongue, .ref j_row, .ref j_trees, .ref j_choices, va_rf pv, .int (kz u.2)])) U.heap ∧ U.heap[z9]? = Hp[z9]?) A) 41 9640 A := by
  refine Met.ofW (cc := cX11_trees) (maxL := 4) (ret := (some .long)) (by decide) rfl ?_
  intro p e s m args below meth c s₁ B hml hv
  obtain ⟨rfl, hHp, ⟨hK, hN⟩, hI, hO⟩ := hv
  have hx := B.exec
  have hb := B.bytes
  have hr := B.returns
  have hts := atoms_spec (ws := wsX11_trees) B.pre
  have hown : s.vm.findClass RX11 = some m.cls := findClass_of_methodNamed B.named
  have hL33 := hts (.fieldLink RX11 33 "JoinBench" "trees" "LJoinBench$Trees;") (by decide +kernel)
  have hL212 := hts (.fieldLink RX11 212 "JoinBench$Path" "chain" "LJoinBench$Chain;") (by decide +kernel)
  have hinX11 : ∀ w ∈ u_ws RX11 TX11 7, w ∈ wsX11_trees := by decide +kernel
  have hinX5 : ∀ w ∈ u_ws RX5 TX5 6, w ∈ wsX11_trees := by decide +kernel
  obtain ⟨H, hH⟩ : ∃ H : Heap, H = s.heap := ⟨_, rfl⟩
  have hS : va_S A s.heap H [] := by rw [hH]; exact va_S.rf
  have hF : kfm X [] Hp H := by rw [hH, hHp]; exact fm_rf _ _ _
  clear hF
  obtain ⟨n0, hn0⟩ : ∃ n9 : Nat, n9 = Hp.size := ⟨_, rfl⟩
  have hA : ∀ q : Nat, n0 ≤ q → A q := by rw [hn0]; exact hA9
  have hsz : s.heap.size = n0 := by rw [hn0, hHp]
  have hP := prl_rf o [2, 201, 7, 202, 237, 238] hU
  have hFz : H[z9]? = Hp[z9]? := by rw [hH, hHp]
  rw [← hH] at hI hO ⊢
  clear hH
  have hl := lv_entry ([.ref o, .int (kz k), .int (kz kd)]) (n := 4) (Nat.le_of_ble_eq_true rfl)
  rw [lg_entry_eq]
  generalize (lg_sl ([.ref o, .int (kz k), .int (kz kd)]) ++ List.replicate (4 - (lg_sl ([.ref o, .int (kz k), .int (kz kd)])).length) Slot.unset).toArray = ls at hl ⊢
  have hl : lv_has ls 4 [(0, .ref o), (1, .int (kz k)), (2, .int (kz kd))] := hl
  refine lv_aload_n hx hb dX11_trees_0 rfl (lv_at hl 0 rfl) ?_
  refine lv_iload_n hx hb dX11_trees_1 rfl (lv_at hl 1 rfl) ?_
  refine va_csq (va_Run.run (va_runV (As := [.int (kz k)]) (rest := []) ⟨hx, hb, hml, hown, hts⟩ (j_toldPath l dC dI ca A X hU o j_tape j_tongue j_row j_trees j_choices pv st k g_o hAo g_j_tape g_j_tongue g_j_row g_j_trees g_j_choices hpv (by omega) (by omega)) (cwV 1 hts gX11_trees_X11_toldPath rfl rfl rfl (by decide +kernel) ⟨Nat.le_of_ble_eq_true rfl, Nat.le_of_ble_eq_true rfl⟩) ⟨fun a U g mk q => by obtain ⟨q0, ⟨qK, qN⟩, qI⟩ := q; exact ⟨q0, ⟨va_K.moved (u := U) (U := U.calling g mk a) (Vm.Alike.refl U.vm) qK, jN_same (U := U.calling g mk a) rfl qN⟩, qI⟩, va_recv hK (at_P hO) (ci := 11) (q0 := 0) rfl rfl, fun U hU hW => ⟨rfl, jK_warm hW ⟨hK, hN⟩, by rw [hU]; exact ⟨hI, hO⟩⟩⟩ rfl rfl hl.1 rfl (lv_room (Nat.le_of_ble_eq_true rfl)) dX11_trees_2 ⟨Nat.le_of_ble_eq_true rfl, Nat.le_of_ble_eq_true rfl⟩)) (fun r_2 hw_1 => ?_)
  rcases r_2 with _ | b_3
  · refine W.eq (g2 := F0 m 5 ls [.null]) rfl ?_
    refine lv_astore_nN (lv' := [(3, .null), (0, .ref o), (1, .int (kz k)), (2, .int (kz kd))]) hx hb dX11_trees_5 rfl hl (by decide) rfl (fun ls hl => ?_)
    refine lv_aload_nN hx hb dX11_trees_6 rfl (lv_at hl 0 rfl) ?_
    refine lv_ifnullN (tgt := 17) hx hb dX11_trees_7 (by decide) ?_
    refine lv_ldc2 (own := RX11) (v := (-1)) hx hb hown (hts (.constantLong RX11 174 (-1)) (by decide +kernel)) dX11_trees_17 ?_
    refine W.widen (k := 41) (n := 9640) (Nat.le_of_ble_eq_true rfl) (Nat.le_of_ble_eq_true rfl) ?_
    exact W.lret (v := (-1)) hx hb hr (fun t9 ht hW => ⟨⟨(-1), (X, st), rfl, ⟨hP, rfl⟩, jK_warm hW ⟨hK, hN⟩, by rw [ht]; exact ⟨hI, hO, hFz⟩⟩, hS.F ht⟩) hS.2.2 dX11_trees_20
  · obtain ⟨i_b_3, g_b_3⟩ := hw_1 b_3 rfl
    refine W.eq (g2 := F0 m 5 ls [.ref b_3]) rfl ?_
    refine lv_astore_n (lv' := [(3, .ref b_3), (0, .ref o), (1, .int (kz k)), (2, .int (kz kd))]) hx hb dX11_trees_5 rfl hl (by decide) rfl (fun ls hl => ?_)
    refine lv_aload_n hx hb dX11_trees_6 rfl (lv_at hl 0 rfl) ?_
    refine lv_ifnull hx hb dX11_trees_7 ?_
    refine lv_iload_n hx hb dX11_trees_10 rfl (lv_at hl 3 rfl) ?_
    refine vp_callSi (va_Run.run (va_runS (As := [.int (kz kd)]) (rest := []) ⟨hx, hb, hml, hown, hts⟩ (c_isKind l kd (by omega)) (va_cwS 1 hts gX11_trees_X11_isKind rfl rfl rfl (by decide +kernel) ⟨Nat.le_of_ble_eq_true rfl, Nat.le_of_ble_eq_true rfl⟩) ⟨fun a U g mk q => q, fun U hU hW => ⟨rfl, trivial⟩⟩ rfl rfl hl.1 rfl (lv_room (Nat.le_of_ble_eq_true rfl)) dX11_trees_11 ⟨Nat.le_of_ble_eq_true rfl, Nat.le_of_ble_eq_true rfl⟩)) (fun r_5 hw_4 => ?_)
    rcases hw_4 with ⟨rfl, hw_4⟩ | ⟨rfl, hw_4⟩
    · refine iz_nez (tgt := 21) hx hb dX11_trees_14 (by decide) (by unfold rg2; omega) (fun _ => ?_) (fun q9 => absurd q9 (by decide))
      refine lv_aload_n hx hb dX11_trees_21 rfl (lv_at hl 1 rfl) ?_
      refine iz_get (D := (dC, dI)) (ci := 11) (v := .ref j_trees) (C := RX11) (T := TX11) (N := 7) hx hb hts hinX11 hown hK hO rfl 3 (by decide) hL33 (fun _ h9 => h9) rfl dX11_trees_22 ?_
      refine lv_aload_n hx hb dX11_trees_25 rfl (lv_at hl 0 rfl) ?_
      obtain ⟨fs9, co_6, jo9⟩ := jv_o5 hI g_b_3
      obtain ⟨chain_6, cost_6, spent_6, place_6, ended_6, rank_6, rfl, g_chain_6, ⟨cost_6a, cost_6b⟩, ⟨spent_6a, spent_6b⟩, ⟨place_6a, place_6b⟩, ⟨ended_6a, ended_6b⟩, ⟨rank_6a, rank_6b⟩⟩ := jo9
      refine iz_get (D := (dC, dI)) (ci := 5) (v := .ref chain_6) (C := RX5) (T := TX5) (N := 6) hx hb hts hinX5 hown hK co_6 rfl 0 (by decide) hL212 (fun _ h9 => h9) rfl dX11_trees_26 ?_
      refine lv_iload_n hx hb dX11_trees_29 rfl (lv_at hl 3 rfl) ?_
      obtain ⟨fs9, co_7, jo9⟩ := jv_o10 hI g_j_trees
      obtain ⟨kinds_7, ways_7, rfl, g_kinds_7, q_ways_7⟩ := jo9
      have hzH : n0 ≤ H.size := by have h8 := hS.1; omega
      have h9o := hO.lt
      obtain ⟨fs9, co_8, jo9⟩ := jv_o0 hI g_chain_6
      obtain ⟨forms_8, rules_8, size_8, rfl, g_forms_8, g_rules_8, ⟨size_8a, size_8b⟩, x_8_0⟩ := jo9
      refine va_calll (va_runV (As := [.ref chain_6, .int (kz kd)]) (rest := []) ⟨hx, hb, hml, hown, hts⟩ (c_waysToZ l dC dI ca A X hU H z9 cz kdz nz loz hiz g_z hcz hkz j_trees chain_6 kd i_b_3 o forms_8 rules_8 size_8 g_j_trees g_chain_6 g_forms_8 g_rules_8 (by omega) x_8_0 (by omega) (fun q h8 => hA q (Nat.le_trans hzH h8)) g_o h9o) (cwV 2 hts gX11_trees_X10_waysTo rfl rfl rfl (by decide +kernel) ⟨Nat.le_of_ble_eq_true rfl, Nat.le_of_ble_eq_true rfl⟩) ⟨fun a U g mk q => by obtain ⟨q0, qH, ⟨qK, qN⟩, qI⟩ := q; exact ⟨q0, qH, ⟨va_K.moved (u := U) (U := U.calling g mk a) (Vm.Alike.refl U.vm) qK, jN_same (U := U.calling g mk a) rfl qN⟩, qI⟩, va_recv hK (at_P co_7) (ci := 10) (q0 := 0) rfl rfl, fun U hU9 hW => ⟨rfl, hU9, jK_warm hW ⟨hK, hN⟩, by rw [hU9]; exact ⟨hI, co_8⟩⟩⟩ rfl rfl hl.1 rfl (lv_room (Nat.le_of_ble_eq_true rfl)) dX11_trees_30 ⟨Nat.le_of_ble_eq_true rfl, Nat.le_of_ble_eq_true rfl⟩) hS (fun q _ h => h) (fun q h => h) (fun y_10 X t9 H locs ht hvm hw_9 hB hz1 hk1 hS => ?_)
      obtain ⟨-, hI, hFo, hfz9⟩ := hB
      rw [ht] at hI hFo hfz9
      have hFz := hfz9.trans hFz
      clear ht hvm hz1 hk1
      have hO := hO.kept hFo
      have hP := prl_tr hP hw_9
      refine W.widen (k := 41) (n := 9640) (Nat.le_of_ble_eq_true rfl) (Nat.le_of_ble_eq_true rfl) ?_
      exact W.lret (v := y_10) hx hb hr (fun t9 ht hW => ⟨⟨y_10, (X, st), rfl, ⟨hP, rfl⟩, jK_warm hW ⟨hK, hN⟩, by rw [ht]; exact ⟨hI, hO, hFz⟩⟩, hS.F ht⟩) hS.2.2 dX11_trees_33
    · refine iz_nez (tgt := 21) hx hb dX11_trees_14 (by decide) (by unfold rg2; omega) (fun q9 => absurd q9 (by decide)) (fun _ => ?_)
      refine lv_ldc2 (own := RX11) (v := (-1)) hx hb hown (hts (.constantLong RX11 174 (-1)) (by decide +kernel)) dX11_trees_17 ?_
      refine W.widen (k := 41) (n := 9640) (Nat.le_of_ble_eq_true rfl) (Nat.le_of_ble_eq_true rfl) ?_
      exact W.lret (v := (-1)) hx hb hr (fun t9 ht hW => ⟨⟨(-1), (X, st), rfl, ⟨hP, rfl⟩, jK_warm hW ⟨hK, hN⟩, by rw [ht]; exact ⟨hI, hO, hFz⟩⟩, hS.F ht⟩) hS.2.2 dX11_trees_20
set_option maxHeartbeats 4000000 in
set_option maxRecDepth 100000 in
theorem j_partSZ (l : Launch) (dC : Nat → ClassId) (dI : Nat → Nat → Nat) (ca : Nat → ClassId) (A : Nat → Prop) (X : jG) (hU : jU X) (Hp : Heap) (z9 cz kdz nz : Nat) (loz hiz : Int) (g_z : X.1 z9 = (cz, kdz, nz, loz, hiz)) (hcz : cz = 214 ∨ cz = 229) (hkz : kdz ≠ 0) (o : Nat) (j_tape : Nat) (j_tongue : Nat) (j_row : Nat) (j_trees : Nat) (j_choices : Nat) (pb : Nat) (st : Int) (day : Int) (g_o : X.1 o = (999, 0, 0, 0, 0)) (hAo : A o) (g_j_tape : X.1 j_tape = (8, 30, 0, 0, 0)) (g_j_tongue : X.1 j_tongue = (9, 30, 0, 0, 0)) (g_j_row : X.1 j_row = (6, 30, 0, 0, 0)) (g_j_trees : X.1 j_trees = (10, 30, 0, 0, 0)) (g_j_choices : X.1 j_choices = (1, 30, 0, 0, 0)) (g_pb : X.1 pb = (4, 30, 0, 0, 0)) (hst : 0 ≤ st ∧ st ≤ 20) (dayr : -2147483648 ≤ day ∧ day ≤ 2147483647) (hA9 : ∀ q : Nat, Hp.size ≤ q → A q) : Met l yX11_part wsX11_part ({ frames := 7, cells := 0, slots := 0, locals := 164 }) (va_Pc [.ref o, .int (kz day)] (fun U => U.heap = Hp ∧ jK (dC, dI) ca U ∧ jv (dC, dI) ca A X U.heap ∧ va_at (dC, dI) vwCl (o, .inr (11, [.ref j_tape, .ref j_tongue, .ref j_row, .ref j_trees, .ref j_choices, va_rf (some pb), .int (kz st)])) U.heap)) (va_Ql (fun (r : Int64) (u : jG × Int) => prl X u.1 o [2, 201, 7, 202, 237, 238] ∧ u.2 = st) (fun (u : jG × Int) U => jK (dC, dI) ca U ∧ jv (dC, dI) ca A u.1 U.heap ∧ va_at (dC, dI) vwCl (o, .inr (11, [.ref j_tape, .ref j_tongue, .ref j_row, .ref j_trees, .ref j_choices, va_rf (some pb), .int (kz u.2)])) U.heap ∧ U.heap[z9]? = Hp[z9]?) A) 0 0 A := by
  refine Met.ofW (cc := cX11_part) (maxL := 4) (ret := (some .long)) (by decide) rfl ?_
  intro p e s m args below meth c s₁ B hml hv
  obtain ⟨rfl, hHp, ⟨hK, hN⟩, hI, hO⟩ := hv
  have hx := B.exec
  have hb := B.bytes
  have hr := B.returns
  have hts := atoms_spec (ws := wsX11_part) B.pre
  have hown : s.vm.findClass RX11 = some m.cls := findClass_of_methodNamed B.named
  have hL12 := hts (.fieldLink RX11 12 "JoinBench" "tape" "LJoinBench$Tape;") (by decide +kernel)
  have hL60 := hts (.fieldLink RX11 60 "JoinBench$Tape" "size" "I") (by decide +kernel)
  have hL44 := hts (.fieldLink RX11 44 "JoinBench" "parter" "LJoinBench$Parter;") (by decide +kernel)
  have hL19 := hts (.fieldLink RX11 19 "JoinBench" "tongue" "LJoinBench$Tongue;") (by decide +kernel)
  have hL181 := hts (.fieldLink RX11 181 "JoinBench$Tape" "bytes" "[B") (by decide +kernel)
  have hL191 := hts (.fieldLink RX11 191 "JoinBench$Parter" "counted" "J") (by decide +kernel)
  have hinX11 : ∀ w ∈ u_ws RX11 TX11 7, w ∈ wsX11_part := by decide +kernel
  have hinX4 : ∀ w ∈ u_ws RX4 TX4 10, w ∈ wsX11_part := by decide +kernel
  have hinX8 : ∀ w ∈ u_ws RX8 TX8 2, w ∈ wsX11_part := by decide +kernel
  obtain ⟨H, hH⟩ : ∃ H : Heap, H = s.heap := ⟨_, rfl⟩
  have hS : va_S A s.heap H [] := by rw [hH]; exact va_S.rf
  have hF : kfm X [3, 4, 204, 220, 225, 232, 233, 234, 235, 236] Hp H := by rw [hH, hHp]; exact fm_rf _ _ _
  clear hF
  obtain ⟨n0, hn0⟩ : ∃ n9 : Nat, n9 = Hp.size := ⟨_, rfl⟩
  have hA : ∀ q : Nat, n0 ≤ q → A q := by rw [hn0]; exact hA9
  have hsz : s.heap.size = n0 := by rw [hn0, hHp]
  have hP := prl_rf o [2, 201, 7, 202, 237, 238] hU
  have hFz : H[z9]? = Hp[z9]? := by rw [hH, hHp]
  rw [← hH] at hI hO ⊢
  clear hH
  have hl := lv_entry ([.ref o, .int (kz day)]) (n := 4) (Nat.le_of_ble_eq_true rfl)
  rw [lg_entry_eq]
  generalize (lg_sl ([.ref o, .int (kz day)]) ++ List.replicate (4 - (lg_sl ([.ref o, .int (kz day)])).length) Slot.unset).toArray = ls at hl ⊢
  have hl : lv_has ls 4 [(0, .ref o), (1, .int (kz day))] := hl
  refine lv_aload_n hx hb dX11_part_0 rfl (lv_at hl 0 rfl) ?_
  refine iz_get (D := (dC, dI)) (ci := 11) (v := .ref j_tape) (C := RX11) (T := TX11) (N := 7) hx hb hts hinX11 hown hK hO rfl 0 (by decide) hL12 (fun _ h9 => h9) rfl dX11_part_1 ?_
  obtain ⟨fs9, co_1, jo9⟩ := jv_o8 hI g_j_tape
  obtain ⟨bytes_1, size_1, rfl, g_bytes_1, ⟨size_1a, size_1b⟩⟩ := jo9
  refine iz_get (D := (dC, dI)) (ci := 8) (v := .int (kz size_1)) (C := RX8) (T := TX8) (N := 2) hx hb hts hinX8 hown hK co_1 rfl 1 (by decide) hL60 (fun _ h9 => h9) rfl dX11_part_4 ?_
  refine lv_iconst (v := kz 1) hx hb dX11_part_7 rfl ?_
  refine lv_bipush (v := kz 40) hx hb dX11_part_8 (by decide) ?_
  refine vp_callSi (va_Run.run (va_runS (As := [.int (kz size_1), .int (kz 1), .int (kz 40)]) (rest := []) ⟨hx, hb, hml, hown, hts⟩ (c_within l size_1 1 40 (by omega) (by omega) (by omega)) (va_cwS 3 hts gX11_part_X11_within rfl rfl rfl (by decide +kernel) ⟨Nat.le_of_ble_eq_true rfl, Nat.le_of_ble_eq_true rfl⟩) ⟨fun a U g mk q => q, fun U hU hW => ⟨rfl, trivial⟩⟩ rfl rfl hl.1 rfl (lv_room (Nat.le_of_ble_eq_true rfl)) dX11_part_10 ⟨Nat.le_of_ble_eq_true rfl, Nat.le_of_ble_eq_true rfl⟩)) (fun r_3 hw_2 => ?_)
  rcases hw_2 with ⟨rfl, hw_2⟩ | ⟨rfl, hw_2⟩
  · refine iz_eqz (tgt := 37) hx hb dX11_part_13 (by decide) (by unfold rg2; omega) (fun q9 => absurd q9 (by decide)) (fun _ => ?_)
    refine lv_aload_n hx hb dX11_part_16 rfl (lv_at hl 0 rfl) ?_
    refine iz_get (D := (dC, dI)) (ci := 11) (v := .ref j_tape) (C := RX11) (T := TX11) (N := 7) hx hb hts hinX11 hown hK hO rfl 0 (by decide) hL12 (fun _ h9 => h9) rfl dX11_part_17 ?_
    refine vp_callSi (va_Run.run (va_runV (As := []) (rest := []) ⟨hx, hb, hml, hown, hts⟩ (c_hasOnlyLetters l dC dI ca A X hU j_tape g_j_tape) (cwV 0 hts gX11_part_X8_hasOnlyLetters rfl rfl rfl (by decide +kernel) ⟨Nat.le_of_ble_eq_true rfl, Nat.le_of_ble_eq_true rfl⟩) ⟨fun a U g mk q => by obtain ⟨q0, ⟨qK, qN⟩, qI⟩ := q; exact ⟨q0, ⟨va_K.moved (u := U) (U := U.calling g mk a) (Vm.Alike.refl U.vm) qK, jN_same (U := U.calling g mk a) rfl qN⟩, qI⟩, va_recv hK (at_P co_1) (ci := 8) (q0 := 0) rfl rfl, fun U hU hW => ⟨rfl, jK_warm hW ⟨hK, hN⟩, by rw [hU]; exact hI⟩⟩ rfl rfl hl.1 rfl (lv_room (Nat.le_of_ble_eq_true rfl)) dX11_part_20 ⟨Nat.le_of_ble_eq_true rfl, Nat.le_of_ble_eq_true rfl⟩)) (fun r_5 hw_4 => ?_)
    rcases hw_4 with rfl | rfl
    · refine iz_eqz (tgt := 37) hx hb dX11_part_23 (by decide) (by unfold rg2; omega) (fun q9 => absurd q9 (by decide)) (fun _ => ?_)
      refine lv_iload_n hx hb dX11_part_26 rfl (lv_at hl 1 rfl) ?_
      refine vp_callSi (va_Run.run (va_runS (As := [.int (kz day)]) (rest := []) ⟨hx, hb, hml, hown, hts⟩ (c_isDay l day (by omega)) (va_cwS 1 hts gX11_part_X11_isDay rfl rfl rfl (by decide +kernel) ⟨Nat.le_of_ble_eq_true rfl, Nat.le_of_ble_eq_true rfl⟩) ⟨fun a U g mk q => q, fun U hU hW => ⟨rfl, trivial⟩⟩ rfl rfl hl.1 rfl (lv_room (Nat.le_of_ble_eq_true rfl)) dX11_part_27 ⟨Nat.le_of_ble_eq_true rfl, Nat.le_of_ble_eq_true rfl⟩)) (fun r_7 hw_6 => ?_)
      rcases hw_6 with ⟨rfl, hw_6⟩ | ⟨rfl, hw_6⟩
      · refine iz_eqz (tgt := 37) hx hb dX11_part_30 (by decide) (by unfold rg2; omega) (fun q9 => absurd q9 (by decide)) (fun _ => ?_)
        refine lv_iconst (v := kz 1) hx hb dX11_part_33 rfl ?_
        refine lv_goto (tgt := 38) hx hb dX11_part_34 (by decide) ?_
        refine lv_istore_n (lv' := [(2, .int (kz 1)), (0, .ref o), (1, .int (kz day))]) hx hb dX11_part_38 rfl hl (by decide) rfl (fun ls hl => ?_)
        refine lv_aload_n hx hb dX11_part_39 rfl (lv_at hl 1 rfl) ?_
        refine iz_get (D := (dC, dI)) (ci := 11) (v := .ref j_tape) (C := RX11) (T := TX11) (N := 7) hx hb hts hinX11 hown hK hO rfl 0 (by decide) hL12 (fun _ h9 => h9) rfl dX11_part_40 ?_
        refine iz_get (D := (dC, dI)) (ci := 8) (v := .int (kz size_1)) (C := RX8) (T := TX8) (N := 2) hx hb hts hinX8 hown hK co_1 rfl 1 (by decide) hL60 (fun _ h9 => h9) rfl dX11_part_43 ?_
        refine lv_istore_n (lv' := [(3, .int (kz size_1)), (2, .int (kz 1)), (0, .ref o), (1, .int (kz day))]) hx hb dX11_part_46 rfl hl (by decide) rfl (fun ls hl => ?_)
        refine lv_aload_n hx hb dX11_part_47 rfl (lv_at hl 2 rfl) ?_
        refine iz_get (D := (dC, dI)) (ci := 11) (v := .ref j_tape) (C := RX11) (T := TX11) (N := 7) hx hb hts hinX11 hown hK hO rfl 0 (by decide) hL12 (fun _ h9 => h9) rfl dX11_part_48 ?_
        refine lv_iconst (v := kz 0) hx hb dX11_part_51 rfl ?_
        refine iz_put (D := (dC, dI)) (ci := 8) (v := .int (kz 0)) (ty := .int) (C := RX8) (T := TX8) (N := 2) hx hb hts hinX8 tyX8 tyX8_ok nmX8 hown hK co_1 hS (jv_A hI g_j_tape (show (30 : Nat) ≠ 0 by decide)) rfl 1 (by decide) hL60 (fun _ h9 => h9) rfl (by decide +kernel) rfl rfl (Nat.le_of_ble_eq_true rfl) dX11_part_52 (fun H locs c9 oq hS => ?_)
        have hFz := (oq _ (kn_ne g_z g_j_tape (by first | (show cz ≠ (8 : Nat); omega) | (show cz ≠ (9 : Nat); omega) | (show cz ≠ (10 : Nat); omega) | (show cz ≠ (6 : Nat); omega) | (show cz ≠ (1 : Nat); omega) | (show cz ≠ (2 : Nat); omega) | (show cz ≠ (7 : Nat); omega) | (show cz ≠ (212 : Nat); omega) | (show cz ≠ (213 : Nat); omega) | (show cz ≠ (200 : Nat); omega) | (show cz ≠ (201 : Nat); omega) | (show cz ≠ (202 : Nat); omega) | (show cz ≠ (238 : Nat); omega) | (show cz ≠ (237 : Nat); omega) | (show cz ≠ (215 : Nat); omega) | (show cz ≠ (203 : Nat); omega) | (show cz ≠ (210 : Nat); omega) | (show cz ≠ (211 : Nat); omega) | (show cz ≠ (0 : Nat); omega)))).trans hFz
        have hI := jv_set hI c9 oq (by rw [g_j_tape]; exact jv_c8 ⟨bytes_1, 0, rfl, g_bytes_1, ⟨by omega, by omega⟩⟩)
        have hO := hO.kept (oq _ (kn_ne g_o g_j_tape (show (999 : Nat) ≠ 8 by decide)))
        have co_1 := c9
        clear oq c9
        refine lv_iload_n hx hb dX11_part_55 rfl (lv_at hl 1 rfl) ?_
        refine iz_nez (tgt := 63) hx hb dX11_part_56 (by decide) (by unfold rg2; omega) (fun _ => ?_) (fun q9 => absurd q9 (by decide))
        refine lv_aload_n hx hb dX11_part_63 rfl (lv_at hl 2 rfl) ?_
        refine iz_get (D := (dC, dI)) (ci := 11) (v := .ref pb) (C := RX11) (T := TX11) (N := 7) hx hb hts hinX11 hown hK hO rfl 5 (by decide) hL44 (fun _ h9 => h9) rfl dX11_part_64 ?_
        refine lv_ifnonnull (tgt := 85) hx hb dX11_part_67 (by decide) ?_
        refine lv_aload_n hx hb dX11_part_85 rfl (lv_at hl 2 rfl) ?_
        refine iz_get (D := (dC, dI)) (ci := 11) (v := .ref pb) (C := RX11) (T := TX11) (N := 7) hx hb hts hinX11 hown hK hO rfl 5 (by decide) hL44 (fun _ h9 => h9) rfl dX11_part_86 ?_
        refine lv_aload_n hx hb dX11_part_89 rfl (lv_at hl 2 rfl) ?_
        refine iz_get (D := (dC, dI)) (ci := 11) (v := .ref j_tape) (C := RX11) (T := TX11) (N := 7) hx hb hts hinX11 hown hK hO rfl 0 (by decide) hL12 (fun _ h9 => h9) rfl dX11_part_90 ?_
        refine iz_get (D := (dC, dI)) (ci := 8) (v := .ref bytes_1) (C := RX8) (T := TX8) (N := 2) hx hb hts hinX8 hown hK co_1 rfl 0 (by decide) hL181 (fun _ h9 => h9) rfl dX11_part_93 ?_
        refine lv_iload_n hx hb dX11_part_96 rfl (lv_at hl 0 rfl) ?_
        refine lv_iload_n hx hb dX11_part_97 rfl (lv_at hl 3 rfl) ?_
        obtain ⟨fs9, co_8, jo9⟩ := jv_o4 hI g_pb
        obtain ⟨pp_8, countedUncut_8, counted_8, left_8, told_8, toldCount_8, grown_8, keys_8, keyCount_8, tongue_8, lattice_8, rfl, ⟨left_8a, left_8b⟩, g_told_8, ⟨toldCount_8a, toldCount_8b⟩, g_grown_8, g_keys_8, ⟨keyCount_8a, keyCount_8b⟩, g_tongue_8, g_lattice_8, x_8_0, x_8_1⟩ := jo9
        have e9 : j_tongue = tongue_8 := jU_eq hU g_j_tongue g_tongue_8 (show (30 : Nat) ≠ 0 by decide) (show uq 9 = true by decide)
        subst e9
        refine va_callv (va_runV (As := [.ref bytes_1, .int (kz size_1), .int (kz day)]) (rest := []) ⟨hx, hb, hml, hown, hts⟩ (c_countLine l dC dI ca A X hU H pb bytes_1 size_1 day g_pb g_bytes_1 (by omega) (by omega)) (cwV 3 hts gX11_part_X4_countLine rfl rfl rfl (by decide +kernel) ⟨Nat.le_of_ble_eq_true rfl, Nat.le_of_ble_eq_true rfl⟩) ⟨fun a U g mk q => by obtain ⟨q0, qH, ⟨qK, qN⟩, qI⟩ := q; exact ⟨q0, qH, ⟨va_K.moved (u := U) (U := U.calling g mk a) (Vm.Alike.refl U.vm) qK, jN_same (U := U.calling g mk a) rfl qN⟩, qI⟩, va_recv hK (at_P co_8) (ci := 4) (q0 := 0) rfl rfl, fun U hU hW => ⟨rfl, hU, jK_warm hW ⟨hK, hN⟩, by rw [hU]; exact hI⟩⟩ rfl rfl hl.1 rfl (lv_room (Nat.le_of_ble_eq_true rfl)) dX11_part_98 ⟨Nat.le_of_ble_eq_true rfl, Nat.le_of_ble_eq_true rfl⟩) hS (fun q _ h => h) (fun q h => h) (fun u t9 H locs ht hvm hw_9 hB hz1 hk1 hS => ?_)
        obtain ⟨-, hI, hf9⟩ := hB
        rw [ht] at hI hf9
        have hFz := (hf9 z9 (by rw [g_z]; rcases hcz with h9 | h9 <;> first | (simp [h9]; done) | (simp [Lc, h9]; done))).trans hFz
        clear ht hvm hz1
        have hO := fm_at hf9 g_o (show (999 : Nat) ∉ ([3, 4, 204, 220, 225, 232, 233, 234, 235, 236] : List Nat) by decide) hO
        have co_1 := fm_at hf9 g_j_tape (show (8 : Nat) ∉ ([3, 4, 204, 220, 225, 232, 233, 234, 235, 236] : List Nat) by decide) co_1
        clear hk1 hf9
        refine lv_aload_n hx hb dX11_part_101 rfl (lv_at hl 2 rfl) ?_
        refine iz_get (D := (dC, dI)) (ci := 11) (v := .ref pb) (C := RX11) (T := TX11) (N := 7) hx hb hts hinX11 hown hK hO rfl 5 (by decide) hL44 (fun _ h9 => h9) rfl dX11_part_102 ?_
        obtain ⟨fs9, co_11, jo9⟩ := jv_o4 hI g_pb
        obtain ⟨pp_11, countedUncut_11, counted_11, left_11, told_11, toldCount_11, grown_11, keys_11, keyCount_11, tongue_11, lattice_11, rfl, ⟨left_11a, left_11b⟩, g_told_11, ⟨toldCount_11a, toldCount_11b⟩, g_grown_11, g_keys_11, ⟨keyCount_11a, keyCount_11b⟩, g_tongue_11, g_lattice_11, x_11_0, x_11_1⟩ := jo9
        have e9 : keys_8 = keys_11 := jU_eq hU g_keys_8 g_keys_11 (show (20 : Nat) ≠ 0 by decide) (show uq 228 = true by decide)
        subst e9
        have e9 : j_tongue = tongue_11 := jU_eq hU g_j_tongue g_tongue_11 (show (30 : Nat) ≠ 0 by decide) (show uq 9 = true by decide)
        subst e9
        have e9 : lattice_8 = lattice_11 := jU_eq hU g_lattice_8 g_lattice_11 (show (30 : Nat) ≠ 0 by decide) (show uq 3 = true by decide)
        subst e9
        refine va_callv (va_runV (As := []) (rest := []) ⟨hx, hb, hml, hown, hts⟩ (c_tell l dC dI ca A X hU H pb g_pb) (cwV 0 hts gX11_part_X4_tell rfl rfl rfl (by decide +kernel) ⟨Nat.le_of_ble_eq_true rfl, Nat.le_of_ble_eq_true rfl⟩) ⟨fun a U g mk q => by obtain ⟨q0, qH, ⟨qK, qN⟩, qI⟩ := q; exact ⟨q0, qH, ⟨va_K.moved (u := U) (U := U.calling g mk a) (Vm.Alike.refl U.vm) qK, jN_same (U := U.calling g mk a) rfl qN⟩, qI⟩, va_recv hK (at_P co_11) (ci := 4) (q0 := 0) rfl rfl, fun U hU hW => ⟨rfl, hU, jK_warm hW ⟨hK, hN⟩, by rw [hU]; exact hI⟩⟩ rfl rfl hl.1 rfl (lv_room (Nat.le_of_ble_eq_true rfl)) dX11_part_105 ⟨Nat.le_of_ble_eq_true rfl, Nat.le_of_ble_eq_true rfl⟩) hS (fun q _ h => h) (fun q h => h) (fun X t9 H locs ht hvm hw_12 hB hz1 hk1 hS => ?_)
        obtain ⟨-, hI, hf9⟩ := hB
        rw [ht] at hI hf9
        have hFz := (hf9 z9 (by rw [g_z]; rcases hcz with h9 | h9 <;> first | (simp [h9]; done) | (simp [Lc, h9]; done))).trans hFz
        clear ht hvm hz1
        have hO := fm_at hf9 g_o (show (999 : Nat) ∉ ([0, 4, 5, 210, 211, 228] : List Nat) by decide) hO
        have g_z := up_t hw_12 g_z
        have g_o := up_t hw_12 g_o
        have g_j_tape := up_t hw_12 g_j_tape
        have g_j_tongue := up_t hw_12 g_j_tongue
        have g_j_row := up_t hw_12 g_j_row
        have g_j_trees := up_t hw_12 g_j_trees
        have g_j_choices := up_t hw_12 g_j_choices
        have g_pb := up_t hw_12 g_pb
        have g_bytes_1 := up_t hw_12 g_bytes_1
        have g_told_8 := up_t hw_12 g_told_8
        have g_grown_8 := up_t hw_12 g_grown_8
        have g_keys_8 := up_t hw_12 g_keys_8
        have g_lattice_8 := up_t hw_12 g_lattice_8
        have g_told_11 := up_t hw_12 g_told_11
        have g_grown_11 := up_t hw_12 g_grown_11
        have hU := up_U hw_12 hU
        have hP := prl_up hP hw_12
        clear hk1 hf9
        refine lv_aload_n hx hb dX11_part_108 rfl (lv_at hl 2 rfl) ?_
        refine iz_get (D := (dC, dI)) (ci := 11) (v := .ref pb) (C := RX11) (T := TX11) (N := 7) hx hb hts hinX11 hown hK hO rfl 5 (by decide) hL44 (fun _ h9 => h9) rfl dX11_part_109 ?_
        obtain ⟨fs9, co_14, jo9⟩ := jv_o4 hI g_pb
        obtain ⟨pp_14, countedUncut_14, counted_14, left_14, told_14, toldCount_14, grown_14, keys_14, keyCount_14, tongue_14, lattice_14, rfl, ⟨left_14a, left_14b⟩, g_told_14, ⟨toldCount_14a, toldCount_14b⟩, g_grown_14, g_keys_14, ⟨keyCount_14a, keyCount_14b⟩, g_tongue_14, g_lattice_14, x_14_0, x_14_1⟩ := jo9
        have e9 : keys_8 = keys_14 := jU_eq hU g_keys_8 g_keys_14 (show (20 : Nat) ≠ 0 by decide) (show uq 228 = true by decide)
        subst e9
        have e9 : j_tongue = tongue_14 := jU_eq hU g_j_tongue g_tongue_14 (show (30 : Nat) ≠ 0 by decide) (show uq 9 = true by decide)
        subst e9
        have e9 : lattice_8 = lattice_14 := jU_eq hU g_lattice_8 g_lattice_14 (show (30 : Nat) ≠ 0 by decide) (show uq 3 = true by decide)
        subst e9
        refine iz_get (D := (dC, dI)) (ci := 4) (v := .long counted_14) (C := RX4) (T := TX4) (N := 10) hx hb hts hinX4 hown hK co_14 rfl 1 (by decide) hL191 (fun _ h9 => h9) rfl dX11_part_112 ?_
        refine W.widen (k := 0) (n := 0) (Nat.le_of_ble_eq_true rfl) (Nat.le_of_ble_eq_true rfl) ?_
        exact W.lret (v := counted_14) hx hb hr (fun t9 ht hW => ⟨⟨counted_14, (X, st), rfl, ⟨hP, rfl⟩, jK_warm hW ⟨hK, hN⟩, by rw [ht]; exact ⟨hI, hO, hFz⟩⟩, hS.F ht⟩) hS.2.2 dX11_part_115
      · refine iz_eqz (tgt := 37) hx hb dX11_part_30 (by decide) (by unfold rg2; omega) (fun _ => ?_) (fun q9 => absurd q9 (by decide))
        refine lv_iconst (v := kz 0) hx hb dX11_part_37 rfl ?_
        refine lv_istore_n (lv' := [(2, .int (kz 0)), (0, .ref o), (1, .int (kz day))]) hx hb dX11_part_38 rfl hl (by decide) rfl (fun ls hl => ?_)
        refine lv_aload_n hx hb dX11_part_39 rfl (lv_at hl 1 rfl) ?_
        refine iz_get (D := (dC, dI)) (ci := 11) (v := .ref j_tape) (C := RX11) (T := TX11) (N := 7) hx hb hts hinX11 hown hK hO rfl 0 (by decide) hL12 (fun _ h9 => h9) rfl dX11_part_40 ?_
        refine iz_get (D := (dC, dI)) (ci := 8) (v := .int (kz size_1)) (C := RX8) (T := TX8) (N := 2) hx hb hts hinX8 hown hK co_1 rfl 1 (by decide) hL60 (fun _ h9 => h9) rfl dX11_part_43 ?_
        refine lv_istore_n (lv' := [(3, .int (kz size_1)), (2, .int (kz 0)), (0, .ref o), (1, .int (kz day))]) hx hb dX11_part_46 rfl hl (by decide) rfl (fun ls hl => ?_)
        refine lv_aload_n hx hb dX11_part_47 rfl (lv_at hl 2 rfl) ?_
        refine iz_get (D := (dC, dI)) (ci := 11) (v := .ref j_tape) (C := RX11) (T := TX11) (N := 7) hx hb hts hinX11 hown hK hO rfl 0 (by decide) hL12 (fun _ h9 => h9) rfl dX11_part_48 ?_
        refine lv_iconst (v := kz 0) hx hb dX11_part_51 rfl ?_
        refine iz_put (D := (dC, dI)) (ci := 8) (v := .int (kz 0)) (ty := .int) (C := RX8) (T := TX8) (N := 2) hx hb hts hinX8 tyX8 tyX8_ok nmX8 hown hK co_1 hS (jv_A hI g_j_tape (show (30 : Nat) ≠ 0 by decide)) rfl 1 (by decide) hL60 (fun _ h9 => h9) rfl (by decide +kernel) rfl rfl (Nat.le_of_ble_eq_true rfl) dX11_part_52 (fun H locs c9 oq hS => ?_)
        have hFz := (oq _ (kn_ne g_z g_j_tape (by first | (show cz ≠ (8 : Nat); omega) | (show cz ≠ (9 : Nat); omega) | (show cz ≠ (10 : Nat); omega) | (show cz ≠ (6 : Nat); omega) | (show cz ≠ (1 : Nat); omega) | (show cz ≠ (2 : Nat); omega) | (show cz ≠ (7 : Nat); omega) | (show cz ≠ (212 : Nat); omega) | (show cz ≠ (213 : Nat); omega) | (show cz ≠ (200 : Nat); omega) | (show cz ≠ (201 : Nat); omega) | (show cz ≠ (202 : Nat); omega) | (show cz ≠ (238 : Nat); omega) | (show cz ≠ (237 : Nat); omega) | (show cz ≠ (215 : Nat); omega) | (show cz ≠ (203 : Nat); omega) | (show cz ≠ (210 : Nat); omega) | (show cz ≠ (211 : Nat); omega) | (show cz ≠ (0 : Nat); omega)))).trans hFz
        have hI := jv_set hI c9 oq (by rw [g_j_tape]; exact jv_c8 ⟨bytes_1, 0, rfl, g_bytes_1, ⟨by omega, by omega⟩⟩)
        have hO := hO.kept (oq _ (kn_ne g_o g_j_tape (show (999 : Nat) ≠ 8 by decide)))
        have co_1 := c9
        clear oq c9
        refine lv_iload_n hx hb dX11_part_55 rfl (lv_at hl 1 rfl) ?_
        refine iz_nez (tgt := 63) hx hb dX11_part_56 (by decide) (by unfold rg2; omega) (fun q9 => absurd q9 (by decide)) (fun _ => ?_)
        refine lv_ldc2 (own := RX11) (v := (-1)) hx hb hown (hts (.constantLong RX11 174 (-1)) (by decide +kernel)) dX11_part_59 ?_
        refine W.widen (k := 0) (n := 0) (Nat.le_of_ble_eq_true rfl) (Nat.le_of_ble_eq_true rfl) ?_
        exact W.lret (v := (-1)) hx hb hr (fun t9 ht hW => ⟨⟨(-1), (X, st), rfl, ⟨hP, rfl⟩, jK_warm hW ⟨hK, hN⟩, by rw [ht]; exact ⟨hI, hO, hFz⟩⟩, hS.F ht⟩) hS.2.2 dX11_part_62
    · refine iz_eqz (tgt := 37) hx hb dX11_part_23 (by decide) (by unfold rg2; omega) (fun _ => ?_) (fun q9 => absurd q9 (by decide))
      refine lv_iconst (v := kz 0) hx hb dX11_part_37 rfl ?_
      refine lv_istore_n (lv' := [(2, .int (kz 0)), (0, .ref o), (1, .int (kz day))]) hx hb dX11_part_38 rfl hl (by decide) rfl (fun ls hl => ?_)
      refine lv_aload_n hx hb dX11_part_39 rfl (lv_at hl 1 rfl) ?_
      refine iz_get (D := (dC, dI)) (ci := 11) (v := .ref j_tape) (C := RX11) (T := TX11) (N := 7) hx hb hts hinX11 hown hK hO rfl 0 (by decide) hL12 (fun _ h9 => h9) rfl dX11_part_40 ?_
      refine iz_get (D := (dC, dI)) (ci := 8) (v := .int (kz size_1)) (C := RX8) (T := TX8) (N := 2) hx hb hts hinX8 hown hK co_1 rfl 1 (by decide) hL60 (fun _ h9 => h9) rfl dX11_part_43 ?_
      refine lv_istore_n (lv' := [(3, .int (kz size_1)), (2, .int (kz 0)), (0, .ref o), (1, .int (kz day))]) hx hb dX11_part_46 rfl hl (by decide) rfl (fun ls hl => ?_)
      refine lv_aload_n hx hb dX11_part_47 rfl (lv_at hl 2 rfl) ?_
      refine iz_get (D := (dC, dI)) (ci := 11) (v := .ref j_tape) (C := RX11) (T := TX11) (N := 7) hx hb hts hinX11 hown hK hO rfl 0 (by decide) hL12 (fun _ h9 => h9) rfl dX11_part_48 ?_
      refine lv_iconst (v := kz 0) hx hb dX11_part_51 rfl ?_
      refine iz_put (D := (dC, dI)) (ci := 8) (v := .int (kz 0)) (ty := .int) (C := RX8) (T := TX8) (N := 2) hx hb hts hinX8 tyX8 tyX8_ok nmX8 hown hK co_1 hS (jv_A hI g_j_tape (show (30 : Nat) ≠ 0 by decide)) rfl 1 (by decide) hL60 (fun _ h9 => h9) rfl (by decide +kernel) rfl rfl (Nat.le_of_ble_eq_true rfl) dX11_part_52 (fun H locs c9 oq hS => ?_)
      have hFz := (oq _ (kn_ne g_z g_j_tape (by first | (show cz ≠ (8 : Nat); omega) | (show cz ≠ (9 : Nat); omega) | (show cz ≠ (10 : Nat); omega) | (show cz ≠ (6 : Nat); omega) | (show cz ≠ (1 : Nat); omega) | (show cz ≠ (2 : Nat); omega) | (show cz ≠ (7 : Nat); omega) | (show cz ≠ (212 : Nat); omega) | (show cz ≠ (213 : Nat); omega) | (show cz ≠ (200 : Nat); omega) | (show cz ≠ (201 : Nat); omega) | (show cz ≠ (202 : Nat); omega) | (show cz ≠ (238 : Nat); omega) | (show cz ≠ (237 : Nat); omega) | (show cz ≠ (215 : Nat); omega) | (show cz ≠ (203 : Nat); omega) | (show cz ≠ (210 : Nat); omega) | (show cz ≠ (211 : Nat); omega) | (show cz ≠ (0 : Nat); omega)))).trans hFz
      have hI := jv_set hI c9 oq (by rw [g_j_tape]; exact jv_c8 ⟨bytes_1, 0, rfl, g_bytes_1, ⟨by omega, by omega⟩⟩)
      have hO := hO.kept (oq _ (kn_ne g_o g_j_tape (show (999 : Nat) ≠ 8 by decide)))
      have co_1 := c9
      clear oq c9
      refine lv_iload_n hx hb dX11_part_55 rfl (lv_at hl 1 rfl) ?_
      refine iz_nez (tgt := 63) hx hb dX11_part_56 (by decide) (by unfold rg2; omega) (fun q9 => absurd q9 (by decide)) (fun _ => ?_)
      refine lv_ldc2 (own := RX11) (v := (-1)) hx hb hown (hts (.constantLong RX11 174 (-1)) (by decide +kernel)) dX11_part_59 ?_
      refine W.widen (k := 0) (n := 0) (Nat.le_of_ble_eq_true rfl) (Nat.le_of_ble_eq_true rfl) ?_
      exact W.lret (v := (-1)) hx hb hr (fun t9 ht hW => ⟨⟨(-1), (X, st), rfl, ⟨hP, rfl⟩, jK_warm hW ⟨hK, hN⟩, by rw [ht]; exact ⟨hI, hO, hFz⟩⟩, hS.F ht⟩) hS.2.2 dX11_part_62
  · refine iz_eqz (tgt := 37) hx hb dX11_part_13 (by decide) (by unfold rg2; omega) (fun _ => ?_) (fun q9 => absurd q9 (by decide))
    refine lv_iconst (v := kz 0) hx hb dX11_part_37 rfl ?_
    refine lv_istore_n (lv' := [(2, .int (kz 0)), (0, .ref o), (1, .int (kz day))]) hx hb dX11_part_38 rfl hl (by decide) rfl (fun ls hl => ?_)
    refine lv_aload_n hx hb dX11_part_39 rfl (lv_at hl 1 rfl) ?_
    refine iz_get (D := (dC, dI)) (ci := 11) (v := .ref j_tape) (C := RX11) (T := TX11) (N := 7) hx hb hts hinX11 hown hK hO rfl 0 (by decide) hL12 (fun _ h9 => h9) rfl dX11_part_40 ?_
    refine iz_get (D := (dC, dI)) (ci := 8) (v := .int (kz size_1)) (C := RX8) (T := TX8) (N := 2) hx hb hts hinX8 hown hK co_1 rfl 1 (by decide) hL60 (fun _ h9 => h9) rfl dX11_part_43 ?_
    refine lv_istore_n (lv' := [(3, .int (kz size_1)), (2, .int (kz 0)), (0, .ref o), (1, .int (kz day))]) hx hb dX11_part_46 rfl hl (by decide) rfl (fun ls hl => ?_)
    refine lv_aload_n hx hb dX11_part_47 rfl (lv_at hl 2 rfl) ?_
    refine iz_get (D := (dC, dI)) (ci := 11) (v := .ref j_tape) (C := RX11) (T := TX11) (N := 7) hx hb hts hinX11 hown hK hO rfl 0 (by decide) hL12 (fun _ h9 => h9) rfl dX11_part_48 ?_
    refine lv_iconst (v := kz 0) hx hb dX11_part_51 rfl ?_
    refine iz_put (D := (dC, dI)) (ci := 8) (v := .int (kz 0)) (ty := .int) (C := RX8) (T := TX8) (N := 2) hx hb hts hinX8 tyX8 tyX8_ok nmX8 hown hK co_1 hS (jv_A hI g_j_tape (show (30 : Nat) ≠ 0 by decide)) rfl 1 (by decide) hL60 (fun _ h9 => h9) rfl (by decide +kernel) rfl rfl (Nat.le_of_ble_eq_true rfl) dX11_part_52 (fun H locs c9 oq hS => ?_)
    have hFz := (oq _ (kn_ne g_z g_j_tape (by first | (show cz ≠ (8 : Nat); omega) | (show cz ≠ (9 : Nat); omega) | (show cz ≠ (10 : Nat); omega) | (show cz ≠ (6 : Nat); omega) | (show cz ≠ (1 : Nat); omega) | (show cz ≠ (2 : Nat); omega) | (show cz ≠ (7 : Nat); omega) | (show cz ≠ (212 : Nat); omega) | (show cz ≠ (213 : Nat); omega) | (show cz ≠ (200 : Nat); omega) | (show cz ≠ (201 : Nat); omega) | (show cz ≠ (202 : Nat); omega) | (show cz ≠ (238 : Nat); omega) | (show cz ≠ (237 : Nat); omega) | (show cz ≠ (215 : Nat); omega) | (show cz ≠ (203 : Nat); omega) | (show cz ≠ (210 : Nat); omega) | (show cz ≠ (211 : Nat); omega) | (show cz ≠ (0 : Nat); omega)))).trans hFz
    have hI := jv_set hI c9 oq (by rw [g_j_tape]; exact jv_c8 ⟨bytes_1, 0, rfl, g_bytes_1, ⟨by omega, by omega⟩⟩)
    have hO := hO.kept (oq _ (kn_ne g_o g_j_tape (show (999 : Nat) ≠ 8 by decide)))
    have co_1 := c9
    clear oq c9
    refine lv_iload_n hx hb dX11_part_55 rfl (lv_at hl 1 rfl) ?_
    refine iz_nez (tgt := 63) hx hb dX11_part_56 (by decide) (by unfold rg2; omega) (fun q9 => absurd q9 (by decide)) (fun _ => ?_)
    refine lv_ldc2 (own := RX11) (v := (-1)) hx hb hown (hts (.constantLong RX11 174 (-1)) (by decide +kernel)) dX11_part_59 ?_
    refine W.widen (k := 0) (n := 0) (Nat.le_of_ble_eq_true rfl) (Nat.le_of_ble_eq_true rfl) ?_
    exact W.lret (v := (-1)) hx hb hr (fun t9 ht hW => ⟨⟨(-1), (X, st), rfl, ⟨hP, rfl⟩, jK_warm hW ⟨hK, hN⟩, by rw [ht]; exact ⟨hI, hO, hFz⟩⟩, hS.F ht⟩) hS.2.2 dX11_part_62
set_option maxHeartbeats 4000000 in
set_option maxRecDepth 100000 in
theorem j_partGZ (l : Launch) (dC : Nat → ClassId) (dI : Nat → Nat → Nat) (ca : Nat → ClassId) (A : Nat → Prop) (X : jG) (hU : jU X) (Hp : Heap) (z9 cz kdz nz : Nat) (loz hiz : Int) (g_z : X.1 z9 = (cz, kdz, nz, loz, hiz)) (hcz : cz = 214 ∨ cz = 229) (hkz : kdz ≠ 0) (o : Nat) (j_tape : Nat) (j_tongue : Nat) (j_row : Nat) (j_trees : Nat) (j_choices : Nat) (st : Int) (day : Int) (bytes_1 : Nat) (size_1 : Int) (f1 : Nat → Int32) (g_o : X.1 o = (999, 0, 0, 0, 0)) (hAo : A o) (g_j_tape : X.1 j_tape = (8, 30, 0, 0, 0)) (g_j_tongue : X.1 j_tongue = (9, 30, 0, 0, 0)) (g_j_row : X.1 j_row = (6, 30, 0, 0, 0)) (g_j_trees : X.1 j_trees = (10, 30, 0, 0, 0)) (g_j_choices : X.1 j_choices = (1, 30, 0, 0, 0)) (hst : 0 ≤ st ∧ st ≤ 20) (dayr : -2147483648 ≤ day ∧ day ≤ 2147483647) (hA9 : ∀ q : Nat, Hp.size ≤ q → A q) (hno_4 : ∀ q : Nat, X.1 q ≠ (4, 30, 0, 0, 0)) (hno_226 : ∀ q : Nat, X.1 q ≠ (226, 26, 8, 0, 0)) (hno_227 : ∀ q : Nat, X.1 q ≠ (226, 26, 8, 1, 0)) (hno_228 : ∀ q : Nat, X.1 q ≠ (228, 20, 8, -2147483648, 2147483647)) (hno_3 : ∀ q : Nat, X.1 q ≠ (3, 30, 0, 0, 0)) (hno_219 : ∀ q : Nat, X.1 q ≠ (219, 27, 40, 232, 160)) (hno_204 : ∀ q : Nat, X.1 q ≠ (204, 21, 40, 0, 0)) (hno_220 : ∀ q : Nat, X.1 q ≠ (220, 23, 160, 0, 0)) (hno_221 : ∀ q : Nat, X.1 q ≠ (221, 28, 40, 233, 40)) (hno_222 : ∀ q : Nat, X.1 q ≠ (222, 27, 40, 234, 40)) (hno_223 : ∀ q : Nat, X.1 q ≠ (223, 28, 40, 235, 144)) (hno_224 : ∀ q : Nat, X.1 q ≠ (224, 27, 40, 236, 144)) (hno_225 : ∀ q : Nat, X.1 q ≠ (225, 22, 36, 0, 0)) (hfid : fidL X [0, 1, 2, 3, 4, 5, 6, 7, 8, 9, 10, 11, 12, 13, 14, 15]) (g_bytes_1 : X.1 bytes_1 = (200, 21, 60, 0, 0)) (hsz1 : 1 ≤ size_1 ∧ size_1 ≤ 40) (hlet : (∀ z : Int, 0 ≤ z → z < size_1 → 97 ≤ ge1 f1 z ∧ ge1 f1 z ≤ 122)) (hday : 0 ≤ day ∧ day ≤ 999) : Met l yX11_part wsX11_part ({ frames := 7, cells := 277, slots := 23025, locals := 164 }) (va_Pc [.ref o, .int (kz day)] (fun U => U.heap = Hp ∧ jK (dC, dI) ca U ∧ jv (dC, dI) ca A X U.heap ∧ va_at (dC, dI) vwCl (o, .inr (11, [.ref j_tape, .ref j_tongue, .ref j_row, .ref j_trees, .ref j_choices, va_rf none, .int (kz st)])) U.heap ∧ va_at (dC, dI) vwCl (j_tape, .inr (8, [.ref bytes_1, .int (kz size_1)])) U.heap ∧ va_at (dC, dI) vwCl (bytes_1, .inl (ca 21, 60, .inl f1)) U.heap)) (va_Ql (fun (r : Int64) (u : jG × Int × Option Nat) => prl X u.1 o [0, 3, 4, 5, 204, 210, 211, 219, 220, 221, 222, 223, 224, 225, 226, 228, 232, 233, 234, 235, 236] ∧ u.2.1 = st ∧ (∀ b : Nat, u.2.2 = some b → u.1.1 b = (4, 30, 0, 0, 0)) ∧ (u.2.2 = none → False)) (fun (u : jG × Int × Option Nat) U => jK (dC, dI) ca U ∧ jv (dC, dI) ca A u.1 U.heap ∧ va_at (dC, dI) vwCl (o, .inr (11, [.ref j_tape, .ref j_tongue, .ref j_row, .ref j_trees, .ref j_choices, va_rf u.2.2, .int (kz u.2.1)])) U.heap ∧ U.heap[z9]? = Hp[z9]?) A) 277 23025 A := by
  refine Met.ofW (cc := cX11_part) (maxL := 4) (ret := (some .long)) (by decide) rfl ?_
  intro p e s m args below meth c s₁ B hml hv
  obtain ⟨rfl, hHp, ⟨hK, hN⟩, hI, hO, co_1, c_f1⟩ := hv
  have hx := B.exec
  have hb := B.bytes
  have hr := B.returns
  have hts := atoms_spec (ws := wsX11_part) B.pre
  have hown : s.vm.findClass RX11 = some m.cls := findClass_of_methodNamed B.named
  have hL12 := hts (.fieldLink RX11 12 "JoinBench" "tape" "LJoinBench$Tape;") (by decide +kernel)
  have hL60 := hts (.fieldLink RX11 60 "JoinBench$Tape" "size" "I") (by decide +kernel)
  have hL44 := hts (.fieldLink RX11 44 "JoinBench" "parter" "LJoinBench$Parter;") (by decide +kernel)
  have hL19 := hts (.fieldLink RX11 19 "JoinBench" "tongue" "LJoinBench$Tongue;") (by decide +kernel)
  have hL181 := hts (.fieldLink RX11 181 "JoinBench$Tape" "bytes" "[B") (by decide +kernel)
  have hL191 := hts (.fieldLink RX11 191 "JoinBench$Parter" "counted" "J") (by decide +kernel)
  have hinX11 : ∀ w ∈ u_ws RX11 TX11 7, w ∈ wsX11_part := by decide +kernel
  have hinX4 : ∀ w ∈ u_ws RX4 TX4 10, w ∈ wsX11_part := by decide +kernel
  have hinX8 : ∀ w ∈ u_ws RX8 TX8 2, w ∈ wsX11_part := by decide +kernel
  obtain ⟨H, hH⟩ : ∃ H : Heap, H = s.heap := ⟨_, rfl⟩
  have hS : va_S A s.heap H [] := by rw [hH]; exact va_S.rf
  have hF : kfm X [3, 4, 204, 220, 225, 232, 233, 234, 235, 236] Hp H := by rw [hH, hHp]; exact fm_rf _ _ _
  clear hF
  obtain ⟨n0, hn0⟩ : ∃ n9 : Nat, n9 = Hp.size := ⟨_, rfl⟩
  have hA : ∀ q : Nat, n0 ≤ q → A q := by rw [hn0]; exact hA9
  have hsz : s.heap.size = n0 := by rw [hn0, hHp]
  have hP := prl_rf o [0, 3, 4, 5, 204, 210, 211, 219, 220, 221, 222, 223, 224, 225, 226, 228, 232, 233, 234, 235, 236] hU
  have hFz : H[z9]? = Hp[z9]? := by rw [hH, hHp]
  rw [← hH] at hI hO co_1 c_f1 ⊢
  clear hH
  have hl := lv_entry ([.ref o, .int (kz day)]) (n := 4) (Nat.le_of_ble_eq_true rfl)
  rw [lg_entry_eq]
  generalize (lg_sl ([.ref o, .int (kz day)]) ++ List.replicate (4 - (lg_sl ([.ref o, .int (kz day)])).length) Slot.unset).toArray = ls at hl ⊢
  have hl : lv_has ls 4 [(0, .ref o), (1, .int (kz day))] := hl
  refine lv_aload_n hx hb dX11_part_0 rfl (lv_at hl 0 rfl) ?_
  refine iz_get (D := (dC, dI)) (ci := 11) (v := .ref j_tape) (C := RX11) (T := TX11) (N := 7) hx hb hts hinX11 hown hK hO rfl 0 (by decide) hL12 (fun _ h9 => h9) rfl dX11_part_1 ?_
  refine iz_get (D := (dC, dI)) (ci := 8) (v := .int (kz size_1)) (C := RX8) (T := TX8) (N := 2) hx hb hts hinX8 hown hK co_1 rfl 1 (by decide) hL60 (fun _ h9 => h9) rfl dX11_part_4 ?_
  refine lv_iconst (v := kz 1) hx hb dX11_part_7 rfl ?_
  refine lv_bipush (v := kz 40) hx hb dX11_part_8 (by decide) ?_
  refine vp_callSi (va_Run.run (va_runS (As := [.int (kz size_1), .int (kz 1), .int (kz 40)]) (rest := []) ⟨hx, hb, hml, hown, hts⟩ (c_within l size_1 1 40 (by omega) (by omega) (by omega)) (va_cwS 3 hts gX11_part_X11_within rfl rfl rfl (by decide +kernel) ⟨Nat.le_of_ble_eq_true rfl, Nat.le_of_ble_eq_true rfl⟩) ⟨fun a U g mk q => q, fun U hU hW => ⟨rfl, trivial⟩⟩ rfl rfl hl.1 rfl (lv_room (Nat.le_of_ble_eq_true rfl)) dX11_part_10 ⟨Nat.le_of_ble_eq_true rfl, Nat.le_of_ble_eq_true rfl⟩)) (fun r_3 hw_2 => ?_)
  rcases hw_2 with ⟨rfl, hw_2⟩ | ⟨rfl, hw_2⟩
  · refine iz_eqz (tgt := 37) hx hb dX11_part_13 (by decide) (by unfold rg2; omega) (fun q9 => absurd q9 (by decide)) (fun _ => ?_)
    refine lv_aload_n hx hb dX11_part_16 rfl (lv_at hl 0 rfl) ?_
    refine iz_get (D := (dC, dI)) (ci := 11) (v := .ref j_tape) (C := RX11) (T := TX11) (N := 7) hx hb hts hinX11 hown hK hO rfl 0 (by decide) hL12 (fun _ h9 => h9) rfl dX11_part_17 ?_
    refine vp_callSi (va_Run.run (va_runV (As := []) (rest := []) ⟨hx, hb, hml, hown, hts⟩ (c_hasOnlyLettersE l dC dI ca j_tape bytes_1 size_1 f1 (by omega)) (cwV 0 hts gX11_part_X8_hasOnlyLetters rfl rfl rfl (by decide +kernel) ⟨Nat.le_of_ble_eq_true rfl, Nat.le_of_ble_eq_true rfl⟩) ⟨fun a U g mk q => by obtain ⟨q0, ⟨qK, qN⟩, qI⟩ := q; exact ⟨q0, ⟨va_K.moved (u := U) (U := U.calling g mk a) (Vm.Alike.refl U.vm) qK, jN_same (U := U.calling g mk a) rfl qN⟩, qI⟩, va_recv hK (at_P co_1) (ci := 8) (q0 := 0) rfl rfl, fun U hU hW => ⟨rfl, jK_warm hW ⟨hK, hN⟩, by rw [hU]; exact ⟨co_1, c_f1⟩⟩⟩ rfl rfl hl.1 rfl (lv_room (Nat.le_of_ble_eq_true rfl)) dX11_part_20 ⟨Nat.le_of_ble_eq_true rfl, Nat.le_of_ble_eq_true rfl⟩)) (fun r_5 hw_4 => ?_)
    rcases hw_4 with ⟨rfl, hw_4⟩ | ⟨rfl, hw_4⟩
    · refine iz_eqz (tgt := 37) hx hb dX11_part_23 (by decide) (by unfold rg2; omega) (fun q9 => absurd q9 (by decide)) (fun _ => ?_)
      refine lv_iload_n hx hb dX11_part_26 rfl (lv_at hl 1 rfl) ?_
      refine vp_callSi (va_Run.run (va_runS (As := [.int (kz day)]) (rest := []) ⟨hx, hb, hml, hown, hts⟩ (c_isDay l day (by omega)) (va_cwS 1 hts gX11_part_X11_isDay rfl rfl rfl (by decide +kernel) ⟨Nat.le_of_ble_eq_true rfl, Nat.le_of_ble_eq_true rfl⟩) ⟨fun a U g mk q => q, fun U hU hW => ⟨rfl, trivial⟩⟩ rfl rfl hl.1 rfl (lv_room (Nat.le_of_ble_eq_true rfl)) dX11_part_27 ⟨Nat.le_of_ble_eq_true rfl, Nat.le_of_ble_eq_true rfl⟩)) (fun r_7 hw_6 => ?_)
      rcases hw_6 with ⟨rfl, hw_6⟩ | ⟨rfl, hw_6⟩
      · refine iz_eqz (tgt := 37) hx hb dX11_part_30 (by decide) (by unfold rg2; omega) (fun q9 => absurd q9 (by decide)) (fun _ => ?_)
        refine lv_iconst (v := kz 1) hx hb dX11_part_33 rfl ?_
        refine lv_goto (tgt := 38) hx hb dX11_part_34 (by decide) ?_
        refine lv_istore_n (lv' := [(2, .int (kz 1)), (0, .ref o), (1, .int (kz day))]) hx hb dX11_part_38 rfl hl (by decide) rfl (fun ls hl => ?_)
        refine lv_aload_n hx hb dX11_part_39 rfl (lv_at hl 1 rfl) ?_
        refine iz_get (D := (dC, dI)) (ci := 11) (v := .ref j_tape) (C := RX11) (T := TX11) (N := 7) hx hb hts hinX11 hown hK hO rfl 0 (by decide) hL12 (fun _ h9 => h9) rfl dX11_part_40 ?_
        refine iz_get (D := (dC, dI)) (ci := 8) (v := .int (kz size_1)) (C := RX8) (T := TX8) (N := 2) hx hb hts hinX8 hown hK co_1 rfl 1 (by decide) hL60 (fun _ h9 => h9) rfl dX11_part_43 ?_
        refine lv_istore_n (lv' := [(3, .int (kz size_1)), (2, .int (kz 1)), (0, .ref o), (1, .int (kz day))]) hx hb dX11_part_46 rfl hl (by decide) rfl (fun ls hl => ?_)
        refine lv_aload_n hx hb dX11_part_47 rfl (lv_at hl 2 rfl) ?_
        refine iz_get (D := (dC, dI)) (ci := 11) (v := .ref j_tape) (C := RX11) (T := TX11) (N := 7) hx hb hts hinX11 hown hK hO rfl 0 (by decide) hL12 (fun _ h9 => h9) rfl dX11_part_48 ?_
        refine lv_iconst (v := kz 0) hx hb dX11_part_51 rfl ?_
        refine iz_put (D := (dC, dI)) (ci := 8) (v := .int (kz 0)) (ty := .int) (C := RX8) (T := TX8) (N := 2) hx hb hts hinX8 tyX8 tyX8_ok nmX8 hown hK co_1 hS (jv_A hI g_j_tape (show (30 : Nat) ≠ 0 by decide)) rfl 1 (by decide) hL60 (fun _ h9 => h9) rfl (by decide +kernel) rfl rfl (Nat.le_of_ble_eq_true rfl) dX11_part_52 (fun H locs c9 oq hS => ?_)
        have hFz := (oq _ (kn_ne g_z g_j_tape (by first | (show cz ≠ (8 : Nat); omega) | (show cz ≠ (9 : Nat); omega) | (show cz ≠ (10 : Nat); omega) | (show cz ≠ (6 : Nat); omega) | (show cz ≠ (1 : Nat); omega) | (show cz ≠ (2 : Nat); omega) | (show cz ≠ (7 : Nat); omega) | (show cz ≠ (212 : Nat); omega) | (show cz ≠ (213 : Nat); omega) | (show cz ≠ (200 : Nat); omega) | (show cz ≠ (201 : Nat); omega) | (show cz ≠ (202 : Nat); omega) | (show cz ≠ (238 : Nat); omega) | (show cz ≠ (237 : Nat); omega) | (show cz ≠ (215 : Nat); omega) | (show cz ≠ (203 : Nat); omega) | (show cz ≠ (210 : Nat); omega) | (show cz ≠ (211 : Nat); omega) | (show cz ≠ (0 : Nat); omega)))).trans hFz
        have hI := jv_set hI c9 oq (by rw [g_j_tape]; exact jv_c8 ⟨bytes_1, 0, rfl, g_bytes_1, ⟨by omega, by omega⟩⟩)
        have hO := hO.kept (oq _ (kn_ne g_o g_j_tape (show (999 : Nat) ≠ 8 by decide)))
        have co_1 := c9
        clear oq c9
        refine lv_iload_n hx hb dX11_part_55 rfl (lv_at hl 1 rfl) ?_
        refine iz_nez (tgt := 63) hx hb dX11_part_56 (by decide) (by unfold rg2; omega) (fun _ => ?_) (fun q9 => absurd q9 (by decide))
        refine lv_aload_n hx hb dX11_part_63 rfl (lv_at hl 2 rfl) ?_
        refine iz_get (D := (dC, dI)) (ci := 11) (v := .null) (C := RX11) (T := TX11) (N := 7) hx hb hts hinX11 hown hK hO rfl 5 (by decide) hL44 (fun _ h9 => h9) rfl dX11_part_64 ?_
        refine lv_ifnonnullN hx hb dX11_part_67 ?_
        refine lv_aload_n hx hb dX11_part_70 rfl (lv_at hl 2 rfl) ?_
        have hzH : n0 ≤ H.size := by have h8 := hS.1; omega
        refine jz_new (ci := 4) (fs := [.long 0, .long 0, .int (kz 0), .null, .int (kz 0), .null, .null, .int (kz 0), .null, .null]) (C := RX4) (T := TX4) (N := 10) hx hb hts (by decide +kernel) tyX4 tyX4_ok hown (hts (.classLink RX11 176 RX4) (by decide +kernel)) (hts (.instantiable RX4 10) (by decide +kernel)) (hts (.initialized RX4) (by decide +kernel)) hK hS rfl (fun j hj => by rcases (show j = 0 ∨ j = 1 ∨ j = 2 ∨ j = 3 ∨ j = 4 ∨ j = 5 ∨ j = 6 ∨ j = 7 ∨ j = 8 ∨ j = 9 by omega) with rfl | rfl | rfl | rfl | rfl | rfl | rfl | rfl | rfl | rfl <;> rfl) (Nat.le_of_ble_eq_true rfl) (Nat.le_of_ble_eq_true rfl) dX11_part_71 (fun x_8 H hx9 c_x_8 oq hz9 hS => ?_)
        have hFz := (oq _ (jv_lt hI (by rw [g_z]; exact hkz))).trans hFz
        have h0_x_8 : (X.1 x_8).2.1 = 0 := jv_out hI (by omega)
        have hge_x_8 : n0 ≤ x_8 := by omega
        have hne_x_8_o : x_8 ≠ o := by have h9 := hO.lt; omega
        have hO := hO.kept (oq _ hO.lt)
        have co_1 := co_1.kept (oq _ co_1.lt)
        have hI := jv_keep hI (fun q hq => oq q (jv_lt hI hq))
        clear oq hz9 hx9
        refine lv_dup hx hb dX11_part_74 rfl ?_
        refine lv_aload_n hx hb dX11_part_75 rfl (lv_at hl 2 rfl) ?_
        refine iz_get (D := (dC, dI)) (ci := 11) (v := .ref j_tongue) (C := RX11) (T := TX11) (N := 7) hx hb hts hinX11 hown hK hO rfl 1 (by decide) hL19 (fun _ h9 => h9) rfl dX11_part_76 ?_
        have hzH : n0 ≤ H.size := by have h8 := hS.1; omega
        have hxl := c_x_8.lt
        have hIA := hI
        refine va_callv (va_runI (As := [.ref j_tongue]) (rest := [.ref x_8, .ref o]) ⟨hx, hb, hml, hown, hts⟩ (k_Parter l dC dI ca X hU x_8 H.size j_tongue h0_x_8 g_j_tongue hno_4 hno_226 hno_227 hno_228 hno_3 hno_219 hno_204 hno_220 hno_221 hno_222 hno_223 hno_224 hno_225 hfid) (cwI 1 hts gX11_part_X4_init rfl rfl rfl (hts (.initialized RX4) (by decide +kernel)) (hts (.methodLink RX11 178 yX4_init) (by decide +kernel)) (hts (.instanceMethod yX4_init) (by decide +kernel)) rfl (by decide +kernel) ⟨Nat.le_of_ble_eq_true rfl, Nat.le_of_ble_eq_true rfl⟩) ⟨fun a U g mk q => by obtain ⟨q0, q1, ⟨qK, qN⟩, qI⟩ := q; exact ⟨q0, q1, ⟨va_K.moved (u := U) (U := U.calling g mk a) (Vm.Alike.refl U.vm) qK, jN_same (U := U.calling g mk a) rfl qN⟩, qI⟩, fun U hU9 hW => ⟨rfl, by rw [hU9], jK_warm hW ⟨hK, hN⟩, by rw [hU9]; exact ⟨jv_A2 hI (fun _ _ => trivial), c_x_8⟩⟩⟩ rfl rfl hl.1 rfl (lv_room (Nat.le_of_ble_eq_true rfl)) dX11_part_79 ⟨(Nat.le_of_ble_eq_true rfl), (Nat.le_of_ble_eq_true rfl)⟩) hS (fun q h8 h9 => h9.elim (fun e9 => by rw [e9]; exact (hA _ hge_x_8)) (fun e9 => absurd e9 (by omega))) (fun q h9 => h9.elim (fun e9 => by rw [e9]; exact (hA _ hge_x_8)) (fun e9 => hA q (by omega))) (fun X t9 H locs ht hvm hw_9 hB hz1 hk1 hS => ?_)
        have hzl9 := jv_lt hIA (q := z9) (by rw [g_z]; exact hkz)
        have hFz := (hk1 z9 hzl9 (fun e9 => e9.elim (kn_ne0 g_z h0_x_8 hkz) (fun e8 => absurd e8 (by omega)))).trans hFz
        obtain ⟨hw_9, hw_9g, hU⟩ := hw_9
        obtain ⟨-, hI⟩ := hB
        rw [ht] at hI
        clear ht hvm
        have hI := jv_A2 hI (nw_A hIA hw_9 (hA _ hge_x_8) (fun q h8 => hA q (Nat.le_trans hzH h8)))
        clear hIA
        have hle9 := nw_le hw_9
        have h9o := hO.lt
        have hO := hO.kept (hk1 _ h9o (fun e9 => e9.elim (Ne.symm hne_x_8_o) (fun e8 => absurd e8 (by omega))))
        have g_o : X.1 o = (999, 0, 0, 0, 0) := (nw_eq hw_9 (Ne.symm hne_x_8_o) h9o).trans g_o
        have h9 := co_1.lt
        have co_1 := co_1.kept (hk1 _ h9 (fun e9 => e9.elim (kn_ne0 g_j_tape h0_x_8 (show (30 : Nat) ≠ 0 by decide)) (fun e8 => absurd e8 (by omega))))
        have hP := prl_nw hP hw_9 hU ((Ne.symm hne_x_8_o)) h9o (by decide +kernel)
        have g_z := le_t hle9 g_z hkz
        have g_j_tape := le_t hle9 g_j_tape (show (30 : Nat) ≠ 0 by decide)
        have g_j_tongue := le_t hle9 g_j_tongue (show (30 : Nat) ≠ 0 by decide)
        have g_j_row := le_t hle9 g_j_row (show (30 : Nat) ≠ 0 by decide)
        have g_j_trees := le_t hle9 g_j_trees (show (30 : Nat) ≠ 0 by decide)
        have g_j_choices := le_t hle9 g_j_choices (show (30 : Nat) ≠ 0 by decide)
        have g_bytes_1 := le_t hle9 g_bytes_1 (show (21 : Nat) ≠ 0 by decide)
        clear hle9 hxl hk1 hz1
        have g_x_8 := hw_9g
        refine iz_put (D := (dC, dI)) (ci := 11) (v := .ref x_8) (ty := .object "JoinBench$Parter") (C := RX11) (T := TX11) (N := 7) hx hb hts hinX11 tyX11 tyX11_ok nmX11 hown hK hO hS hAo rfl 5 (by decide) hL44 (fun _ h9 => h9) rfl (by decide +kernel) rfl rfl (Nat.le_of_ble_eq_true rfl) dX11_part_82 (fun H locs c9 oq hS => ?_)
        have hFz := (oq _ (kn_ne g_z g_o (show cz ≠ 999 by omega))).trans hFz
        have hI := jv_skip hI (by rw [g_o]) oq
        have co_1 := co_1.kept (oq _ (kn_ne g_j_tape g_o (show (8 : Nat) ≠ 999 by decide)))
        have hO := c9
        clear oq c9
        refine lv_aload_n hx hb dX11_part_85 rfl (lv_at hl 2 rfl) ?_
        refine iz_get (D := (dC, dI)) (ci := 11) (v := .ref x_8) (C := RX11) (T := TX11) (N := 7) hx hb hts hinX11 hown hK hO rfl 5 (by decide) hL44 (fun _ h9 => h9) rfl dX11_part_86 ?_
        refine lv_aload_n hx hb dX11_part_89 rfl (lv_at hl 2 rfl) ?_
        refine iz_get (D := (dC, dI)) (ci := 11) (v := .ref j_tape) (C := RX11) (T := TX11) (N := 7) hx hb hts hinX11 hown hK hO rfl 0 (by decide) hL12 (fun _ h9 => h9) rfl dX11_part_90 ?_
        refine iz_get (D := (dC, dI)) (ci := 8) (v := .ref bytes_1) (C := RX8) (T := TX8) (N := 2) hx hb hts hinX8 hown hK co_1 rfl 0 (by decide) hL181 (fun _ h9 => h9) rfl dX11_part_93 ?_
        refine lv_iload_n hx hb dX11_part_96 rfl (lv_at hl 0 rfl) ?_
        refine lv_iload_n hx hb dX11_part_97 rfl (lv_at hl 3 rfl) ?_
        obtain ⟨fs9, co_10, jo9⟩ := jv_o4 hI g_x_8
        obtain ⟨pp_10, countedUncut_10, counted_10, left_10, told_10, toldCount_10, grown_10, keys_10, keyCount_10, tongue_10, lattice_10, rfl, ⟨left_10a, left_10b⟩, g_told_10, ⟨toldCount_10a, toldCount_10b⟩, g_grown_10, g_keys_10, ⟨keyCount_10a, keyCount_10b⟩, g_tongue_10, g_lattice_10, x_10_0, x_10_1⟩ := jo9
        have e9 : j_tongue = tongue_10 := jU_eq hU g_j_tongue g_tongue_10 (show (30 : Nat) ≠ 0 by decide) (show uq 9 = true by decide)
        subst e9
        refine va_callv (va_runV (As := [.ref bytes_1, .int (kz size_1), .int (kz day)]) (rest := []) ⟨hx, hb, hml, hown, hts⟩ (c_countLine l dC dI ca A X hU H x_8 bytes_1 size_1 day g_x_8 g_bytes_1 (by omega) (by omega)) (cwV 3 hts gX11_part_X4_countLine rfl rfl rfl (by decide +kernel) ⟨Nat.le_of_ble_eq_true rfl, Nat.le_of_ble_eq_true rfl⟩) ⟨fun a U g mk q => by obtain ⟨q0, qH, ⟨qK, qN⟩, qI⟩ := q; exact ⟨q0, qH, ⟨va_K.moved (u := U) (U := U.calling g mk a) (Vm.Alike.refl U.vm) qK, jN_same (U := U.calling g mk a) rfl qN⟩, qI⟩, va_recv hK (at_P co_10) (ci := 4) (q0 := 0) rfl rfl, fun U hU hW => ⟨rfl, hU, jK_warm hW ⟨hK, hN⟩, by rw [hU]; exact hI⟩⟩ rfl rfl hl.1 rfl (lv_room (Nat.le_of_ble_eq_true rfl)) dX11_part_98 ⟨Nat.le_of_ble_eq_true rfl, Nat.le_of_ble_eq_true rfl⟩) hS (fun q _ h => h) (fun q h => h) (fun u t9 H locs ht hvm hw_11 hB hz1 hk1 hS => ?_)
        obtain ⟨-, hI, hf9⟩ := hB
        rw [ht] at hI hf9
        have hFz := (hf9 z9 (by rw [g_z]; rcases hcz with h9 | h9 <;> first | (simp [h9]; done) | (simp [Lc, h9]; done))).trans hFz
        clear ht hvm hz1
        have hO := fm_at hf9 g_o (show (999 : Nat) ∉ ([3, 4, 204, 220, 225, 232, 233, 234, 235, 236] : List Nat) by decide) hO
        have co_1 := fm_at hf9 g_j_tape (show (8 : Nat) ∉ ([3, 4, 204, 220, 225, 232, 233, 234, 235, 236] : List Nat) by decide) co_1
        clear hk1 hf9
        refine lv_aload_n hx hb dX11_part_101 rfl (lv_at hl 2 rfl) ?_
        refine iz_get (D := (dC, dI)) (ci := 11) (v := .ref x_8) (C := RX11) (T := TX11) (N := 7) hx hb hts hinX11 hown hK hO rfl 5 (by decide) hL44 (fun _ h9 => h9) rfl dX11_part_102 ?_
        obtain ⟨fs9, co_13, jo9⟩ := jv_o4 hI g_x_8
        obtain ⟨pp_13, countedUncut_13, counted_13, left_13, told_13, toldCount_13, grown_13, keys_13, keyCount_13, tongue_13, lattice_13, rfl, ⟨left_13a, left_13b⟩, g_told_13, ⟨toldCount_13a, toldCount_13b⟩, g_grown_13, g_keys_13, ⟨keyCount_13a, keyCount_13b⟩, g_tongue_13, g_lattice_13, x_13_0, x_13_1⟩ := jo9
        have e9 : keys_10 = keys_13 := jU_eq hU g_keys_10 g_keys_13 (show (20 : Nat) ≠ 0 by decide) (show uq 228 = true by decide)
        subst e9
        have e9 : j_tongue = tongue_13 := jU_eq hU g_j_tongue g_tongue_13 (show (30 : Nat) ≠ 0 by decide) (show uq 9 = true by decide)
        subst e9
        have e9 : lattice_10 = lattice_13 := jU_eq hU g_lattice_10 g_lattice_13 (show (30 : Nat) ≠ 0 by decide) (show uq 3 = true by decide)
        subst e9
        refine va_callv (va_runV (As := []) (rest := []) ⟨hx, hb, hml, hown, hts⟩ (c_tell l dC dI ca A X hU H x_8 g_x_8) (cwV 0 hts gX11_part_X4_tell rfl rfl rfl (by decide +kernel) ⟨Nat.le_of_ble_eq_true rfl, Nat.le_of_ble_eq_true rfl⟩) ⟨fun a U g mk q => by obtain ⟨q0, qH, ⟨qK, qN⟩, qI⟩ := q; exact ⟨q0, qH, ⟨va_K.moved (u := U) (U := U.calling g mk a) (Vm.Alike.refl U.vm) qK, jN_same (U := U.calling g mk a) rfl qN⟩, qI⟩, va_recv hK (at_P co_13) (ci := 4) (q0 := 0) rfl rfl, fun U hU hW => ⟨rfl, hU, jK_warm hW ⟨hK, hN⟩, by rw [hU]; exact hI⟩⟩ rfl rfl hl.1 rfl (lv_room (Nat.le_of_ble_eq_true rfl)) dX11_part_105 ⟨Nat.le_of_ble_eq_true rfl, Nat.le_of_ble_eq_true rfl⟩) hS (fun q _ h => h) (fun q h => h) (fun X t9 H locs ht hvm hw_14 hB hz1 hk1 hS => ?_)
        obtain ⟨-, hI, hf9⟩ := hB
        rw [ht] at hI hf9
        have hFz := (hf9 z9 (by rw [g_z]; rcases hcz with h9 | h9 <;> first | (simp [h9]; done) | (simp [Lc, h9]; done))).trans hFz
        clear ht hvm hz1
        have hO := fm_at hf9 g_o (show (999 : Nat) ∉ ([0, 4, 5, 210, 211, 228] : List Nat) by decide) hO
        have g_z := up_t hw_14 g_z
        have g_o := up_t hw_14 g_o
        have g_j_tape := up_t hw_14 g_j_tape
        have g_j_tongue := up_t hw_14 g_j_tongue
        have g_j_row := up_t hw_14 g_j_row
        have g_j_trees := up_t hw_14 g_j_trees
        have g_j_choices := up_t hw_14 g_j_choices
        have g_x_8 := up_t hw_14 g_x_8
        have g_bytes_1 := up_t hw_14 g_bytes_1
        have g_told_10 := up_t hw_14 g_told_10
        have g_grown_10 := up_t hw_14 g_grown_10
        have g_keys_10 := up_t hw_14 g_keys_10
        have g_lattice_10 := up_t hw_14 g_lattice_10
        have g_told_13 := up_t hw_14 g_told_13
        have g_grown_13 := up_t hw_14 g_grown_13
        have hU := up_U hw_14 hU
        have hP := prl_up hP hw_14
        clear hk1 hf9
        refine lv_aload_n hx hb dX11_part_108 rfl (lv_at hl 2 rfl) ?_
        refine iz_get (D := (dC, dI)) (ci := 11) (v := .ref x_8) (C := RX11) (T := TX11) (N := 7) hx hb hts hinX11 hown hK hO rfl 5 (by decide) hL44 (fun _ h9 => h9) rfl dX11_part_109 ?_
        obtain ⟨fs9, co_16, jo9⟩ := jv_o4 hI g_x_8
        obtain ⟨pp_16, countedUncut_16, counted_16, left_16, told_16, toldCount_16, grown_16, keys_16, keyCount_16, tongue_16, lattice_16, rfl, ⟨left_16a, left_16b⟩, g_told_16, ⟨toldCount_16a, toldCount_16b⟩, g_grown_16, g_keys_16, ⟨keyCount_16a, keyCount_16b⟩, g_tongue_16, g_lattice_16, x_16_0, x_16_1⟩ := jo9
        have e9 : keys_10 = keys_16 := jU_eq hU g_keys_10 g_keys_16 (show (20 : Nat) ≠ 0 by decide) (show uq 228 = true by decide)
        subst e9
        have e9 : j_tongue = tongue_16 := jU_eq hU g_j_tongue g_tongue_16 (show (30 : Nat) ≠ 0 by decide) (show uq 9 = true by decide)
        subst e9
        have e9 : lattice_10 = lattice_16 := jU_eq hU g_lattice_10 g_lattice_16 (show (30 : Nat) ≠ 0 by decide) (show uq 3 = true by decide)
        subst e9
        refine iz_get (D := (dC, dI)) (ci := 4) (v := .long counted_16) (C := RX4) (T := TX4) (N := 10) hx hb hts hinX4 hown hK co_16 rfl 1 (by decide) hL191 (fun _ h9 => h9) rfl dX11_part_112 ?_
        refine W.widen (k := 277) (n := 23025) (Nat.le_of_ble_eq_true rfl) (Nat.le_of_ble_eq_true rfl) ?_
        exact W.lret (v := counted_16) hx hb hr (fun t9 ht hW => ⟨⟨counted_16, (X, st, some x_8), rfl, ⟨hP, rfl, fun b9 q9 => (by cases q9; exact g_x_8), fun q9 => (by cases q9)⟩, jK_warm hW ⟨hK, hN⟩, by rw [ht]; exact ⟨hI, hO, hFz⟩⟩, hS.F ht⟩) hS.2.2 dX11_part_115
      · exact absurd hday hw_6
    · exact absurd hlet hw_4
  · exact absurd hsz1 hw_2
set_option maxHeartbeats 4000000 in
set_option maxRecDepth 100000 in
theorem j_partBZ (l : Launch) (dC : Nat → ClassId) (dI : Nat → Nat → Nat) (ca : Nat → ClassId) (A : Nat → Prop) (X : jG) (hU : jU X) (Hp : Heap) (z9 cz kdz nz : Nat) (loz hiz : Int) (g_z : X.1 z9 = (cz, kdz, nz, loz, hiz)) (hcz : cz = 214 ∨ cz = 229) (hkz : kdz ≠ 0) (o : Nat) (j_tape : Nat) (j_tongue : Nat) (j_row : Nat) (j_trees : Nat) (j_choices : Nat) (st : Int) (day : Int) (bytes_1 : Nat) (size_1 : Int) (f1 : Nat → Int32) (g_o : X.1 o = (999, 0, 0, 0, 0)) (hAo : A o) (g_j_tape : X.1 j_tape = (8, 30, 0, 0, 0)) (g_j_tongue : X.1 j_tongue = (9, 30, 0, 0, 0)) (g_j_row : X.1 j_row = (6, 30, 0, 0, 0)) (g_j_trees : X.1 j_trees = (10, 30, 0, 0, 0)) (g_j_choices : X.1 j_choices = (1, 30, 0, 0, 0)) (hst : 0 ≤ st ∧ st ≤ 20) (dayr : -2147483648 ≤ day ∧ day ≤ 2147483647) (g_bytes_1 : X.1 bytes_1 = (200, 21, 60, 0, 0)) (hsz1 : 0 ≤ size_1 ∧ size_1 ≤ 60) (hbad : ¬ ((1 ≤ size_1 ∧ size_1 ≤ 40) ∧ (∀ z : Int, 0 ≤ z → z < size_1 → 97 ≤ ge1 f1 z ∧ ge1 f1 z ≤ 122) ∧ (0 ≤ day ∧ day ≤ 999))) : Met l yX11_part wsX11_part ({ frames := 7, cells := 0, slots := 0, locals := 164 }) (va_Pc [.ref o, .int (kz day)] (fun U => U.heap = Hp ∧ jK (dC, dI) ca U ∧ jv (dC, dI) ca A X U.heap ∧ va_at (dC, dI) vwCl (o, .inr (11, [.ref j_tape, .ref j_tongue, .ref j_row, .ref j_trees, .ref j_choices, va_rf none, .int (kz st)])) U.heap ∧ va_at (dC, dI) vwCl (j_tape, .inr (8, [.ref bytes_1, .int (kz size_1)])) U.heap ∧ va_at (dC, dI) vwCl (bytes_1, .inl (ca 21, 60, .inl f1)) U.heap)) (va_Ql (fun (r : Int64) (u : Int) => u = st) (fun (u : Int) U => jK (dC, dI) ca U ∧ jv (dC, dI) ca A X U.heap ∧ va_at (dC, dI) vwCl (o, .inr (11, [.ref j_tape, .ref j_tongue, .ref j_row, .ref j_trees, .ref j_choices, va_rf none, .int (kz u)])) U.heap ∧ U.heap[z9]? = Hp[z9]?) A) 0 0 A := by
  refine Met.ofW (cc := cX11_part) (maxL := 4) (ret := (some .long)) (by decide) rfl ?_
  intro p e s m args below meth c s₁ B hml hv
  obtain ⟨rfl, hHp, ⟨hK, hN⟩, hI, hO, co_1, c_f1⟩ := hv
  have hx := B.exec
  have hb := B.bytes
  have hr := B.returns
  have hts := atoms_spec (ws := wsX11_part) B.pre
  have hown : s.vm.findClass RX11 = some m.cls := findClass_of_methodNamed B.named
  have hL12 := hts (.fieldLink RX11 12 "JoinBench" "tape" "LJoinBench$Tape;") (by decide +kernel)
  have hL60 := hts (.fieldLink RX11 60 "JoinBench$Tape" "size" "I") (by decide +kernel)
  have hL44 := hts (.fieldLink RX11 44 "JoinBench" "parter" "LJoinBench$Parter;") (by decide +kernel)
  have hL19 := hts (.fieldLink RX11 19 "JoinBench" "tongue" "LJoinBench$Tongue;") (by decide +kernel)
  have hL181 := hts (.fieldLink RX11 181 "JoinBench$Tape" "bytes" "[B") (by decide +kernel)
  have hL191 := hts (.fieldLink RX11 191 "JoinBench$Parter" "counted" "J") (by decide +kernel)
  have hinX11 : ∀ w ∈ u_ws RX11 TX11 7, w ∈ wsX11_part := by decide +kernel
  have hinX4 : ∀ w ∈ u_ws RX4 TX4 10, w ∈ wsX11_part := by decide +kernel
  have hinX8 : ∀ w ∈ u_ws RX8 TX8 2, w ∈ wsX11_part := by decide +kernel
  obtain ⟨H, hH⟩ : ∃ H : Heap, H = s.heap := ⟨_, rfl⟩
  have hS : va_S A s.heap H [] := by rw [hH]; exact va_S.rf
  have hFz : H[z9]? = Hp[z9]? := by rw [hH, hHp]
  rw [← hH] at hI hO co_1 c_f1 ⊢
  clear hH
  have hl := lv_entry ([.ref o, .int (kz day)]) (n := 4) (Nat.le_of_ble_eq_true rfl)
  rw [lg_entry_eq]
  generalize (lg_sl ([.ref o, .int (kz day)]) ++ List.replicate (4 - (lg_sl ([.ref o, .int (kz day)])).length) Slot.unset).toArray = ls at hl ⊢
  have hl : lv_has ls 4 [(0, .ref o), (1, .int (kz day))] := hl
  refine lv_aload_n hx hb dX11_part_0 rfl (lv_at hl 0 rfl) ?_
  refine iz_get (D := (dC, dI)) (ci := 11) (v := .ref j_tape) (C := RX11) (T := TX11) (N := 7) hx hb hts hinX11 hown hK hO rfl 0 (by decide) hL12 (fun _ h9 => h9) rfl dX11_part_1 ?_
  refine iz_get (D := (dC, dI)) (ci := 8) (v := .int (kz size_1)) (C := RX8) (T := TX8) (N := 2) hx hb hts hinX8 hown hK co_1 rfl 1 (by decide) hL60 (fun _ h9 => h9) rfl dX11_part_4 ?_
  refine lv_iconst (v := kz 1) hx hb dX11_part_7 rfl ?_
  refine lv_bipush (v := kz 40) hx hb dX11_part_8 (by decide) ?_
  refine vp_callSi (va_Run.run (va_runS (As := [.int (kz size_1), .int (kz 1), .int (kz 40)]) (rest := []) ⟨hx, hb, hml, hown, hts⟩ (c_within l size_1 1 40 (by omega) (by omega) (by omega)) (va_cwS 3 hts gX11_part_X11_within rfl rfl rfl (by decide +kernel) ⟨Nat.le_of_ble_eq_true rfl, Nat.le_of_ble_eq_true rfl⟩) ⟨fun a U g mk q => q, fun U hU hW => ⟨rfl, trivial⟩⟩ rfl rfl hl.1 rfl (lv_room (Nat.le_of_ble_eq_true rfl)) dX11_part_10 ⟨Nat.le_of_ble_eq_true rfl, Nat.le_of_ble_eq_true rfl⟩)) (fun r_3 hw_2 => ?_)
  rcases hw_2 with ⟨rfl, hw_2⟩ | ⟨rfl, hw_2⟩
  · refine iz_eqz (tgt := 37) hx hb dX11_part_13 (by decide) (by unfold rg2; omega) (fun q9 => absurd q9 (by decide)) (fun _ => ?_)
    refine lv_aload_n hx hb dX11_part_16 rfl (lv_at hl 0 rfl) ?_
    refine iz_get (D := (dC, dI)) (ci := 11) (v := .ref j_tape) (C := RX11) (T := TX11) (N := 7) hx hb hts hinX11 hown hK hO rfl 0 (by decide) hL12 (fun _ h9 => h9) rfl dX11_part_17 ?_
    refine vp_callSi (va_Run.run (va_runV (As := []) (rest := []) ⟨hx, hb, hml, hown, hts⟩ (c_hasOnlyLettersE l dC dI ca j_tape bytes_1 size_1 f1 (by omega)) (cwV 0 hts gX11_part_X8_hasOnlyLetters rfl rfl rfl (by decide +kernel) ⟨Nat.le_of_ble_eq_true rfl, Nat.le_of_ble_eq_true rfl⟩) ⟨fun a U g mk q => by obtain ⟨q0, ⟨qK, qN⟩, qI⟩ := q; exact ⟨q0, ⟨va_K.moved (u := U) (U := U.calling g mk a) (Vm.Alike.refl U.vm) qK, jN_same (U := U.calling g mk a) rfl qN⟩, qI⟩, va_recv hK (at_P co_1) (ci := 8) (q0 := 0) rfl rfl, fun U hU hW => ⟨rfl, jK_warm hW ⟨hK, hN⟩, by rw [hU]; exact ⟨co_1, c_f1⟩⟩⟩ rfl rfl hl.1 rfl (lv_room (Nat.le_of_ble_eq_true rfl)) dX11_part_20 ⟨Nat.le_of_ble_eq_true rfl, Nat.le_of_ble_eq_true rfl⟩)) (fun r_5 hw_4 => ?_)
    rcases hw_4 with ⟨rfl, hw_4⟩ | ⟨rfl, hw_4⟩
    · refine iz_eqz (tgt := 37) hx hb dX11_part_23 (by decide) (by unfold rg2; omega) (fun q9 => absurd q9 (by decide)) (fun _ => ?_)
      refine lv_iload_n hx hb dX11_part_26 rfl (lv_at hl 1 rfl) ?_
      refine vp_callSi (va_Run.run (va_runS (As := [.int (kz day)]) (rest := []) ⟨hx, hb, hml, hown, hts⟩ (c_isDay l day (by omega)) (va_cwS 1 hts gX11_part_X11_isDay rfl rfl rfl (by decide +kernel) ⟨Nat.le_of_ble_eq_true rfl, Nat.le_of_ble_eq_true rfl⟩) ⟨fun a U g mk q => q, fun U hU hW => ⟨rfl, trivial⟩⟩ rfl rfl hl.1 rfl (lv_room (Nat.le_of_ble_eq_true rfl)) dX11_part_27 ⟨Nat.le_of_ble_eq_true rfl, Nat.le_of_ble_eq_true rfl⟩)) (fun r_7 hw_6 => ?_)
      rcases hw_6 with ⟨rfl, hw_6⟩ | ⟨rfl, hw_6⟩
      · exact absurd ⟨hw_2, hw_4, hw_6⟩ hbad
      · refine iz_eqz (tgt := 37) hx hb dX11_part_30 (by decide) (by unfold rg2; omega) (fun _ => ?_) (fun q9 => absurd q9 (by decide))
        refine lv_iconst (v := kz 0) hx hb dX11_part_37 rfl ?_
        refine lv_istore_n (lv' := [(2, .int (kz 0)), (0, .ref o), (1, .int (kz day))]) hx hb dX11_part_38 rfl hl (by decide) rfl (fun ls hl => ?_)
        refine lv_aload_n hx hb dX11_part_39 rfl (lv_at hl 1 rfl) ?_
        refine iz_get (D := (dC, dI)) (ci := 11) (v := .ref j_tape) (C := RX11) (T := TX11) (N := 7) hx hb hts hinX11 hown hK hO rfl 0 (by decide) hL12 (fun _ h9 => h9) rfl dX11_part_40 ?_
        refine iz_get (D := (dC, dI)) (ci := 8) (v := .int (kz size_1)) (C := RX8) (T := TX8) (N := 2) hx hb hts hinX8 hown hK co_1 rfl 1 (by decide) hL60 (fun _ h9 => h9) rfl dX11_part_43 ?_
        refine lv_istore_n (lv' := [(3, .int (kz size_1)), (2, .int (kz 0)), (0, .ref o), (1, .int (kz day))]) hx hb dX11_part_46 rfl hl (by decide) rfl (fun ls hl => ?_)
        refine lv_aload_n hx hb dX11_part_47 rfl (lv_at hl 2 rfl) ?_
        refine iz_get (D := (dC, dI)) (ci := 11) (v := .ref j_tape) (C := RX11) (T := TX11) (N := 7) hx hb hts hinX11 hown hK hO rfl 0 (by decide) hL12 (fun _ h9 => h9) rfl dX11_part_48 ?_
        refine lv_iconst (v := kz 0) hx hb dX11_part_51 rfl ?_
        refine iz_put (D := (dC, dI)) (ci := 8) (v := .int (kz 0)) (ty := .int) (C := RX8) (T := TX8) (N := 2) hx hb hts hinX8 tyX8 tyX8_ok nmX8 hown hK co_1 hS (jv_A hI g_j_tape (show (30 : Nat) ≠ 0 by decide)) rfl 1 (by decide) hL60 (fun _ h9 => h9) rfl (by decide +kernel) rfl rfl (Nat.le_of_ble_eq_true rfl) dX11_part_52 (fun H locs c9 oq hS => ?_)
        have hFz := (oq _ (kn_ne g_z g_j_tape (by first | (show cz ≠ (8 : Nat); omega) | (show cz ≠ (9 : Nat); omega) | (show cz ≠ (10 : Nat); omega) | (show cz ≠ (6 : Nat); omega) | (show cz ≠ (1 : Nat); omega) | (show cz ≠ (2 : Nat); omega) | (show cz ≠ (7 : Nat); omega) | (show cz ≠ (212 : Nat); omega) | (show cz ≠ (213 : Nat); omega) | (show cz ≠ (200 : Nat); omega) | (show cz ≠ (201 : Nat); omega) | (show cz ≠ (202 : Nat); omega) | (show cz ≠ (238 : Nat); omega) | (show cz ≠ (237 : Nat); omega) | (show cz ≠ (215 : Nat); omega) | (show cz ≠ (203 : Nat); omega) | (show cz ≠ (210 : Nat); omega) | (show cz ≠ (211 : Nat); omega) | (show cz ≠ (0 : Nat); omega)))).trans hFz
        have hI := jv_set hI c9 oq (by rw [g_j_tape]; exact jv_c8 ⟨bytes_1, 0, rfl, g_bytes_1, ⟨by omega, by omega⟩⟩)
        have hO := hO.kept (oq _ (kn_ne g_o g_j_tape (show (999 : Nat) ≠ 8 by decide)))
        have co_1 := c9
        clear oq c9
        refine lv_iload_n hx hb dX11_part_55 rfl (lv_at hl 1 rfl) ?_
        refine iz_nez (tgt := 63) hx hb dX11_part_56 (by decide) (by unfold rg2; omega) (fun q9 => absurd q9 (by decide)) (fun _ => ?_)
        refine lv_ldc2 (own := RX11) (v := (-1)) hx hb hown (hts (.constantLong RX11 174 (-1)) (by decide +kernel)) dX11_part_59 ?_
        exact W.lret (v := (-1)) hx hb hr (fun t9 ht hW => ⟨⟨(-1), st, rfl, rfl, jK_warm hW ⟨hK, hN⟩, by rw [ht]; exact ⟨hI, hO, hFz⟩⟩, hS.F ht⟩) hS.2.2 dX11_part_62
    · refine iz_eqz (tgt := 37) hx hb dX11_part_23 (by decide) (by unfold rg2; omega) (fun _ => ?_) (fun q9 => absurd q9 (by decide))
      refine lv_iconst (v := kz 0) hx hb dX11_part_37 rfl ?_
      refine lv_istore_n (lv' := [(2, .int (kz 0)), (0, .ref o), (1, .int (kz day))]) hx hb dX11_part_38 rfl hl (by decide) rfl (fun ls hl => ?_)
      refine lv_aload_n hx hb dX11_part_39 rfl (lv_at hl 1 rfl) ?_
      refine iz_get (D := (dC, dI)) (ci := 11) (v := .ref j_tape) (C := RX11) (T := TX11) (N := 7) hx hb hts hinX11 hown hK hO rfl 0 (by decide) hL12 (fun _ h9 => h9) rfl dX11_part_40 ?_
      refine iz_get (D := (dC, dI)) (ci := 8) (v := .int (kz size_1)) (C := RX8) (T := TX8) (N := 2) hx hb hts hinX8 hown hK co_1 rfl 1 (by decide) hL60 (fun _ h9 => h9) rfl dX11_part_43 ?_
      refine lv_istore_n (lv' := [(3, .int (kz size_1)), (2, .int (kz 0)), (0, .ref o), (1, .int (kz day))]) hx hb dX11_part_46 rfl hl (by decide) rfl (fun ls hl => ?_)
      refine lv_aload_n hx hb dX11_part_47 rfl (lv_at hl 2 rfl) ?_
      refine iz_get (D := (dC, dI)) (ci := 11) (v := .ref j_tape) (C := RX11) (T := TX11) (N := 7) hx hb hts hinX11 hown hK hO rfl 0 (by decide) hL12 (fun _ h9 => h9) rfl dX11_part_48 ?_
      refine lv_iconst (v := kz 0) hx hb dX11_part_51 rfl ?_
      refine iz_put (D := (dC, dI)) (ci := 8) (v := .int (kz 0)) (ty := .int) (C := RX8) (T := TX8) (N := 2) hx hb hts hinX8 tyX8 tyX8_ok nmX8 hown hK co_1 hS (jv_A hI g_j_tape (show (30 : Nat) ≠ 0 by decide)) rfl 1 (by decide) hL60 (fun _ h9 => h9) rfl (by decide +kernel) rfl rfl (Nat.le_of_ble_eq_true rfl) dX11_part_52 (fun H locs c9 oq hS => ?_)
      have hFz := (oq _ (kn_ne g_z g_j_tape (by first | (show cz ≠ (8 : Nat); omega) | (show cz ≠ (9 : Nat); omega) | (show cz ≠ (10 : Nat); omega) | (show cz ≠ (6 : Nat); omega) | (show cz ≠ (1 : Nat); omega) | (show cz ≠ (2 : Nat); omega) | (show cz ≠ (7 : Nat); omega) | (show cz ≠ (212 : Nat); omega) | (show cz ≠ (213 : Nat); omega) | (show cz ≠ (200 : Nat); omega) | (show cz ≠ (201 : Nat); omega) | (show cz ≠ (202 : Nat); omega) | (show cz ≠ (238 : Nat); omega) | (show cz ≠ (237 : Nat); omega) | (show cz ≠ (215 : Nat); omega) | (show cz ≠ (203 : Nat); omega) | (show cz ≠ (210 : Nat); omega) | (show cz ≠ (211 : Nat); omega) | (show cz ≠ (0 : Nat); omega)))).trans hFz
      have hI := jv_set hI c9 oq (by rw [g_j_tape]; exact jv_c8 ⟨bytes_1, 0, rfl, g_bytes_1, ⟨by omega, by omega⟩⟩)
      have hO := hO.kept (oq _ (kn_ne g_o g_j_tape (show (999 : Nat) ≠ 8 by decide)))
      have co_1 := c9
      clear oq c9
      refine lv_iload_n hx hb dX11_part_55 rfl (lv_at hl 1 rfl) ?_
      refine iz_nez (tgt := 63) hx hb dX11_part_56 (by decide) (by unfold rg2; omega) (fun q9 => absurd q9 (by decide)) (fun _ => ?_)
      refine lv_ldc2 (own := RX11) (v := (-1)) hx hb hown (hts (.constantLong RX11 174 (-1)) (by decide +kernel)) dX11_part_59 ?_
      exact W.lret (v := (-1)) hx hb hr (fun t9 ht hW => ⟨⟨(-1), st, rfl, rfl, jK_warm hW ⟨hK, hN⟩, by rw [ht]; exact ⟨hI, hO, hFz⟩⟩, hS.F ht⟩) hS.2.2 dX11_part_62
  · refine iz_eqz (tgt := 37) hx hb dX11_part_13 (by decide) (by unfold rg2; omega) (fun _ => ?_) (fun q9 => absurd q9 (by decide))
    refine lv_iconst (v := kz 0) hx hb dX11_part_37 rfl ?_
    refine lv_istore_n (lv' := [(2, .int (kz 0)), (0, .ref o), (1, .int (kz day))]) hx hb dX11_part_38 rfl hl (by decide) rfl (fun ls hl => ?_)
    refine lv_aload_n hx hb dX11_part_39 rfl (lv_at hl 1 rfl) ?_
    refine iz_get (D := (dC, dI)) (ci := 11) (v := .ref j_tape) (C := RX11) (T := TX11) (N := 7) hx hb hts hinX11 hown hK hO rfl 0 (by decide) hL12 (fun _ h9 => h9) rfl dX11_part_40 ?_
    refine iz_get (D := (dC, dI)) (ci := 8) (v := .int (kz size_1)) (C := RX8) (T := TX8) (N := 2) hx hb hts hinX8 hown hK co_1 rfl 1 (by decide) hL60 (fun _ h9 => h9) rfl dX11_part_43 ?_
    refine lv_istore_n (lv' := [(3, .int (kz size_1)), (2, .int (kz 0)), (0, .ref o), (1, .int (kz day))]) hx hb dX11_part_46 rfl hl (by decide) rfl (fun ls hl => ?_)
    refine lv_aload_n hx hb dX11_part_47 rfl (lv_at hl 2 rfl) ?_
    refine iz_get (D := (dC, dI)) (ci := 11) (v := .ref j_tape) (C := RX11) (T := TX11) (N := 7) hx hb hts hinX11 hown hK hO rfl 0 (by decide) hL12 (fun _ h9 => h9) rfl dX11_part_48 ?_
    refine lv_iconst (v := kz 0) hx hb dX11_part_51 rfl ?_
    refine iz_put (D := (dC, dI)) (ci := 8) (v := .int (kz 0)) (ty := .int) (C := RX8) (T := TX8) (N := 2) hx hb hts hinX8 tyX8 tyX8_ok nmX8 hown hK co_1 hS (jv_A hI g_j_tape (show (30 : Nat) ≠ 0 by decide)) rfl 1 (by decide) hL60 (fun _ h9 => h9) rfl (by decide +kernel) rfl rfl (Nat.le_of_ble_eq_true rfl) dX11_part_52 (fun H locs c9 oq hS => ?_)
    have hFz := (oq _ (kn_ne g_z g_j_tape (by first | (show cz ≠ (8 : Nat); omega) | (show cz ≠ (9 : Nat); omega) | (show cz ≠ (10 : Nat); omega) | (show cz ≠ (6 : Nat); omega) | (show cz ≠ (1 : Nat); omega) | (show cz ≠ (2 : Nat); omega) | (show cz ≠ (7 : Nat); omega) | (show cz ≠ (212 : Nat); omega) | (show cz ≠ (213 : Nat); omega) | (show cz ≠ (200 : Nat); omega) | (show cz ≠ (201 : Nat); omega) | (show cz ≠ (202 : Nat); omega) | (show cz ≠ (238 : Nat); omega) | (show cz ≠ (237 : Nat); omega) | (show cz ≠ (215 : Nat); omega) | (show cz ≠ (203 : Nat); omega) | (show cz ≠ (210 : Nat); omega) | (show cz ≠ (211 : Nat); omega) | (show cz ≠ (0 : Nat); omega)))).trans hFz
    have hI := jv_set hI c9 oq (by rw [g_j_tape]; exact jv_c8 ⟨bytes_1, 0, rfl, g_bytes_1, ⟨by omega, by omega⟩⟩)
    have hO := hO.kept (oq _ (kn_ne g_o g_j_tape (show (999 : Nat) ≠ 8 by decide)))
    have co_1 := c9
    clear oq c9
    refine lv_iload_n hx hb dX11_part_55 rfl (lv_at hl 1 rfl) ?_
    refine iz_nez (tgt := 63) hx hb dX11_part_56 (by decide) (by unfold rg2; omega) (fun q9 => absurd q9 (by decide)) (fun _ => ?_)
    refine lv_ldc2 (own := RX11) (v := (-1)) hx hb hown (hts (.constantLong RX11 174 (-1)) (by decide +kernel)) dX11_part_59 ?_
    exact W.lret (v := (-1)) hx hb hr (fun t9 ht hW => ⟨⟨(-1), st, rfl, rfl, jK_warm hW ⟨hK, hN⟩, by rw [ht]; exact ⟨hI, hO, hFz⟩⟩, hS.F ht⟩) hS.2.2 dX11_part_62
