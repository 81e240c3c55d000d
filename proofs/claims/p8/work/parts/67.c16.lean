set_option maxHeartbeats 4000000 in
set_option maxRecDepth 100000 in
/-- X4_offerStepsBehind -/
theorem c_offerStepsBehind (l : Launch) (dC : Nat → ClassId) (dI : Nat → Nat → Nat) (ca : Nat → ClassId) (A : Nat → Prop) (X : jG) (hU : jU X) (Hp : Heap) (a0 : Nat) (pa : Nat) (ls9 : Nat) (nu : Int) (nx : Int) (id : Nat) (Q : Int → Prop) (G : Int → Prop) (pp_a0 : Int) (countedUncut_a0 : Int64) (counted_a0 : Int64) (left_a0 : Int) (told_a0 : Nat) (toldCount_a0 : Int) (grown_a0 : Nat) (keys_a0 : Nat) (keyCount_a0 : Int) (tongue_a0 : Nat) (lattice_a0 : Nat) (chain_pa : Nat) (cost_pa : Int) (spent_pa : Int) (place_pa : Int) (ended_pa : Int) (rank_pa : Int) (forms_tg : Nat) (rules_tg : Nat) (formCount_tg : Int) (ruleCount_tg : Int) (forbidden_tg : Nat) (kf : Nat → Int32) (tf : Nat → Option Nat) (g_a0 : X.1 a0 = (4, 30, 0, 0, 0)) (g_pa : X.1 pa = (5, 30, id, 0, 0)) (g_ls9 : X.1 ls9 = (2, 30, 0, 0, 0)) (left_a0i : 0 ≤ left_a0 ∧ left_a0 ≤ 1) (g_told_a0 : X.1 told_a0 = (226, 26, 8, pp_a0, 0)) (toldCount_a0i : 0 ≤ toldCount_a0 ∧ toldCount_a0 ≤ 8) (g_grown_a0 : X.1 grown_a0 = (226, 26, 8, 1 - pp_a0, 0)) (g_keys_a0 : X.1 keys_a0 = (228, 20, 8, -2147483648, 2147483647)) (keyCount_a0i : 0 ≤ keyCount_a0 ∧ keyCount_a0 ≤ 8) (g_tongue_a0 : X.1 tongue_a0 = (9, 30, 0, 0, 0)) (g_lattice_a0 : X.1 lattice_a0 = (3, 30, 0, 0, 0)) (x_a0_0 : 0 ≤ pp_a0) (x_a0_1 : pp_a0 ≤ 1) (g_chain_pa : X.1 chain_pa = (0, 30, id, 0, 0)) (cost_pai : -2147483648 ≤ cost_pa ∧ cost_pa ≤ 2147483647) (spent_pai : -2147483648 ≤ spent_pa ∧ spent_pa ≤ 2147483647) (place_pai : 0 ≤ place_pa ∧ place_pa ≤ 60) (ended_pai : 0 ≤ ended_pa ∧ ended_pa ≤ 1) (rank_pai : 0 ≤ rank_pa ∧ rank_pa ≤ 7) (g_forms_tg : X.1 forms_tg = (212, 24, 40, 2, 0)) (g_rules_tg : X.1 rules_tg = (213, 29, 24, 7, 0)) (formCount_tgi : 0 ≤ formCount_tg ∧ formCount_tg ≤ 40) (ruleCount_tgi : 0 ≤ ruleCount_tg ∧ ruleCount_tg ≤ 24) (g_forbidden_tg : X.1 forbidden_tg = (214, 22, 36, 0, 0)) (x_tg_0 : formCount_tg ≤ (X.2.1 forms_tg : Int)) (x_tg_1 : ruleCount_tg ≤ (X.2.1 rules_tg : Int)) (x_tg_2 : ruleCount_tg = (X.2.2.2 : Int)) (nui : 0 ≤ nu ∧ nu < (X.2.2.2 : Int)) (nui2 : nu ≤ 23) (nxi : 0 ≤ nx ∧ nx ≤ 39) (hKS : KS kf keyCount_a0 (PS Q G rank_pa ((2 + nu) * 64))) (hQ : ∀ m : Int, Q m → m / 2048 ≠ rank_pa) (hG : ∀ i : Int, 0 ≤ i ∧ i < 40 → (∀ a : Nat, tf i.toNat = some a → X.2.2.1 nu.toNat ≤ (X.2.1 a : Int)) → G ((2 + nu) * 64 + i)) : Met l yX4_offerStepsBehind wsX4_offerStepsBehind ({ frames := 2, cells := 0, slots := 0, locals := 44 }) (va_Pc [.ref a0, .ref pa, .ref ls9, .int (kz nu), .int (kz nx)] (fun U => U.heap = Hp ∧ jK (dC, dI) ca U ∧ jv (dC, dI) ca A X U.heap ∧ va_at (dC, dI) vwCl (a0, .inr (4, [.long countedUncut_a0, .long counted_a0, .int (kz left_a0), .ref told_a0, .int (kz toldCount_a0), .ref grown_a0, .ref keys_a0, .int (kz keyCount_a0), .ref tongue_a0, .ref lattice_a0])) U.heap ∧ va_at (dC, dI) vwCl (pa, .inr (5, [.ref chain_pa, .int (kz cost_pa), .int (kz spent_pa), .int (kz place_pa), .int (kz ended_pa), .int (kz rank_pa)])) U.heap ∧ va_at (dC, dI) vwCl (tongue_a0, .inr (9, [.ref forms_tg, .ref rules_tg, .int (kz formCount_tg), .int (kz ruleCount_tg), .ref forbidden_tg])) U.heap ∧ va_at (dC, dI) vwCl (keys_a0, .inl (ca 20, 8, .inl kf)) U.heap ∧ va_at (dC, dI) vwCl (forms_tg, je_q ca 40 24 tf) U.heap)) (va_Qv (fun (u : (Nat → Int32) × Int) => KS u.1 u.2 (PS Q G rank_pa ((3 + nu) * 64)) ∧ 0 ≤ u.2 ∧ u.2 ≤ 8) (fun (u : (Nat → Int32) × Int) U => jK (dC, dI) ca U ∧ jv (dC, dI) ca A X U.heap ∧ kfm X [4, 228] Hp U.heap ∧ va_at (dC, dI) vwCl (a0, .inr (4, [.long countedUncut_a0, .long counted_a0, .int (kz left_a0), .ref told_a0, .int (kz toldCount_a0), .ref grown_a0, .ref keys_a0, .int (kz u.2), .ref tongue_a0, .ref lattice_a0])) U.heap ∧ va_at (dC, dI) vwCl (keys_a0, .inl (ca 20, 8, .inl u.1)) U.heap) A) 0 0 A := by
  refine Met.ofW (cc := cX4_offerStepsBehind) (maxL := 9) (ret := none) (by decide) rfl ?_
  intro p e s m args below meth c s₁ B hml hv
  obtain ⟨rfl, hHp, ⟨hK, hN⟩, hI, co_a0, co_pa, co_tg, c_kf, c_tf⟩ := hv
  have hx := B.exec
  have hb := B.bytes
  have hr := B.returns
  have hts := atoms_spec (ws := wsX4_offerStepsBehind) B.pre
  have hown : s.vm.findClass RX4 = some m.cls := findClass_of_methodNamed B.named
  have hL42 := hts (.fieldLink RX4 42 "JoinBench$Parter" "tongue" "LJoinBench$Tongue;") (by decide +kernel)
  have hL178 := hts (.fieldLink RX4 178 "JoinBench$Tongue" "rules" "[LJoinBench$Rule;") (by decide +kernel)
  have hL118 := hts (.fieldLink RX4 118 "JoinBench$Path" "spent" "I") (by decide +kernel)
  have hL153 := hts (.fieldLink RX4 153 "JoinBench$Form" "cost" "I") (by decide +kernel)
  have hL190 := hts (.fieldLink RX4 190 "JoinBench$Rule" "cost" "I") (by decide +kernel)
  have hL85 := hts (.fieldLink RX4 85 "JoinBench$Tongue" "formCount" "I") (by decide +kernel)
  have hL51 := hts (.fieldLink RX4 51 "JoinBench$Parter" "lattice" "LJoinBench$Lattice;") (by decide +kernel)
  have hL160 := hts (.fieldLink RX4 160 "JoinBench$Tongue" "forms" "[LJoinBench$Form;") (by decide +kernel)
  have hL88 := hts (.fieldLink RX4 88 "JoinBench$Lattice" "cheapest" "[[I") (by decide +kernel)
  have hL197 := hts (.fieldLink RX4 197 "JoinBench$Rule" "beginningSize" "I") (by decide +kernel)
  have hL127 := hts (.fieldLink RX4 127 "JoinBench$Path" "rank" "I") (by decide +kernel)
  have hinX2 : ∀ w ∈ u_ws RX2 TX2 8, w ∈ wsX4_offerStepsBehind := by decide +kernel
  have hinX3 : ∀ w ∈ u_ws RX3 TX3 11, w ∈ wsX4_offerStepsBehind := by decide +kernel
  have hinX4 : ∀ w ∈ u_ws RX4 TX4 10, w ∈ wsX4_offerStepsBehind := by decide +kernel
  have hinX5 : ∀ w ∈ u_ws RX5 TX5 6, w ∈ wsX4_offerStepsBehind := by decide +kernel
  have hinX7 : ∀ w ∈ u_ws RX7 TX7 9, w ∈ wsX4_offerStepsBehind := by decide +kernel
  have hinX9 : ∀ w ∈ u_ws RX9 TX9 5, w ∈ wsX4_offerStepsBehind := by decide +kernel
  obtain ⟨H, hH⟩ : ∃ H : Heap, H = s.heap := ⟨_, rfl⟩
  have hS : va_S A s.heap H [] := by rw [hH]; exact va_S.rf
  have hF : kfm X [4, 228] Hp H := by rw [hH, hHp]; exact fm_rf _ _ _
  rw [← hH] at hI co_a0 co_pa co_tg c_kf c_tf ⊢
  clear hH
  have k_kf := ok20_full (X := jk X) (a := keys_a0) (n := 8) kf
  have k_tf := kq24 hI g_forms_tg c_tf
  have hl := lv_entry ([.ref a0, .ref pa, .ref ls9, .int (kz nu), .int (kz nx)]) (n := 9) (Nat.le_of_ble_eq_true rfl)
  rw [lg_entry_eq]
  generalize (lg_sl ([.ref a0, .ref pa, .ref ls9, .int (kz nu), .int (kz nx)]) ++ List.replicate (9 - (lg_sl ([.ref a0, .ref pa, .ref ls9, .int (kz nu), .int (kz nx)])).length) Slot.unset).toArray = ls at hl ⊢
  have hl : lv_has ls 9 [(0, .ref a0), (1, .ref pa), (2, .ref ls9), (3, .int (kz nu)), (4, .int (kz nx))] := hl
  refine lv_aload_n hx hb dX4_offerStepsBehind_0 rfl (lv_at hl 0 rfl) ?_
  refine iz_get (D := (dC, dI)) (ci := 4) (v := .ref tongue_a0) (C := RX4) (T := TX4) (N := 10) hx hb hts hinX4 hown hK co_a0 rfl 8 (by decide) hL42 (fun _ h9 => h9) rfl dX4_offerStepsBehind_1 ?_
  refine iz_get (D := (dC, dI)) (ci := 9) (v := .ref rules_tg) (C := RX9) (T := TX9) (N := 5) hx hb hts hinX9 hown hK co_tg rfl 1 (by decide) hL178 (fun _ h9 => h9) rfl dX4_offerStepsBehind_4 ?_
  refine lv_iload_n hx hb dX4_offerStepsBehind_7 rfl (lv_at hl 3 rfl) ?_
  obtain ⟨f_1, c_f_1, k_f_1⟩ := jv_q29 hI g_rules_tg
  refine jz_aald hx hb hK 5 c_f_1 rfl rfl (by omega) (by decide) dX4_offerStepsBehind_8 ?_
  obtain ⟨b_2, eb_2⟩ : ∃ b9 : Nat, f_1 (Int.toNat nu) = some b9 := Option.ne_none_iff_exists'.mp ((k_f_1 (Int.toNat nu) (by omega)).2 (by omega))
  have g_b_2 := (k_f_1 (Int.toNat nu) (by omega)).1 b_2 eb_2
  rw [eb_2]
  refine W.eq (g2 := F0 m 9 ls [.ref b_2]) rfl ?_
  refine lv_astore (lv' := [(5, .ref b_2), (0, .ref a0), (1, .ref pa), (2, .ref ls9), (3, .int (kz nu)), (4, .int (kz nx))]) hx hb dX4_offerStepsBehind_9 hl (by decide) rfl (fun ls hl => ?_)
  refine lv_aload_n hx hb dX4_offerStepsBehind_11 rfl (lv_at hl 2 rfl) ?_
  refine iz_get (D := (dC, dI)) (ci := 5) (v := .int (kz spent_pa)) (C := RX5) (T := TX5) (N := 6) hx hb hts hinX5 hown hK co_pa rfl 2 (by decide) hL118 (fun _ h9 => h9) rfl dX4_offerStepsBehind_12 ?_
  refine lv_aload_n hx hb dX4_offerStepsBehind_15 rfl (lv_at hl 3 rfl) ?_
  obtain ⟨fs9, co_3, jo9⟩ := jv_o2 hI g_ls9
  obtain ⟨ln_3, letters_3, kind_3, stem_3, kept_3, cost_3, number_3, ends_3, begins_3, rfl, g_letters_3, ⟨kind_3a, kind_3b⟩, ⟨stem_3a, stem_3b⟩, ⟨kept_3a, kept_3b⟩, ⟨cost_3a, cost_3b⟩, ⟨number_3a, number_3b⟩, ⟨ends_3a, ends_3b⟩, ⟨begins_3a, begins_3b⟩, x_3_0, x_3_1, x_3_2, x_3_3⟩ := jo9
  refine iz_get (D := (dC, dI)) (ci := 2) (v := .int (kz cost_3)) (C := RX2) (T := TX2) (N := 8) hx hb hts hinX2 hown hK co_3 rfl 4 (by decide) hL153 (fun _ h9 => h9) rfl dX4_offerStepsBehind_16 ?_
  refine iz_iadd hx hb dX4_offerStepsBehind_19 ?_
  refine lv_aload hx hb dX4_offerStepsBehind_20 (lv_at hl 0 rfl) ?_
  obtain ⟨fs9, co_4, jo9⟩ := jv_o7 hI g_b_2
  obtain ⟨ln_4, letters_4, endSize_4, beginningSize_4, comesFrom_4, comesSize_4, cost_4, firstDay_4, lastDay_4, number_4, rfl, g_letters_4, ⟨endSize_4a, endSize_4b⟩, ⟨beginningSize_4a, beginningSize_4b⟩, ⟨comesFrom_4a, comesFrom_4b⟩, ⟨comesSize_4a, comesSize_4b⟩, ⟨cost_4a, cost_4b⟩, ⟨firstDay_4a, firstDay_4b⟩, ⟨lastDay_4a, lastDay_4b⟩, ⟨number_4a, number_4b⟩, x_4_0, x_4_1, x_4_2, x_4_3, x_4_4, x_4_5⟩ := jo9
  refine iz_get (D := (dC, dI)) (ci := 7) (v := .int (kz cost_4)) (C := RX7) (T := TX7) (N := 9) hx hb hts hinX7 hown hK co_4 rfl 5 (by decide) hL190 (fun _ h9 => h9) rfl dX4_offerStepsBehind_22 ?_
  refine iz_iadd hx hb dX4_offerStepsBehind_25 ?_
  obtain ⟨z_5, ez_5⟩ : ∃ z9 : Int, z9 = ((spent_pa + cost_3) + cost_4) := ⟨_, rfl⟩
  rw [← ez_5]
  refine lv_istore (lv' := [(6, .int (kz z_5)), (5, .ref b_2), (0, .ref a0), (1, .ref pa), (2, .ref ls9), (3, .int (kz nu)), (4, .int (kz nx))]) hx hb dX4_offerStepsBehind_26 hl (by decide) rfl (fun ls hl => ?_)
  refine lv_iconst (v := kz 0) hx hb dX4_offerStepsBehind_28 rfl ?_
  refine lv_istore (lv' := [(7, .int (kz 0)), (6, .int (kz z_5)), (5, .ref b_2), (0, .ref a0), (1, .ref pa), (2, .ref ls9), (3, .int (kz nu)), (4, .int (kz nx))]) hx hb dX4_offerStepsBehind_29 hl (by decide) rfl (fun ls hl => ?_)
  refine iz_loopA1 (α := (Nat → Int32) × Int) (P := fun N9 u9 k H locs ls => (0 ≤ k) ∧ (k ≤ 40) ∧ (KS u9.1 u9.2 (PS Q G rank_pa ((2 + nu) * 64 + k))) ∧ (0 ≤ u9.2) ∧ (u9.2 ≤ 8) ∧ 40 - k ≤ (N9 : Int) ∧ lv_has ls 9 [(7, .int (kz k)), (6, .int (kz z_5)), (5, .ref b_2), (0, .ref a0), (1, .ref pa), (2, .ref ls9), (3, .int (kz nu)), (4, .int (kz nx))] ∧ jv (dC, dI) ca A X H ∧ va_S A s.heap H locs ∧ kfm X [4, 228] Hp H ∧ va_at (dC, dI) vwCl (a0, .inr (4, [.long countedUncut_a0, .long counted_a0, .int (kz left_a0), .ref told_a0, .int (kz toldCount_a0), .ref grown_a0, .ref keys_a0, .int (kz u9.2), .ref tongue_a0, .ref lattice_a0])) H ∧ va_at (dC, dI) vwCl (pa, .inr (5, [.ref chain_pa, .int (kz cost_pa), .int (kz spent_pa), .int (kz place_pa), .int (kz ended_pa), .int (kz rank_pa)])) H ∧ va_at (dC, dI) vwCl (tongue_a0, .inr (9, [.ref forms_tg, .ref rules_tg, .int (kz formCount_tg), .int (kz ruleCount_tg), .ref forbidden_tg])) H ∧ va_at (dC, dI) vwCl (keys_a0, .inl (ca 20, 8, .inl u9.1)) H ∧ va_at (dC, dI) vwCl (forms_tg, je_q ca 40 24 tf) H) 100000 (kf, keyCount_a0) (x0 := 0) ?_ ⟨by omega, by omega, KS_mono hKS (fun m h => PS_mono h (by omega)), by omega, by omega, by omega, lv_sub hl [0, 1, 2, 3, 4, 5, 6, 7] rfl, hI, hS, hF, co_a0, co_pa, co_tg, c_kf, c_tf⟩
  intro n_6 ⟨kf_n_6, kc_n_6⟩ k H locs ls ⟨n_6f0, n_6f1, n_6f2, n_6f3, n_6f4, n_6f5, hl, hI, hS, hF, co_a0, co_pa, co_tg, c_kf_n_6, c_tf⟩ ihn_6
  have k_kf_n_6 := ok20_full (X := jk X) (a := keys_a0) (n := 8) kf_n_6
  have co_a0 : va_at (dC, dI) vwCl (a0, .inr (4, [.long countedUncut_a0, .long counted_a0, .int (kz left_a0), .ref told_a0, .int (kz toldCount_a0), .ref grown_a0, .ref keys_a0, .int (kz kc_n_6), .ref tongue_a0, .ref lattice_a0])) H := co_a0
  have c_kf_n_6 : va_at (dC, dI) vwCl (keys_a0, .inl (ca 20, 8, .inl kf_n_6)) H := c_kf_n_6
  have n_6f0 : 0 ≤ k := n_6f0
  have n_6f1 : k ≤ 40 := n_6f1
  have n_6f2 : KS kf_n_6 kc_n_6 (PS Q G rank_pa ((2 + nu) * 64 + k)) := n_6f2
  have n_6f3 : 0 ≤ kc_n_6 := n_6f3
  have n_6f4 : kc_n_6 ≤ 8 := n_6f4
  refine lv_iload hx hb dX4_offerStepsBehind_31 (lv_at hl 0 rfl) ?_
  refine lv_aload_n hx hb dX4_offerStepsBehind_33 rfl (lv_at hl 3 rfl) ?_
  refine iz_get (D := (dC, dI)) (ci := 4) (v := .ref tongue_a0) (C := RX4) (T := TX4) (N := 10) hx hb hts hinX4 hown hK co_a0 rfl 8 (by decide) hL42 (fun _ h9 => h9) rfl dX4_offerStepsBehind_34 ?_
  refine iz_get (D := (dC, dI)) (ci := 9) (v := .int (kz formCount_tg)) (C := RX9) (T := TX9) (N := 5) hx hb hts hinX9 hown hK co_tg rfl 2 (by decide) hL85 (fun _ h9 => h9) rfl dX4_offerStepsBehind_37 ?_
  refine iz_ge (tgt := 112) hx hb dX4_offerStepsBehind_40 (by decide) (by unfold rg2; omega) (fun br_7 => ?_) (fun br_7 => ?_)
  · exact W.vret hx hb hr (fun t9 ht hW => ⟨⟨(kf_n_6, kc_n_6), rfl, ⟨KS_mono n_6f2 (fun m h => PS_mono h (by omega)), by omega, by omega⟩, jK_warm hW ⟨hK, hN⟩, by rw [ht]; exact ⟨hI, hF, co_a0, c_kf_n_6⟩⟩, hS.F ht⟩) hS.2.2 dX4_offerStepsBehind_112
  · refine lv_aload_n hx hb dX4_offerStepsBehind_43 rfl (lv_at hl 3 rfl) ?_
    refine iz_get (D := (dC, dI)) (ci := 4) (v := .ref lattice_a0) (C := RX4) (T := TX4) (N := 10) hx hb hts hinX4 hown hK co_a0 rfl 9 (by decide) hL51 (fun _ h9 => h9) rfl dX4_offerStepsBehind_44 ?_
    refine lv_iload_n hx hb dX4_offerStepsBehind_47 rfl (lv_at hl 6 rfl) ?_
    refine lv_aload_n hx hb dX4_offerStepsBehind_48 rfl (lv_at hl 5 rfl) ?_
    refine lv_aload_n hx hb dX4_offerStepsBehind_49 rfl (lv_at hl 3 rfl) ?_
    refine iz_get (D := (dC, dI)) (ci := 4) (v := .ref tongue_a0) (C := RX4) (T := TX4) (N := 10) hx hb hts hinX4 hown hK co_a0 rfl 8 (by decide) hL42 (fun _ h9 => h9) rfl dX4_offerStepsBehind_50 ?_
    refine iz_get (D := (dC, dI)) (ci := 9) (v := .ref forms_tg) (C := RX9) (T := TX9) (N := 5) hx hb hts hinX9 hown hK co_tg rfl 0 (by decide) hL160 (fun _ h9 => h9) rfl dX4_offerStepsBehind_53 ?_
    refine lv_iload hx hb dX4_offerStepsBehind_56 (lv_at hl 0 rfl) ?_
    refine jz_aald hx hb hK 4 c_tf rfl rfl (by omega) (by decide) dX4_offerStepsBehind_58 ?_
    obtain ⟨b_8, eb_8⟩ : ∃ b9 : Nat, tf (Int.toNat k) = some b9 := Option.ne_none_iff_exists'.mp ((k_tf (Int.toNat k) (by omega)).2 (by omega))
    have g_b_8 := (k_tf (Int.toNat k) (by omega)).1 b_8 eb_8
    rw [eb_8]
    refine W.eq (g2 := F0 m 59 ls [.ref b_8, .ref ls9, .int (kz nu), .ref lattice_a0]) rfl ?_
    obtain ⟨fs9, co_9, jo9⟩ := jv_o2 hI g_b_8
    obtain ⟨ln_9, letters_9, kind_9, stem_9, kept_9, cost_9, number_9, ends_9, begins_9, rfl, g_letters_9, ⟨kind_9a, kind_9b⟩, ⟨stem_9a, stem_9b⟩, ⟨kept_9a, kept_9b⟩, ⟨cost_9a, cost_9b⟩, ⟨number_9a, number_9b⟩, ⟨ends_9a, ends_9b⟩, ⟨begins_9a, begins_9b⟩, x_9_0, x_9_1, x_9_2, x_9_3⟩ := jo9
    obtain ⟨fs9, co_10, jo9⟩ := jv_o3 hI g_lattice_a0
    obtain ⟨cheapest_10, size_10, tongue_10, line_10, ways_10, plainWays_10, plainCheapest_10, ruledWays_10, ruledCheapest_10, inForce_10, barred_10, rfl, g_cheapest_10, ⟨size_10a, size_10b⟩, g_tongue_10, g_line_10, g_ways_10, g_plainWays_10, g_plainCheapest_10, g_ruledWays_10, g_ruledCheapest_10, ⟨inForce_10a, inForce_10b⟩, g_barred_10⟩ := jo9
    have e9 : tongue_a0 = tongue_10 := jU_eq hU g_tongue_a0 g_tongue_10 (show (30 : Nat) ≠ 0 by decide) (show uq 9 = true by decide)
    subst e9
    refine vp_callSi (va_Run.run (va_runV (As := [.int (kz nu), .ref ls9, .ref b_8]) (rest := []) ⟨hx, hb, hml, hown, hts⟩ (c_canMeetByX l dC dI ca A X hU lattice_a0 nu ls9 b_8 ln_9 letters_9 kind_9 stem_9 kept_9 cost_9 number_9 ends_9 begins_9 g_lattice_a0 g_ls9 g_b_8 g_letters_9 (by omega) (by omega) (by omega) (by omega) (by omega) (by omega) (by omega) (by omega) (by omega) x_9_2 (by omega) (by omega) (by omega)) (cwV 3 hts gX4_offerStepsBehind_X3_canMeetBy rfl rfl rfl (by decide +kernel) ⟨Nat.le_of_ble_eq_true rfl, Nat.le_of_ble_eq_true rfl⟩) ⟨fun a U g mk q => by obtain ⟨q0, ⟨qK, qN⟩, qI⟩ := q; exact ⟨q0, ⟨va_K.moved (u := U) (U := U.calling g mk a) (Vm.Alike.refl U.vm) qK, jN_same (U := U.calling g mk a) rfl qN⟩, qI⟩, va_recv hK (at_P co_10) (ci := 3) (q0 := 0) rfl rfl, fun U hU hW => ⟨rfl, jK_warm hW ⟨hK, hN⟩, by rw [hU]; exact ⟨hI, co_9⟩⟩⟩ rfl rfl hl.1 rfl (lv_room (Nat.le_of_ble_eq_true rfl)) dX4_offerStepsBehind_59 ⟨Nat.le_of_ble_eq_true rfl, Nat.le_of_ble_eq_true rfl⟩)) (fun r_12 hw_11 => ?_)
    rcases hw_11 with ⟨rfl, hw_11⟩ | rfl
    · refine iz_eqz (tgt := 106) hx hb dX4_offerStepsBehind_62 (by decide) (by unfold rg2; omega) (fun q9 => absurd q9 (by decide)) (fun _ => ?_)
      refine lv_aload_n hx hb dX4_offerStepsBehind_65 rfl (lv_at hl 3 rfl) ?_
      refine iz_get (D := (dC, dI)) (ci := 4) (v := .ref lattice_a0) (C := RX4) (T := TX4) (N := 10) hx hb hts hinX4 hown hK co_a0 rfl 9 (by decide) hL51 (fun _ h9 => h9) rfl dX4_offerStepsBehind_66 ?_
      refine iz_get (D := (dC, dI)) (ci := 3) (v := .ref cheapest_10) (C := RX3) (T := TX3) (N := 11) hx hb hts hinX3 hown hK co_10 rfl 0 (by decide) hL88 (fun _ h9 => h9) rfl dX4_offerStepsBehind_69 ?_
      refine lv_iload hx hb dX4_offerStepsBehind_72 (lv_at hl 7 rfl) ?_
      obtain ⟨f_13, c_f_13, k_f_13⟩ := jv_q27 hI g_cheapest_10
      refine jz_aald hx hb hK 7 c_f_13 rfl rfl (by omega) (by decide) dX4_offerStepsBehind_74 ?_
      obtain ⟨b_14, eb_14, g_b_14⟩ := k_f_13 (Int.toNat nx) (by omega)
      rw [eb_14]
      have g_b_14 : X.1 b_14 = (232, 20, 160, -2147483648, 2147483647) := g_b_14
      refine W.eq (g2 := F0 m 75 ls [.ref b_14]) rfl ?_
      refine lv_iload hx hb dX4_offerStepsBehind_75 (lv_at hl 0 rfl) ?_
      refine lv_iconst (v := kz 4) hx hb dX4_offerStepsBehind_77 rfl ?_
      refine iz_imul hx hb dX4_offerStepsBehind_78 ?_
      refine lv_aload hx hb dX4_offerStepsBehind_79 (lv_at hl 2 rfl) ?_
      obtain ⟨fs9, co_15, jo9⟩ := jv_o7 hI g_b_2
      obtain ⟨ln_15, letters_15, endSize_15, beginningSize_15, comesFrom_15, comesSize_15, cost_15, firstDay_15, lastDay_15, number_15, rfl, g_letters_15, ⟨endSize_15a, endSize_15b⟩, ⟨beginningSize_15a, beginningSize_15b⟩, ⟨comesFrom_15a, comesFrom_15b⟩, ⟨comesSize_15a, comesSize_15b⟩, ⟨cost_15a, cost_15b⟩, ⟨firstDay_15a, firstDay_15b⟩, ⟨lastDay_15a, lastDay_15b⟩, ⟨number_15a, number_15b⟩, x_15_0, x_15_1, x_15_2, x_15_3, x_15_4, x_15_5⟩ := jo9
      refine iz_get (D := (dC, dI)) (ci := 7) (v := .int (kz beginningSize_15)) (C := RX7) (T := TX7) (N := 9) hx hb hts hinX7 hown hK co_15 rfl 2 (by decide) hL197 (fun _ h9 => h9) rfl dX4_offerStepsBehind_81 ?_
      refine iz_iadd hx hb dX4_offerStepsBehind_84 ?_
      obtain ⟨f_16, c_f_16, k_f_16⟩ := iv_o20 (jv_iv hI) g_b_14
      refine iz_iald hx hb hK 0 c_f_16 rfl (by omega) (by decide) dX4_offerStepsBehind_85 ?_
      obtain ⟨v_17a, v_17b, -⟩ := k_f_16 ((k * 4) + beginningSize_15) (by omega)
      obtain ⟨v_17, ev_17⟩ : ∃ z9 : Int, ge1 f_16 ((k * 4) + beginningSize_15) = z9 := ⟨_, rfl⟩
      rw [ev_17] at v_17a v_17b ⊢
      refine lv_istore (lv' := [(8, .int (kz v_17)), (7, .int (kz k)), (6, .int (kz z_5)), (5, .ref b_2), (0, .ref a0), (1, .ref pa), (2, .ref ls9), (3, .int (kz nu)), (4, .int (kz nx))]) hx hb dX4_offerStepsBehind_86 hl (by decide) rfl (fun ls hl => ?_)
      refine lv_aload_n hx hb dX4_offerStepsBehind_88 rfl (lv_at hl 4 rfl) ?_
      refine lv_iload hx hb dX4_offerStepsBehind_89 (lv_at hl 2 rfl) ?_
      refine lv_iload hx hb dX4_offerStepsBehind_91 (lv_at hl 0 rfl) ?_
      refine iz_iadd hx hb dX4_offerStepsBehind_93 ?_
      refine lv_aload_n hx hb dX4_offerStepsBehind_94 rfl (lv_at hl 5 rfl) ?_
      refine iz_get (D := (dC, dI)) (ci := 5) (v := .int (kz rank_pa)) (C := RX5) (T := TX5) (N := 6) hx hb hts hinX5 hown hK co_pa rfl 5 (by decide) hL127 (fun _ h9 => h9) rfl dX4_offerStepsBehind_95 ?_
      refine lv_iconst (v := kz 2) hx hb dX4_offerStepsBehind_98 rfl ?_
      refine lv_iload_n hx hb dX4_offerStepsBehind_99 rfl (lv_at hl 7 rfl) ?_
      refine iz_iadd hx hb dX4_offerStepsBehind_100 ?_
      refine lv_iload hx hb dX4_offerStepsBehind_101 (lv_at hl 1 rfl) ?_
      obtain ⟨z_18, z_18a, z_18b, z_18e⟩ := kz_ex (kz (z_5 + v_17))
      rw [z_18e]
      refine va_callv (va_runV (As := [.int (kz z_18), .int (kz rank_pa), .int (kz (2 + nu)), .int (kz k)]) (rest := []) ⟨hx, hb, hml, hown, hts⟩ (c_offer l dC dI ca A X hU H a0 z_18 rank_pa (2 + nu) k Q G ((2 + nu) * 64 + k) pp_a0 countedUncut_a0 counted_a0 left_a0 told_a0 toldCount_a0 grown_a0 keys_a0 kc_n_6 tongue_a0 lattice_a0 kf_n_6 g_a0 (by omega) g_told_a0 (by omega) g_grown_a0 g_keys_a0 (by omega) g_tongue_a0 g_lattice_a0 (by omega) (by omega) (by omega) (by omega) (by omega) (by omega) n_6f2 (by omega) hQ (hG k (by omega) (fun a9 ha9 => by rw [eb_8] at ha9; cases ha9; exact hw_11))) (cwV 4 hts gX4_offerStepsBehind_X4_offer rfl rfl rfl (by decide +kernel) ⟨Nat.le_of_ble_eq_true rfl, Nat.le_of_ble_eq_true rfl⟩) ⟨fun a U g mk q => by obtain ⟨q0, qH, ⟨qK, qN⟩, qI⟩ := q; exact ⟨q0, qH, ⟨va_K.moved (u := U) (U := U.calling g mk a) (Vm.Alike.refl U.vm) qK, jN_same (U := U.calling g mk a) rfl qN⟩, qI⟩, va_recv hK (at_P co_a0) (ci := 4) (q0 := 0) rfl rfl, fun U hU hW => ⟨rfl, hU, jK_warm hW ⟨hK, hN⟩, by rw [hU]; exact ⟨hI, co_a0, c_kf_n_6⟩⟩⟩ rfl rfl hl.1 rfl (lv_room (Nat.le_of_ble_eq_true rfl)) dX4_offerStepsBehind_103 ⟨Nat.le_of_ble_eq_true rfl, Nat.le_of_ble_eq_true rfl⟩) hS (fun q _ h => h) (fun q h => h) (fun u t9 H locs ht hvm hw_19 hB hz1 hk1 hS => ?_)
      obtain ⟨-, hI, hf9, hcp, hck⟩ := hB
      rw [ht] at hI hf9 hcp hck
      clear ht hvm hz1
      have co_pa := fm_at hf9 g_pa (show (5 : Nat) ∉ ([4, 228] : List Nat) by decide) co_pa
      have co_tg := fm_at hf9 g_tongue_a0 (show (9 : Nat) ∉ ([4, 228] : List Nat) by decide) co_tg
      have co_9 := fm_at hf9 g_b_8 (show (2 : Nat) ∉ ([4, 228] : List Nat) by decide) co_9
      have co_10 := fm_at hf9 g_lattice_a0 (show (3 : Nat) ∉ ([4, 228] : List Nat) by decide) co_10
      have co_15 := fm_at hf9 g_b_2 (show (7 : Nat) ∉ ([4, 228] : List Nat) by decide) co_15
      have c_tf := fm_at hf9 g_forms_tg (show (212 : Nat) ∉ ([4, 228] : List Nat) by decide) c_tf
      have c_f_13 := fm_at hf9 g_cheapest_10 (show (219 : Nat) ∉ ([4, 228] : List Nat) by decide) c_f_13
      have c_f_16 := fm_at hf9 g_b_14 (show (232 : Nat) ∉ ([4, 228] : List Nat) by decide) c_f_16
      have hF := fm_tr hF hf9 (by decide)
      clear hk1 hf9
      obtain ⟨kf_21, kc_22⟩ := u
      have co_a0 : va_at (dC, dI) vwCl (a0, .inr (4, [.long countedUncut_a0, .long counted_a0, .int (kz left_a0), .ref told_a0, .int (kz toldCount_a0), .ref grown_a0, .ref keys_a0, .int (kz kc_22), .ref tongue_a0, .ref lattice_a0])) H := hcp
      have c_kf_21 : va_at (dC, dI) vwCl (keys_a0, .inl (ca 20, 8, .inl kf_21)) H := hck
      clear hcp hck
      have k_kf_21 := ok20_full (X := jk X) (a := keys_a0) (n := 8) kf_21
      have hw_19 : KS kf_21 kc_22 (PS Q G rank_pa ((2 + nu) * 64 + k + 1)) ∧ 0 ≤ kc_22 ∧ kc_22 ≤ 8 := hw_19
      obtain ⟨hw_19, hw_19a, hw_19b⟩ := hw_19
      refine lv_iinc (v := kz (k + 1)) (lv' := [(7, .int (kz (k + 1))), (8, .int (kz v_17)), (6, .int (kz z_5)), (5, .ref b_2), (0, .ref a0), (1, .ref pa), (2, .ref ls9), (3, .int (kz nu)), (4, .int (kz nx))]) hx hb dX4_offerStepsBehind_106 hl (k := 1) rfl (kz_add k 1) (by decide) rfl (fun ls hl => ?_)
      refine lv_goto (tgt := 31) hx hb dX4_offerStepsBehind_109 (by decide) ?_
      exact ihn_6 (n_6 - 1) (by omega) (kf_21, kc_22) (k + 1) _ _ _ ⟨by omega, by omega, KS_mono hw_19 (fun m h => PS_mono h (by omega)), by omega, by omega, by omega, lv_sub hl [0, 2, 3, 4, 5, 6, 7, 8] rfl, hI, hS, hF, co_a0, co_pa, co_tg, c_kf_21, c_tf⟩
    · refine iz_eqz (tgt := 106) hx hb dX4_offerStepsBehind_62 (by decide) (by unfold rg2; omega) (fun _ => ?_) (fun q9 => absurd q9 (by decide))
      refine lv_iinc (v := kz (k + 1)) (lv' := [(7, .int (kz (k + 1))), (6, .int (kz z_5)), (5, .ref b_2), (0, .ref a0), (1, .ref pa), (2, .ref ls9), (3, .int (kz nu)), (4, .int (kz nx))]) hx hb dX4_offerStepsBehind_106 hl (k := 0) rfl (kz_add k 1) (by decide) rfl (fun ls hl => ?_)
      refine lv_goto (tgt := 31) hx hb dX4_offerStepsBehind_109 (by decide) ?_
      exact ihn_6 (n_6 - 1) (by omega) (kf_n_6, kc_n_6) (k + 1) _ _ _ ⟨by omega, by omega, KS_mono n_6f2 (fun m h => PS_mono h (by omega)), by omega, by omega, by omega, lv_sub hl [0, 1, 2, 3, 4, 5, 6, 7] rfl, hI, hS, hF, co_a0, co_pa, co_tg, c_kf_n_6, c_tf⟩
set_option maxHeartbeats 4000000 in
set_option maxRecDepth 100000 in
/-- X4_offerPlainSteps -/
theorem c_offerPlain (l : Launch) (dC : Nat → ClassId) (dI : Nat → Nat → Nat) (ca : Nat → ClassId) (A : Nat → Prop) (X : jG) (hU : jU X) (Hp : Heap) (a0 : Nat) (pa : Nat) (id : Nat) (Q : Int → Prop) (tf : Nat → Option Nat) (pp_a0 : Int) (countedUncut_a0 : Int64) (counted_a0 : Int64) (left_a0 : Int) (told_a0 : Nat) (toldCount_a0 : Int) (grown_a0 : Nat) (keys_a0 : Nat) (keyCount_a0 : Int) (tongue_a0 : Nat) (lattice_a0 : Nat) (chain_pa : Nat) (cost_pa : Int) (spent_pa : Int) (place_pa : Int) (ended_pa : Int) (rank_pa : Int) (forms_cc : Nat) (rules_cc : Nat) (size_cc : Int) (kf : Nat → Int32) (ff : Nat → Option Nat) (fr : Nat → Option Nat) (g_a0 : X.1 a0 = (4, 30, 0, 0, 0)) (g_pa : X.1 pa = (5, 30, id, 0, 0)) (left_a0i : 0 ≤ left_a0 ∧ left_a0 ≤ 1) (g_told_a0 : X.1 told_a0 = (226, 26, 8, pp_a0, 0)) (toldCount_a0i : 0 ≤ toldCount_a0 ∧ toldCount_a0 ≤ 8) (g_grown_a0 : X.1 grown_a0 = (226, 26, 8, 1 - pp_a0, 0)) (g_keys_a0 : X.1 keys_a0 = (228, 20, 8, -2147483648, 2147483647)) (keyCount_a0i : 0 ≤ keyCount_a0 ∧ keyCount_a0 ≤ 8) (g_tongue_a0 : X.1 tongue_a0 = (9, 30, 0, 0, 0)) (g_lattice_a0 : X.1 lattice_a0 = (3, 30, 0, 0, 0)) (x_a0_0 : 0 ≤ pp_a0) (x_a0_1 : pp_a0 ≤ 1) (g_chain_pa : X.1 chain_pa = (0, 30, id, 0, 0)) (cost_pai : -2147483648 ≤ cost_pa ∧ cost_pa ≤ 2147483647) (spent_pai : -2147483648 ≤ spent_pa ∧ spent_pa ≤ 2147483647) (place_pai : 0 ≤ place_pa ∧ place_pa ≤ 60) (ended_pai : 0 ≤ ended_pa ∧ ended_pa ≤ 1) (rank_pai : 0 ≤ rank_pa ∧ rank_pa ≤ 7) (g_forms_cc : X.1 forms_cc = (210, 24, 40, 2, (id : Int))) (g_rules_cc : X.1 rules_cc = (211, 25, 40, 7, (id : Int))) (size_cci : 0 ≤ size_cc ∧ size_cc ≤ 40) (x_cc_0 : size_cc ≤ (X.2.1 forms_cc : Int)) (hCO : ∀ a : Nat, lst ff size_cc = some a → cutv X (lst fr size_cc) ≤ (X.2.1 a : Int)) (hQ : ∀ m : Int, Q m → m / 2048 ≠ rank_pa) (hKS : KS kf keyCount_a0 (PS Q (pG X tf place_pa (lst ff size_cc) (cutv X (lst fr size_cc))) rank_pa 0)) : Met l yX4_offerPlainSteps wsX4_offerPlainSteps ({ frames := 3, cells := 0, slots := 0, locals := 63 }) (va_Pc [.ref a0, .ref pa] (fun U => U.heap = Hp ∧ jK (dC, dI) ca U ∧ jv (dC, dI) ca A X U.heap ∧ va_at (dC, dI) vwCl (a0, .inr (4, [.long countedUncut_a0, .long counted_a0, .int (kz left_a0), .ref told_a0, .int (kz toldCount_a0), .ref grown_a0, .ref keys_a0, .int (kz keyCount_a0), .ref tongue_a0, .ref lattice_a0])) U.heap ∧ va_at (dC, dI) vwCl (pa, .inr (5, [.ref chain_pa, .int (kz cost_pa), .int (kz spent_pa), .int (kz place_pa), .int (kz ended_pa), .int (kz rank_pa)])) U.heap ∧ va_at (dC, dI) vwCl (chain_pa, .inr (0, [.ref forms_cc, .ref rules_cc, .int (kz size_cc)])) U.heap ∧ va_at (dC, dI) vwCl (keys_a0, .inl (ca 20, 8, .inl kf)) U.heap ∧ va_at (dC, dI) vwCl (forms_cc, je_q ca 40 24 ff) U.heap ∧ va_at (dC, dI) vwCl (rules_cc, je_q ca 40 25 fr) U.heap)) (va_Qv (fun (u : (Nat → Int32) × Int) => KS u.1 u.2 (PS Q (pG X tf place_pa (lst ff size_cc) (cutv X (lst fr size_cc))) rank_pa 128) ∧ 0 ≤ u.2 ∧ u.2 ≤ 8) (fun (u : (Nat → Int32) × Int) U => jK (dC, dI) ca U ∧ jv (dC, dI) ca A X U.heap ∧ kfm X [4, 228] Hp U.heap ∧ va_at (dC, dI) vwCl (a0, .inr (4, [.long countedUncut_a0, .long counted_a0, .int (kz left_a0), .ref told_a0, .int (kz toldCount_a0), .ref grown_a0, .ref keys_a0, .int (kz u.2), .ref tongue_a0, .ref lattice_a0])) U.heap ∧ va_at (dC, dI) vwCl (keys_a0, .inl (ca 20, 8, .inl u.1)) U.heap) A) 0 0 A := by
  refine Met.ofW (cc := cX4_offerPlainSteps) (maxL := 8) (ret := none) (by decide) rfl ?_
  intro p e s m args below meth c s₁ B hml hv
  obtain ⟨rfl, hHp, ⟨hK, hN⟩, hI, co_a0, co_pa, co_cc, c_kf, c_ff, c_fr⟩ := hv
  have hx := B.exec
  have hb := B.bytes
  have hr := B.returns
  have hts := atoms_spec (ws := wsX4_offerPlainSteps) B.pre
  have hown : s.vm.findClass RX4 = some m.cls := findClass_of_methodNamed B.named
  have hL96 := hts (.fieldLink RX4 96 "JoinBench$Path" "chain" "LJoinBench$Chain;") (by decide +kernel)
  have hL51 := hts (.fieldLink RX4 51 "JoinBench$Parter" "lattice" "LJoinBench$Lattice;") (by decide +kernel)
  have hL121 := hts (.fieldLink RX4 121 "JoinBench$Path" "place" "I") (by decide +kernel)
  have hL118 := hts (.fieldLink RX4 118 "JoinBench$Path" "spent" "I") (by decide +kernel)
  have hL153 := hts (.fieldLink RX4 153 "JoinBench$Form" "cost" "I") (by decide +kernel)
  have hL156 := hts (.fieldLink RX4 156 "JoinBench$Form" "letters" "[B") (by decide +kernel)
  have hL73 := hts (.fieldLink RX4 73 "JoinBench$Lattice" "size" "I") (by decide +kernel)
  have hL127 := hts (.fieldLink RX4 127 "JoinBench$Path" "rank" "I") (by decide +kernel)
  have hL42 := hts (.fieldLink RX4 42 "JoinBench$Parter" "tongue" "LJoinBench$Tongue;") (by decide +kernel)
  have hL85 := hts (.fieldLink RX4 85 "JoinBench$Tongue" "formCount" "I") (by decide +kernel)
  have hL160 := hts (.fieldLink RX4 160 "JoinBench$Tongue" "forms" "[LJoinBench$Form;") (by decide +kernel)
  have hL88 := hts (.fieldLink RX4 88 "JoinBench$Lattice" "cheapest" "[[I") (by decide +kernel)
  have hinX2 : ∀ w ∈ u_ws RX2 TX2 8, w ∈ wsX4_offerPlainSteps := by decide +kernel
  have hinX3 : ∀ w ∈ u_ws RX3 TX3 11, w ∈ wsX4_offerPlainSteps := by decide +kernel
  have hinX4 : ∀ w ∈ u_ws RX4 TX4 10, w ∈ wsX4_offerPlainSteps := by decide +kernel
  have hinX5 : ∀ w ∈ u_ws RX5 TX5 6, w ∈ wsX4_offerPlainSteps := by decide +kernel
  have hinX9 : ∀ w ∈ u_ws RX9 TX9 5, w ∈ wsX4_offerPlainSteps := by decide +kernel
  obtain ⟨H, hH⟩ : ∃ H : Heap, H = s.heap := ⟨_, rfl⟩
  have hS : va_S A s.heap H [] := by rw [hH]; exact va_S.rf
  have hF : kfm X [4, 228] Hp H := by rw [hH, hHp]; exact fm_rf _ _ _
  rw [← hH] at hI co_a0 co_pa co_cc c_kf c_ff c_fr ⊢
  clear hH
  have k_kf := ok20_full (X := jk X) (a := keys_a0) (n := 8) kf
  have k_ff := kq24 hI g_forms_cc c_ff
  have k_fr := kq25 hI g_rules_cc c_fr
  have hl := lv_entry ([.ref a0, .ref pa]) (n := 8) (Nat.le_of_ble_eq_true rfl)
  rw [lg_entry_eq]
  generalize (lg_sl ([.ref a0, .ref pa]) ++ List.replicate (8 - (lg_sl ([.ref a0, .ref pa])).length) Slot.unset).toArray = ls at hl ⊢
  have hl : lv_has ls 8 [(0, .ref a0), (1, .ref pa)] := hl
  refine lv_aload_n hx hb dX4_offerPlainSteps_0 rfl (lv_at hl 1 rfl) ?_
  refine iz_get (D := (dC, dI)) (ci := 5) (v := .ref chain_pa) (C := RX5) (T := TX5) (N := 6) hx hb hts hinX5 hown hK co_pa rfl 0 (by decide) hL96 (fun _ h9 => h9) rfl dX4_offerPlainSteps_1 ?_
  refine va_csq (va_Run.run (va_runV (As := []) (rest := []) ⟨hx, hb, hml, hown, hts⟩ (c_lastX l dC dI ca A X hU chain_pa id forms_cc rules_cc size_cc ff g_chain_pa g_forms_cc g_rules_cc (by omega) (by omega)) (cwV 0 hts gX4_offerPlainSteps_X0_last rfl rfl rfl (by decide +kernel) ⟨Nat.le_of_ble_eq_true rfl, Nat.le_of_ble_eq_true rfl⟩) ⟨fun a U g mk q => by obtain ⟨q0, ⟨qK, qN⟩, qI⟩ := q; exact ⟨q0, ⟨va_K.moved (u := U) (U := U.calling g mk a) (Vm.Alike.refl U.vm) qK, jN_same (U := U.calling g mk a) rfl qN⟩, qI⟩, va_recv hK (at_P co_cc) (ci := 0) (q0 := 0) rfl rfl, fun U hU hW => ⟨rfl, jK_warm hW ⟨hK, hN⟩, by rw [hU]; exact ⟨hI, co_cc, c_ff⟩⟩⟩ rfl rfl hl.1 rfl (lv_room (Nat.le_of_ble_eq_true rfl)) dX4_offerPlainSteps_4 ⟨Nat.le_of_ble_eq_true rfl, Nat.le_of_ble_eq_true rfl⟩)) (fun r_2 hw_1 => ?_)
  obtain ⟨hw_1, hw_1x⟩ := hw_1
  rcases r_2 with _ | b_3
  · refine W.eq (g2 := F0 m 7 ls [.null]) rfl ?_
    refine lv_astore_nN (lv' := [(2, .null), (0, .ref a0), (1, .ref pa)]) hx hb dX4_offerPlainSteps_7 rfl hl (by decide) rfl (fun ls hl => ?_)
    refine lv_aload_nN hx hb dX4_offerPlainSteps_8 rfl (lv_at hl 0 rfl) ?_
    refine lv_ifnonnullN hx hb dX4_offerPlainSteps_9 ?_
    exact W.vret hx hb hr (fun t9 ht hW => ⟨⟨(kf, keyCount_a0), rfl, ⟨KS_mono hKS (fun m h => PS_mono h (by omega)), by omega, by omega⟩, jK_warm hW ⟨hK, hN⟩, by rw [ht]; exact ⟨hI, hF, co_a0, c_kf⟩⟩, hS.F ht⟩) hS.2.2 dX4_offerPlainSteps_12
  · have g_b_3 := hw_1 b_3 rfl
    refine W.eq (g2 := F0 m 7 ls [.ref b_3]) rfl ?_
    refine lv_astore_n (lv' := [(2, .ref b_3), (0, .ref a0), (1, .ref pa)]) hx hb dX4_offerPlainSteps_7 rfl hl (by decide) rfl (fun ls hl => ?_)
    refine lv_aload_n hx hb dX4_offerPlainSteps_8 rfl (lv_at hl 0 rfl) ?_
    refine lv_ifnonnull (tgt := 13) hx hb dX4_offerPlainSteps_9 (by decide) ?_
    refine lv_aload_n hx hb dX4_offerPlainSteps_13 rfl (lv_at hl 2 rfl) ?_
    refine iz_get (D := (dC, dI)) (ci := 5) (v := .ref chain_pa) (C := RX5) (T := TX5) (N := 6) hx hb hts hinX5 hown hK co_pa rfl 0 (by decide) hL96 (fun _ h9 => h9) rfl dX4_offerPlainSteps_14 ?_
    refine vp_callSi (va_Run.run (va_runV (As := []) (rest := []) ⟨hx, hb, hml, hown, hts⟩ (c_lastCutX l dC dI ca A X hU chain_pa id forms_cc rules_cc size_cc fr g_chain_pa g_forms_cc g_rules_cc (by omega) (by omega)) (cwV 0 hts gX4_offerPlainSteps_X0_lastCut rfl rfl rfl (by decide +kernel) ⟨Nat.le_of_ble_eq_true rfl, Nat.le_of_ble_eq_true rfl⟩) ⟨fun a U g mk q => by obtain ⟨q0, ⟨qK, qN⟩, qI⟩ := q; exact ⟨q0, ⟨va_K.moved (u := U) (U := U.calling g mk a) (Vm.Alike.refl U.vm) qK, jN_same (U := U.calling g mk a) rfl qN⟩, qI⟩, va_recv hK (at_P co_cc) (ci := 0) (q0 := 0) rfl rfl, fun U hU hW => ⟨rfl, jK_warm hW ⟨hK, hN⟩, by rw [hU]; exact ⟨hI, co_cc, c_fr⟩⟩⟩ rfl rfl hl.1 rfl (lv_room (Nat.le_of_ble_eq_true rfl)) dX4_offerPlainSteps_17 ⟨Nat.le_of_ble_eq_true rfl, Nat.le_of_ble_eq_true rfl⟩)) (fun r_5 hw_4 => ?_)
    obtain ⟨z_6, rfl, z_6h, z_6x⟩ := hw_4
    refine lv_istore_n (lv' := [(3, .int (kz z_6)), (2, .ref b_3), (0, .ref a0), (1, .ref pa)]) hx hb dX4_offerPlainSteps_20 rfl hl (by decide) rfl (fun ls hl => ?_)
    refine lv_aload_n hx hb dX4_offerPlainSteps_21 rfl (lv_at hl 2 rfl) ?_
    refine iz_get (D := (dC, dI)) (ci := 4) (v := .ref lattice_a0) (C := RX4) (T := TX4) (N := 10) hx hb hts hinX4 hown hK co_a0 rfl 9 (by decide) hL51 (fun _ h9 => h9) rfl dX4_offerPlainSteps_22 ?_
    refine lv_aload_n hx hb dX4_offerPlainSteps_25 rfl (lv_at hl 3 rfl) ?_
    refine iz_get (D := (dC, dI)) (ci := 5) (v := .int (kz place_pa)) (C := RX5) (T := TX5) (N := 6) hx hb hts hinX5 hown hK co_pa rfl 3 (by decide) hL121 (fun _ h9 => h9) rfl dX4_offerPlainSteps_26 ?_
    refine lv_aload_n hx hb dX4_offerPlainSteps_29 rfl (lv_at hl 1 rfl) ?_
    refine lv_iload_n hx hb dX4_offerPlainSteps_30 rfl (lv_at hl 0 rfl) ?_
    obtain ⟨fs9, co_7, jo9⟩ := jv_o3 hI g_lattice_a0
    obtain ⟨cheapest_7, size_7, tongue_7, line_7, ways_7, plainWays_7, plainCheapest_7, ruledWays_7, ruledCheapest_7, inForce_7, barred_7, rfl, g_cheapest_7, ⟨size_7a, size_7b⟩, g_tongue_7, g_line_7, g_ways_7, g_plainWays_7, g_plainCheapest_7, g_ruledWays_7, g_ruledCheapest_7, ⟨inForce_7a, inForce_7b⟩, g_barred_7⟩ := jo9
    have e9 : tongue_a0 = tongue_7 := jU_eq hU g_tongue_a0 g_tongue_7 (show (30 : Nat) ≠ 0 by decide) (show uq 9 = true by decide)
    subst e9
    refine vp_callSi (va_Run.run (va_runV (As := [.int (kz place_pa), .ref b_3, .int (kz z_6)]) (rest := []) ⟨hx, hb, hml, hown, hts⟩ (c_sharedLetters l dC dI ca A X hU lattice_a0 place_pa b_3 z_6 g_lattice_a0 g_b_3 (by omega) (by omega)) (cwV 3 hts gX4_offerPlainSteps_X3_sharedLetters rfl rfl rfl (by decide +kernel) ⟨Nat.le_of_ble_eq_true rfl, Nat.le_of_ble_eq_true rfl⟩) ⟨fun a U g mk q => by obtain ⟨q0, ⟨qK, qN⟩, qI⟩ := q; exact ⟨q0, ⟨va_K.moved (u := U) (U := U.calling g mk a) (Vm.Alike.refl U.vm) qK, jN_same (U := U.calling g mk a) rfl qN⟩, qI⟩, va_recv hK (at_P co_7) (ci := 3) (q0 := 0) rfl rfl, fun U hU hW => ⟨rfl, jK_warm hW ⟨hK, hN⟩, by rw [hU]; exact hI⟩⟩ rfl rfl hl.1 rfl (lv_room (Nat.le_of_ble_eq_true rfl)) dX4_offerPlainSteps_31 ⟨Nat.le_of_ble_eq_true rfl, Nat.le_of_ble_eq_true rfl⟩)) (fun r_9 hw_8 => ?_)
    obtain ⟨z_10, rfl, z_10h⟩ := hw_8
    refine lv_istore (lv' := [(4, .int (kz z_10)), (3, .int (kz z_6)), (2, .ref b_3), (0, .ref a0), (1, .ref pa)]) hx hb dX4_offerPlainSteps_34 hl (by decide) rfl (fun ls hl => ?_)
    refine lv_aload_n hx hb dX4_offerPlainSteps_36 rfl (lv_at hl 4 rfl) ?_
    refine iz_get (D := (dC, dI)) (ci := 5) (v := .int (kz place_pa)) (C := RX5) (T := TX5) (N := 6) hx hb hts hinX5 hown hK co_pa rfl 3 (by decide) hL121 (fun _ h9 => h9) rfl dX4_offerPlainSteps_37 ?_
    refine lv_iload hx hb dX4_offerPlainSteps_40 (lv_at hl 0 rfl) ?_
    refine iz_iadd hx hb dX4_offerPlainSteps_42 ?_
    refine lv_istore (lv' := [(5, .int (kz (place_pa + z_10))), (4, .int (kz z_10)), (3, .int (kz z_6)), (2, .ref b_3), (0, .ref a0), (1, .ref pa)]) hx hb dX4_offerPlainSteps_43 hl (by decide) rfl (fun ls hl => ?_)
    refine lv_aload_n hx hb dX4_offerPlainSteps_45 rfl (lv_at hl 5 rfl) ?_
    refine iz_get (D := (dC, dI)) (ci := 5) (v := .int (kz spent_pa)) (C := RX5) (T := TX5) (N := 6) hx hb hts hinX5 hown hK co_pa rfl 2 (by decide) hL118 (fun _ h9 => h9) rfl dX4_offerPlainSteps_46 ?_
    refine lv_aload_n hx hb dX4_offerPlainSteps_49 rfl (lv_at hl 3 rfl) ?_
    obtain ⟨fs9, co_11, jo9⟩ := jv_o2 hI g_b_3
    obtain ⟨ln_11, letters_11, kind_11, stem_11, kept_11, cost_11, number_11, ends_11, begins_11, rfl, g_letters_11, ⟨kind_11a, kind_11b⟩, ⟨stem_11a, stem_11b⟩, ⟨kept_11a, kept_11b⟩, ⟨cost_11a, cost_11b⟩, ⟨number_11a, number_11b⟩, ⟨ends_11a, ends_11b⟩, ⟨begins_11a, begins_11b⟩, x_11_0, x_11_1, x_11_2, x_11_3⟩ := jo9
    refine iz_get (D := (dC, dI)) (ci := 2) (v := .int (kz cost_11)) (C := RX2) (T := TX2) (N := 8) hx hb hts hinX2 hown hK co_11 rfl 4 (by decide) hL153 (fun _ h9 => h9) rfl dX4_offerPlainSteps_50 ?_
    refine iz_iadd hx hb dX4_offerPlainSteps_53 ?_
    refine lv_istore (lv' := [(6, .int (kz (spent_pa + cost_11))), (5, .int (kz (place_pa + z_10))), (4, .int (kz z_10)), (3, .int (kz z_6)), (2, .ref b_3), (0, .ref a0), (1, .ref pa)]) hx hb dX4_offerPlainSteps_54 hl (by decide) rfl (fun ls hl => ?_)
    refine lv_iload hx hb dX4_offerPlainSteps_56 (lv_at hl 2 rfl) ?_
    refine lv_aload_n hx hb dX4_offerPlainSteps_58 rfl (lv_at hl 4 rfl) ?_
    refine iz_get (D := (dC, dI)) (ci := 2) (v := .ref letters_11) (C := RX2) (T := TX2) (N := 8) hx hb hts hinX2 hown hK co_11 rfl 0 (by decide) hL156 (fun _ h9 => h9) rfl dX4_offerPlainSteps_59 ?_
    obtain ⟨f_12, c_f_12⟩ := iv_o21 (jv_iv hI) g_letters_11
    refine va_alen hx hb hK (at_P c_f_12) 0 1 rfl rfl (v := kz (ln_11 : Int)) rfl dX4_offerPlainSteps_62 ?_
    refine lv_iload_n hx hb dX4_offerPlainSteps_63 rfl (lv_at hl 3 rfl) ?_
    refine iz_isub hx hb dX4_offerPlainSteps_64 ?_
    refine iz_ge (tgt := 69) hx hb dX4_offerPlainSteps_65 (by decide) (by unfold rg2; omega) (fun br_13 => ?_) (fun br_13 => ?_)
    · refine lv_iload hx hb dX4_offerPlainSteps_69 (lv_at hl 1 rfl) ?_
      refine lv_aload_n hx hb dX4_offerPlainSteps_71 rfl (lv_at hl 5 rfl) ?_
      refine iz_get (D := (dC, dI)) (ci := 4) (v := .ref lattice_a0) (C := RX4) (T := TX4) (N := 10) hx hb hts hinX4 hown hK co_a0 rfl 9 (by decide) hL51 (fun _ h9 => h9) rfl dX4_offerPlainSteps_72 ?_
      refine iz_get (D := (dC, dI)) (ci := 3) (v := .int (kz size_7)) (C := RX3) (T := TX3) (N := 11) hx hb hts hinX3 hown hK co_7 rfl 1 (by decide) hL73 (fun _ h9 => h9) rfl dX4_offerPlainSteps_75 ?_
      refine iz_lt (tgt := 94) hx hb dX4_offerPlainSteps_78 (by decide) (by unfold rg2; omega) (fun br_14 => ?_) (fun br_14 => ?_)
      · refine lv_iconst (v := kz 0) hx hb dX4_offerPlainSteps_94 rfl ?_
        refine lv_istore (lv' := [(7, .int (kz 0)), (6, .int (kz (spent_pa + cost_11))), (5, .int (kz (place_pa + z_10))), (4, .int (kz z_10)), (3, .int (kz z_6)), (2, .ref b_3), (0, .ref a0), (1, .ref pa)]) hx hb dX4_offerPlainSteps_95 hl (by decide) rfl (fun ls hl => ?_)
        refine iz_loopA1 (α := (Nat → Int32) × Int) (P := fun N9 u9 k H locs ls => (0 ≤ k) ∧ (k ≤ 40) ∧ (KS u9.1 u9.2 (PS Q (pG X tf place_pa (lst ff size_cc) (cutv X (lst fr size_cc))) rank_pa (64 + k))) ∧ (0 ≤ u9.2) ∧ (u9.2 ≤ 8) ∧ 40 - k ≤ (N9 : Int) ∧ lv_has ls 8 [(7, .int (kz k)), (6, .int (kz (spent_pa + cost_11))), (5, .int (kz (place_pa + z_10))), (4, .int (kz z_10)), (3, .int (kz z_6)), (2, .ref b_3), (0, .ref a0), (1, .ref pa)] ∧ jv (dC, dI) ca A X H ∧ va_S A s.heap H locs ∧ kfm X [4, 228] Hp H ∧ va_at (dC, dI) vwCl (a0, .inr (4, [.long countedUncut_a0, .long counted_a0, .int (kz left_a0), .ref told_a0, .int (kz toldCount_a0), .ref grown_a0, .ref keys_a0, .int (kz u9.2), .ref tongue_a0, .ref lattice_a0])) H ∧ va_at (dC, dI) vwCl (pa, .inr (5, [.ref chain_pa, .int (kz cost_pa), .int (kz spent_pa), .int (kz place_pa), .int (kz ended_pa), .int (kz rank_pa)])) H ∧ va_at (dC, dI) vwCl (chain_pa, .inr (0, [.ref forms_cc, .ref rules_cc, .int (kz size_cc)])) H ∧ va_at (dC, dI) vwCl (keys_a0, .inl (ca 20, 8, .inl u9.1)) H ∧ va_at (dC, dI) vwCl (forms_cc, je_q ca 40 24 ff) H ∧ va_at (dC, dI) vwCl (rules_cc, je_q ca 40 25 fr) H) 100000 (kf, keyCount_a0) (x0 := 0) ?_ ⟨by omega, by omega, KS_mono hKS (fun m h => PS_mono h (by omega)), by omega, by omega, by omega, lv_sub hl [0, 1, 2, 3, 4, 5, 6, 7] rfl, hI, hS, hF, co_a0, co_pa, co_cc, c_kf, c_ff, c_fr⟩
        intro n_15 ⟨kf_n_15, kc_n_15⟩ k H locs ls ⟨n_15f0, n_15f1, n_15f2, n_15f3, n_15f4, n_15f5, hl, hI, hS, hF, co_a0, co_pa, co_cc, c_kf_n_15, c_ff, c_fr⟩ ihn_15
        have k_kf_n_15 := ok20_full (X := jk X) (a := keys_a0) (n := 8) kf_n_15
        have co_a0 : va_at (dC, dI) vwCl (a0, .inr (4, [.long countedUncut_a0, .long counted_a0, .int (kz left_a0), .ref told_a0, .int (kz toldCount_a0), .ref grown_a0, .ref keys_a0, .int (kz kc_n_15), .ref tongue_a0, .ref lattice_a0])) H := co_a0
        have c_kf_n_15 : va_at (dC, dI) vwCl (keys_a0, .inl (ca 20, 8, .inl kf_n_15)) H := c_kf_n_15
        have n_15f0 : 0 ≤ k := n_15f0
        have n_15f1 : k ≤ 40 := n_15f1
        have n_15f2 : KS kf_n_15 kc_n_15 (PS Q (pG X tf place_pa (lst ff size_cc) (cutv X (lst fr size_cc))) rank_pa (64 + k)) := n_15f2
        have n_15f3 : 0 ≤ kc_n_15 := n_15f3
        have n_15f4 : kc_n_15 ≤ 8 := n_15f4
        refine lv_iload hx hb dX4_offerPlainSteps_97 (lv_at hl 0 rfl) ?_
        refine lv_aload_n hx hb dX4_offerPlainSteps_99 rfl (lv_at hl 6 rfl) ?_
        refine iz_get (D := (dC, dI)) (ci := 4) (v := .ref tongue_a0) (C := RX4) (T := TX4) (N := 10) hx hb hts hinX4 hown hK co_a0 rfl 8 (by decide) hL42 (fun _ h9 => h9) rfl dX4_offerPlainSteps_100 ?_
        obtain ⟨fs9, co_16, jo9⟩ := jv_o9 hI g_tongue_a0
        obtain ⟨forms_16, rules_16, formCount_16, ruleCount_16, forbidden_16, rfl, g_forms_16, g_rules_16, ⟨formCount_16a, formCount_16b⟩, ⟨ruleCount_16a, ruleCount_16b⟩, g_forbidden_16, x_16_0, x_16_1, x_16_2⟩ := jo9
        refine iz_get (D := (dC, dI)) (ci := 9) (v := .int (kz formCount_16)) (C := RX9) (T := TX9) (N := 5) hx hb hts hinX9 hown hK co_16 rfl 2 (by decide) hL85 (fun _ h9 => h9) rfl dX4_offerPlainSteps_103 ?_
        refine iz_ge (tgt := 165) hx hb dX4_offerPlainSteps_106 (by decide) (by unfold rg2; omega) (fun br_17 => ?_) (fun br_17 => ?_)
        · exact W.vret hx hb hr (fun t9 ht hW => ⟨⟨(kf_n_15, kc_n_15), rfl, ⟨KS_mono n_15f2 (fun m h => PS_mono h (by omega)), by omega, by omega⟩, jK_warm hW ⟨hK, hN⟩, by rw [ht]; exact ⟨hI, hF, co_a0, c_kf_n_15⟩⟩, hS.F ht⟩) hS.2.2 dX4_offerPlainSteps_165
        · refine lv_aload_n hx hb dX4_offerPlainSteps_109 rfl (lv_at hl 6 rfl) ?_
          refine iz_get (D := (dC, dI)) (ci := 4) (v := .ref lattice_a0) (C := RX4) (T := TX4) (N := 10) hx hb hts hinX4 hown hK co_a0 rfl 9 (by decide) hL51 (fun _ h9 => h9) rfl dX4_offerPlainSteps_110 ?_
          refine lv_aload_n hx hb dX4_offerPlainSteps_113 rfl (lv_at hl 5 rfl) ?_
          refine lv_aload_n hx hb dX4_offerPlainSteps_114 rfl (lv_at hl 6 rfl) ?_
          refine iz_get (D := (dC, dI)) (ci := 4) (v := .ref tongue_a0) (C := RX4) (T := TX4) (N := 10) hx hb hts hinX4 hown hK co_a0 rfl 8 (by decide) hL42 (fun _ h9 => h9) rfl dX4_offerPlainSteps_115 ?_
          refine iz_get (D := (dC, dI)) (ci := 9) (v := .ref forms_16) (C := RX9) (T := TX9) (N := 5) hx hb hts hinX9 hown hK co_16 rfl 0 (by decide) hL160 (fun _ h9 => h9) rfl dX4_offerPlainSteps_118 ?_
          refine lv_iload hx hb dX4_offerPlainSteps_121 (lv_at hl 0 rfl) ?_
          obtain ⟨f_18, c_f_18, k_f_18⟩ := jv_q24 hI g_forms_16
          refine jz_aald hx hb hK 4 c_f_18 rfl rfl (by omega) (by decide) dX4_offerPlainSteps_123 ?_
          obtain ⟨b_19, eb_19⟩ : ∃ b9 : Nat, f_18 (Int.toNat k) = some b9 := Option.ne_none_iff_exists'.mp ((k_f_18 (Int.toNat k) (by omega)).2 (by omega))
          have g_b_19 := (k_f_18 (Int.toNat k) (by omega)).1 b_19 eb_19
          rw [eb_19]
          refine W.eq (g2 := F0 m 124 ls [.ref b_19, .ref b_3, .ref lattice_a0]) rfl ?_
          obtain ⟨fs9, co_20, jo9⟩ := jv_o3 hI g_lattice_a0
          obtain ⟨cheapest_20, size_20, tongue_20, line_20, ways_20, plainWays_20, plainCheapest_20, ruledWays_20, ruledCheapest_20, inForce_20, barred_20, rfl, g_cheapest_20, ⟨size_20a, size_20b⟩, g_tongue_20, g_line_20, g_ways_20, g_plainWays_20, g_plainCheapest_20, g_ruledWays_20, g_ruledCheapest_20, ⟨inForce_20a, inForce_20b⟩, g_barred_20⟩ := jo9
          have e9 : cheapest_7 = cheapest_20 := jU_eq hU g_cheapest_7 g_cheapest_20 (show (27 : Nat) ≠ 0 by decide) (show uq 219 = true by decide)
          subst e9
          have e9 : tongue_a0 = tongue_20 := jU_eq hU g_tongue_a0 g_tongue_20 (show (30 : Nat) ≠ 0 by decide) (show uq 9 = true by decide)
          subst e9
          have e9 : line_7 = line_20 := jU_eq hU g_line_7 g_line_20 (show (21 : Nat) ≠ 0 by decide) (show uq 204 = true by decide)
          subst e9
          have e9 : ways_7 = ways_20 := jU_eq hU g_ways_7 g_ways_20 (show (23 : Nat) ≠ 0 by decide) (show uq 220 = true by decide)
          subst e9
          have e9 : plainWays_7 = plainWays_20 := jU_eq hU g_plainWays_7 g_plainWays_20 (show (28 : Nat) ≠ 0 by decide) (show uq 221 = true by decide)
          subst e9
          have e9 : plainCheapest_7 = plainCheapest_20 := jU_eq hU g_plainCheapest_7 g_plainCheapest_20 (show (27 : Nat) ≠ 0 by decide) (show uq 222 = true by decide)
          subst e9
          have e9 : ruledWays_7 = ruledWays_20 := jU_eq hU g_ruledWays_7 g_ruledWays_20 (show (28 : Nat) ≠ 0 by decide) (show uq 223 = true by decide)
          subst e9
          have e9 : ruledCheapest_7 = ruledCheapest_20 := jU_eq hU g_ruledCheapest_7 g_ruledCheapest_20 (show (27 : Nat) ≠ 0 by decide) (show uq 224 = true by decide)
          subst e9
          have e9 : barred_7 = barred_20 := jU_eq hU g_barred_7 g_barred_20 (show (22 : Nat) ≠ 0 by decide) (show uq 225 = true by decide)
          subst e9
          refine vp_callSi (va_Run.run (va_runV (As := [.ref b_3, .ref b_19]) (rest := []) ⟨hx, hb, hml, hown, hts⟩ (c_canMeetPlain l dC dI ca A X hU lattice_a0 b_3 b_19 g_lattice_a0 g_b_3 g_b_19) (cwV 2 hts gX4_offerPlainSteps_X3_canMeetPlain rfl rfl rfl (by decide +kernel) ⟨Nat.le_of_ble_eq_true rfl, Nat.le_of_ble_eq_true rfl⟩) ⟨fun a U g mk q => by obtain ⟨q0, ⟨qK, qN⟩, qI⟩ := q; exact ⟨q0, ⟨va_K.moved (u := U) (U := U.calling g mk a) (Vm.Alike.refl U.vm) qK, jN_same (U := U.calling g mk a) rfl qN⟩, qI⟩, va_recv hK (at_P co_20) (ci := 3) (q0 := 0) rfl rfl, fun U hU hW => ⟨rfl, jK_warm hW ⟨hK, hN⟩, by rw [hU]; exact hI⟩⟩ rfl rfl hl.1 rfl (lv_room (Nat.le_of_ble_eq_true rfl)) dX4_offerPlainSteps_124 ⟨Nat.le_of_ble_eq_true rfl, Nat.le_of_ble_eq_true rfl⟩)) (fun r_22 hw_21 => ?_)
          rcases hw_21 with rfl | rfl
          · refine iz_eqz (tgt := 159) hx hb dX4_offerPlainSteps_127 (by decide) (by unfold rg2; omega) (fun q9 => absurd q9 (by decide)) (fun _ => ?_)
            refine lv_aload_n hx hb dX4_offerPlainSteps_130 rfl (lv_at hl 6 rfl) ?_
            refine lv_iload hx hb dX4_offerPlainSteps_131 (lv_at hl 1 rfl) ?_
            refine lv_aload_n hx hb dX4_offerPlainSteps_133 rfl (lv_at hl 6 rfl) ?_
            refine iz_get (D := (dC, dI)) (ci := 4) (v := .ref lattice_a0) (C := RX4) (T := TX4) (N := 10) hx hb hts hinX4 hown hK co_a0 rfl 9 (by decide) hL51 (fun _ h9 => h9) rfl dX4_offerPlainSteps_134 ?_
            refine iz_get (D := (dC, dI)) (ci := 3) (v := .ref cheapest_7) (C := RX3) (T := TX3) (N := 11) hx hb hts hinX3 hown hK co_20 rfl 0 (by decide) hL88 (fun _ h9 => h9) rfl dX4_offerPlainSteps_137 ?_
            refine lv_iload hx hb dX4_offerPlainSteps_140 (lv_at hl 2 rfl) ?_
            obtain ⟨f_23, c_f_23, k_f_23⟩ := jv_q27 hI g_cheapest_20
            refine jz_aald hx hb hK 7 c_f_23 rfl rfl (by omega) (by decide) dX4_offerPlainSteps_142 ?_
            obtain ⟨b_24, eb_24, g_b_24⟩ := k_f_23 (Int.toNat (place_pa + z_10)) (by omega)
            rw [eb_24]
            have g_b_24 : X.1 b_24 = (232, 20, 160, -2147483648, 2147483647) := g_b_24
            refine W.eq (g2 := F0 m 143 ls [.ref b_24, .int (kz (spent_pa + cost_11)), .ref a0]) rfl ?_
            refine lv_iload hx hb dX4_offerPlainSteps_143 (lv_at hl 0 rfl) ?_
            refine lv_iconst (v := kz 4) hx hb dX4_offerPlainSteps_145 rfl ?_
            refine iz_imul hx hb dX4_offerPlainSteps_146 ?_
            obtain ⟨f_25, c_f_25, k_f_25⟩ := iv_o20 (jv_iv hI) g_b_24
            refine iz_iald hx hb hK 0 c_f_25 rfl (by omega) (by decide) dX4_offerPlainSteps_147 ?_
            obtain ⟨v_26a, v_26b, -⟩ := k_f_25 (k * 4) (by omega)
            obtain ⟨v_26, ev_26⟩ : ∃ z9 : Int, ge1 f_25 (k * 4) = z9 := ⟨_, rfl⟩
            rw [ev_26] at v_26a v_26b ⊢
            refine iz_iadd hx hb dX4_offerPlainSteps_148 ?_
            refine lv_aload_n hx hb dX4_offerPlainSteps_149 rfl (lv_at hl 7 rfl) ?_
            refine iz_get (D := (dC, dI)) (ci := 5) (v := .int (kz rank_pa)) (C := RX5) (T := TX5) (N := 6) hx hb hts hinX5 hown hK co_pa rfl 5 (by decide) hL127 (fun _ h9 => h9) rfl dX4_offerPlainSteps_150 ?_
            refine lv_iconst (v := kz 1) hx hb dX4_offerPlainSteps_153 rfl ?_
            refine lv_iload hx hb dX4_offerPlainSteps_154 (lv_at hl 0 rfl) ?_
            obtain ⟨z_27, z_27a, z_27b, z_27e⟩ := kz_ex (kz ((spent_pa + cost_11) + v_26))
            rw [z_27e]
            refine va_callv (va_runV (As := [.int (kz z_27), .int (kz rank_pa), .int (kz 1), .int (kz k)]) (rest := []) ⟨hx, hb, hml, hown, hts⟩ (c_offer l dC dI ca A X hU H a0 z_27 rank_pa 1 k Q (pG X tf place_pa (lst ff size_cc) (cutv X (lst fr size_cc))) (64 + k) pp_a0 countedUncut_a0 counted_a0 left_a0 told_a0 toldCount_a0 grown_a0 keys_a0 kc_n_15 tongue_a0 lattice_a0 kf_n_15 g_a0 (by omega) g_told_a0 (by omega) g_grown_a0 g_keys_a0 (by omega) g_tongue_a0 g_lattice_a0 (by omega) (by omega) (by omega) (by omega) (by omega) (by omega) n_15f2 (by omega) hQ (pG_plain (by omega) (fun b9 hb9 => by rw [← hw_1x] at hb9; cases hb9; have h9 := hCO _ hw_1x.symm; omega))) (cwV 4 hts gX4_offerPlainSteps_X4_offer rfl rfl rfl (by decide +kernel) ⟨Nat.le_of_ble_eq_true rfl, Nat.le_of_ble_eq_true rfl⟩) ⟨fun a U g mk q => by obtain ⟨q0, qH, ⟨qK, qN⟩, qI⟩ := q; exact ⟨q0, qH, ⟨va_K.moved (u := U) (U := U.calling g mk a) (Vm.Alike.refl U.vm) qK, jN_same (U := U.calling g mk a) rfl qN⟩, qI⟩, va_recv hK (at_P co_a0) (ci := 4) (q0 := 0) rfl rfl, fun U hU hW => ⟨rfl, hU, jK_warm hW ⟨hK, hN⟩, by rw [hU]; exact ⟨hI, co_a0, c_kf_n_15⟩⟩⟩ rfl rfl hl.1 rfl (lv_room (Nat.le_of_ble_eq_true rfl)) dX4_offerPlainSteps_156 ⟨Nat.le_of_ble_eq_true rfl, Nat.le_of_ble_eq_true rfl⟩) hS (fun q _ h => h) (fun q h => h) (fun u t9 H locs ht hvm hw_28 hB hz1 hk1 hS => ?_)
            obtain ⟨-, hI, hf9, hcp, hck⟩ := hB
            rw [ht] at hI hf9 hcp hck
            clear ht hvm hz1
            have co_pa := fm_at hf9 g_pa (show (5 : Nat) ∉ ([4, 228] : List Nat) by decide) co_pa
            have co_cc := fm_at hf9 g_chain_pa (show (0 : Nat) ∉ ([4, 228] : List Nat) by decide) co_cc
            have co_16 := fm_at hf9 g_tongue_a0 (show (9 : Nat) ∉ ([4, 228] : List Nat) by decide) co_16
            have co_20 := fm_at hf9 g_lattice_a0 (show (3 : Nat) ∉ ([4, 228] : List Nat) by decide) co_20
            have c_ff := fm_at hf9 g_forms_cc (show (210 : Nat) ∉ ([4, 228] : List Nat) by decide) c_ff
            have c_fr := fm_at hf9 g_rules_cc (show (211 : Nat) ∉ ([4, 228] : List Nat) by decide) c_fr
            have c_f_18 := fm_at hf9 g_forms_16 (show (212 : Nat) ∉ ([4, 228] : List Nat) by decide) c_f_18
            have c_f_23 := fm_at hf9 g_cheapest_20 (show (219 : Nat) ∉ ([4, 228] : List Nat) by decide) c_f_23
            have c_f_25 := fm_at hf9 g_b_24 (show (232 : Nat) ∉ ([4, 228] : List Nat) by decide) c_f_25
            have hF := fm_tr hF hf9 (by decide)
            clear hk1 hf9
            obtain ⟨kf_30, kc_31⟩ := u
            have co_a0 : va_at (dC, dI) vwCl (a0, .inr (4, [.long countedUncut_a0, .long counted_a0, .int (kz left_a0), .ref told_a0, .int (kz toldCount_a0), .ref grown_a0, .ref keys_a0, .int (kz kc_31), .ref tongue_a0, .ref lattice_a0])) H := hcp
            have c_kf_30 : va_at (dC, dI) vwCl (keys_a0, .inl (ca 20, 8, .inl kf_30)) H := hck
            clear hcp hck
            have k_kf_30 := ok20_full (X := jk X) (a := keys_a0) (n := 8) kf_30
            have hw_28 : KS kf_30 kc_31 (PS Q (pG X tf place_pa (lst ff size_cc) (cutv X (lst fr size_cc))) rank_pa (1 * 64 + k + 1)) ∧ 0 ≤ kc_31 ∧ kc_31 ≤ 8 := hw_28
            obtain ⟨hw_28, hw_28a, hw_28b⟩ := hw_28
            refine lv_iinc (v := kz (k + 1)) (lv' := [(7, .int (kz (k + 1))), (6, .int (kz (spent_pa + cost_11))), (5, .int (kz (place_pa + z_10))), (4, .int (kz z_10)), (3, .int (kz z_6)), (2, .ref b_3), (0, .ref a0), (1, .ref pa)]) hx hb dX4_offerPlainSteps_159 hl (k := 0) rfl (kz_add k 1) (by decide) rfl (fun ls hl => ?_)
            refine lv_goto (tgt := 97) hx hb dX4_offerPlainSteps_162 (by decide) ?_
            exact ihn_15 (n_15 - 1) (by omega) (kf_30, kc_31) (k + 1) _ _ _ ⟨by omega, by omega, KS_mono hw_28 (fun m h => PS_mono h (by omega)), by omega, by omega, by omega, lv_sub hl [0, 1, 2, 3, 4, 5, 6, 7] rfl, hI, hS, hF, co_a0, co_pa, co_cc, c_kf_30, c_ff, c_fr⟩
          · refine iz_eqz (tgt := 159) hx hb dX4_offerPlainSteps_127 (by decide) (by unfold rg2; omega) (fun _ => ?_) (fun q9 => absurd q9 (by decide))
            refine lv_iinc (v := kz (k + 1)) (lv' := [(7, .int (kz (k + 1))), (6, .int (kz (spent_pa + cost_11))), (5, .int (kz (place_pa + z_10))), (4, .int (kz z_10)), (3, .int (kz z_6)), (2, .ref b_3), (0, .ref a0), (1, .ref pa)]) hx hb dX4_offerPlainSteps_159 hl (k := 0) rfl (kz_add k 1) (by decide) rfl (fun ls hl => ?_)
            refine lv_goto (tgt := 97) hx hb dX4_offerPlainSteps_162 (by decide) ?_
            exact ihn_15 (n_15 - 1) (by omega) (kf_n_15, kc_n_15) (k + 1) _ _ _ ⟨by omega, by omega, KS_mono n_15f2 (fun m h => PS_mono h (by omega)), by omega, by omega, by omega, lv_sub hl [0, 1, 2, 3, 4, 5, 6, 7] rfl, hI, hS, hF, co_a0, co_pa, co_cc, c_kf_n_15, c_ff, c_fr⟩
      · refine lv_aload_n hx hb dX4_offerPlainSteps_81 rfl (lv_at hl 5 rfl) ?_
        refine lv_iload hx hb dX4_offerPlainSteps_82 (lv_at hl 0 rfl) ?_
        refine lv_aload_n hx hb dX4_offerPlainSteps_84 rfl (lv_at hl 6 rfl) ?_
        refine iz_get (D := (dC, dI)) (ci := 5) (v := .int (kz rank_pa)) (C := RX5) (T := TX5) (N := 6) hx hb hts hinX5 hown hK co_pa rfl 5 (by decide) hL127 (fun _ h9 => h9) rfl dX4_offerPlainSteps_85 ?_
        refine lv_iconst (v := kz 0) hx hb dX4_offerPlainSteps_88 rfl ?_
        refine lv_iconst (v := kz 0) hx hb dX4_offerPlainSteps_89 rfl ?_
        obtain ⟨z_32, z_32a, z_32b, z_32e⟩ := kz_ex (kz (spent_pa + cost_11))
        rw [z_32e]
        refine va_callv (va_runV (As := [.int (kz z_32), .int (kz rank_pa), .int (kz 0), .int (kz 0)]) (rest := []) ⟨hx, hb, hml, hown, hts⟩ (c_offer l dC dI ca A X hU H a0 z_32 rank_pa 0 0 Q (pG X tf place_pa (lst ff size_cc) (cutv X (lst fr size_cc))) 0 pp_a0 countedUncut_a0 counted_a0 left_a0 told_a0 toldCount_a0 grown_a0 keys_a0 keyCount_a0 tongue_a0 lattice_a0 kf g_a0 (by omega) g_told_a0 (by omega) g_grown_a0 g_keys_a0 (by omega) g_tongue_a0 g_lattice_a0 (by omega) (by omega) (by omega) (by omega) (by omega) (by omega) hKS (by omega) hQ (pG_0 _ _ _ _ _)) (cwV 4 hts gX4_offerPlainSteps_X4_offer rfl rfl rfl (by decide +kernel) ⟨Nat.le_of_ble_eq_true rfl, Nat.le_of_ble_eq_true rfl⟩) ⟨fun a U g mk q => by obtain ⟨q0, qH, ⟨qK, qN⟩, qI⟩ := q; exact ⟨q0, qH, ⟨va_K.moved (u := U) (U := U.calling g mk a) (Vm.Alike.refl U.vm) qK, jN_same (U := U.calling g mk a) rfl qN⟩, qI⟩, va_recv hK (at_P co_a0) (ci := 4) (q0 := 0) rfl rfl, fun U hU hW => ⟨rfl, hU, jK_warm hW ⟨hK, hN⟩, by rw [hU]; exact ⟨hI, co_a0, c_kf⟩⟩⟩ rfl rfl hl.1 rfl (lv_room (Nat.le_of_ble_eq_true rfl)) dX4_offerPlainSteps_90 ⟨Nat.le_of_ble_eq_true rfl, Nat.le_of_ble_eq_true rfl⟩) hS (fun q _ h => h) (fun q h => h) (fun u t9 H locs ht hvm hw_33 hB hz1 hk1 hS => ?_)
        obtain ⟨-, hI, hf9, hcp, hck⟩ := hB
        rw [ht] at hI hf9 hcp hck
        clear ht hvm hz1
        have co_pa := fm_at hf9 g_pa (show (5 : Nat) ∉ ([4, 228] : List Nat) by decide) co_pa
        have co_cc := fm_at hf9 g_chain_pa (show (0 : Nat) ∉ ([4, 228] : List Nat) by decide) co_cc
        have co_7 := fm_at hf9 g_lattice_a0 (show (3 : Nat) ∉ ([4, 228] : List Nat) by decide) co_7
        have co_11 := fm_at hf9 g_b_3 (show (2 : Nat) ∉ ([4, 228] : List Nat) by decide) co_11
        have c_ff := fm_at hf9 g_forms_cc (show (210 : Nat) ∉ ([4, 228] : List Nat) by decide) c_ff
        have c_fr := fm_at hf9 g_rules_cc (show (211 : Nat) ∉ ([4, 228] : List Nat) by decide) c_fr
        have c_f_12 := fm_at hf9 g_letters_11 (show (201 : Nat) ∉ ([4, 228] : List Nat) by decide) c_f_12
        have hF := fm_tr hF hf9 (by decide)
        clear hk1 hf9
        obtain ⟨kf_35, kc_36⟩ := u
        have co_a0 : va_at (dC, dI) vwCl (a0, .inr (4, [.long countedUncut_a0, .long counted_a0, .int (kz left_a0), .ref told_a0, .int (kz toldCount_a0), .ref grown_a0, .ref keys_a0, .int (kz kc_36), .ref tongue_a0, .ref lattice_a0])) H := hcp
        have c_kf_35 : va_at (dC, dI) vwCl (keys_a0, .inl (ca 20, 8, .inl kf_35)) H := hck
        clear hcp hck
        have k_kf_35 := ok20_full (X := jk X) (a := keys_a0) (n := 8) kf_35
        have hw_33 : KS kf_35 kc_36 (PS Q (pG X tf place_pa (lst ff size_cc) (cutv X (lst fr size_cc))) rank_pa (0 * 64 + 0 + 1)) ∧ 0 ≤ kc_36 ∧ kc_36 ≤ 8 := hw_33
        obtain ⟨hw_33, hw_33a, hw_33b⟩ := hw_33
        exact W.vret hx hb hr (fun t9 ht hW => ⟨⟨(kf_35, kc_36), rfl, ⟨KS_mono hw_33 (fun m h => PS_mono h (by omega)), by omega, by omega⟩, jK_warm hW ⟨hK, hN⟩, by rw [ht]; exact ⟨hI, hF, co_a0, c_kf_35⟩⟩, hS.F ht⟩) hS.2.2 dX4_offerPlainSteps_93
    · exact W.vret hx hb hr (fun t9 ht hW => ⟨⟨(kf, keyCount_a0), rfl, ⟨KS_mono hKS (fun m h => PS_mono h (by omega)), by omega, by omega⟩, jK_warm hW ⟨hK, hN⟩, by rw [ht]; exact ⟨hI, hF, co_a0, c_kf⟩⟩, hS.F ht⟩) hS.2.2 dX4_offerPlainSteps_68
set_option maxHeartbeats 4000000 in
set_option maxRecDepth 100000 in
/-- X4_offerRuledSteps -/
theorem c_offerRuled (l : Launch) (dC : Nat → ClassId) (dI : Nat → Nat → Nat) (ca : Nat → ClassId) (A : Nat → Prop) (X : jG) (hU : jU X) (Hp : Heap) (a0 : Nat) (pa : Nat) (id : Nat) (Q : Int → Prop) (pp_a0 : Int) (countedUncut_a0 : Int64) (counted_a0 : Int64) (left_a0 : Int) (told_a0 : Nat) (toldCount_a0 : Int) (grown_a0 : Nat) (keys_a0 : Nat) (keyCount_a0 : Int) (tongue_a0 : Nat) (lattice_a0 : Nat) (chain_pa : Nat) (cost_pa : Int) (spent_pa : Int) (place_pa : Int) (ended_pa : Int) (rank_pa : Int) (forms_cc : Nat) (rules_cc : Nat) (size_cc : Int) (forms_tg : Nat) (rules_tg : Nat) (formCount_tg : Int) (ruleCount_tg : Int) (forbidden_tg : Nat) (kf : Nat → Int32) (ff : Nat → Option Nat) (fr : Nat → Option Nat) (tf : Nat → Option Nat) (g_a0 : X.1 a0 = (4, 30, 0, 0, 0)) (g_pa : X.1 pa = (5, 30, id, 0, 0)) (left_a0i : 0 ≤ left_a0 ∧ left_a0 ≤ 1) (g_told_a0 : X.1 told_a0 = (226, 26, 8, pp_a0, 0)) (toldCount_a0i : 0 ≤ toldCount_a0 ∧ toldCount_a0 ≤ 8) (g_grown_a0 : X.1 grown_a0 = (226, 26, 8, 1 - pp_a0, 0)) (g_keys_a0 : X.1 keys_a0 = (228, 20, 8, -2147483648, 2147483647)) (keyCount_a0i : 0 ≤ keyCount_a0 ∧ keyCount_a0 ≤ 8) (g_tongue_a0 : X.1 tongue_a0 = (9, 30, 0, 0, 0)) (g_lattice_a0 : X.1 lattice_a0 = (3, 30, 0, 0, 0)) (x_a0_0 : 0 ≤ pp_a0) (x_a0_1 : pp_a0 ≤ 1) (g_chain_pa : X.1 chain_pa = (0, 30, id, 0, 0)) (cost_pai : -2147483648 ≤ cost_pa ∧ cost_pa ≤ 2147483647) (spent_pai : -2147483648 ≤ spent_pa ∧ spent_pa ≤ 2147483647) (place_pai : 0 ≤ place_pa ∧ place_pa ≤ 60) (ended_pai : 0 ≤ ended_pa ∧ ended_pa ≤ 1) (rank_pai : 0 ≤ rank_pa ∧ rank_pa ≤ 7) (g_forms_cc : X.1 forms_cc = (210, 24, 40, 2, (id : Int))) (g_rules_cc : X.1 rules_cc = (211, 25, 40, 7, (id : Int))) (size_cci : 0 ≤ size_cc ∧ size_cc ≤ 40) (x_cc_0 : size_cc ≤ (X.2.1 forms_cc : Int)) (g_forms_tg : X.1 forms_tg = (212, 24, 40, 2, 0)) (g_rules_tg : X.1 rules_tg = (213, 29, 24, 7, 0)) (formCount_tgi : 0 ≤ formCount_tg ∧ formCount_tg ≤ 40) (ruleCount_tgi : 0 ≤ ruleCount_tg ∧ ruleCount_tg ≤ 24) (g_forbidden_tg : X.1 forbidden_tg = (214, 22, 36, 0, 0)) (x_tg_0 : formCount_tg ≤ (X.2.1 forms_tg : Int)) (x_tg_1 : ruleCount_tg ≤ (X.2.1 rules_tg : Int)) (x_tg_2 : ruleCount_tg = (X.2.2.2 : Int)) (hCO : ∀ a : Nat, lst ff size_cc = some a → cutv X (lst fr size_cc) ≤ (X.2.1 a : Int)) (hQ : ∀ m : Int, Q m → m / 2048 ≠ rank_pa) (hKS : KS kf keyCount_a0 (PS Q (pG X tf place_pa (lst ff size_cc) (cutv X (lst fr size_cc))) rank_pa 128)) : Met l yX4_offerRuledSteps wsX4_offerRuledSteps ({ frames := 3, cells := 0, slots := 0, locals := 72 }) (va_Pc [.ref a0, .ref pa] (fun U => U.heap = Hp ∧ jK (dC, dI) ca U ∧ jv (dC, dI) ca A X U.heap ∧ va_at (dC, dI) vwCl (a0, .inr (4, [.long countedUncut_a0, .long counted_a0, .int (kz left_a0), .ref told_a0, .int (kz toldCount_a0), .ref grown_a0, .ref keys_a0, .int (kz keyCount_a0), .ref tongue_a0, .ref lattice_a0])) U.heap ∧ va_at (dC, dI) vwCl (pa, .inr (5, [.ref chain_pa, .int (kz cost_pa), .int (kz spent_pa), .int (kz place_pa), .int (kz ended_pa), .int (kz rank_pa)])) U.heap ∧ va_at (dC, dI) vwCl (chain_pa, .inr (0, [.ref forms_cc, .ref rules_cc, .int (kz size_cc)])) U.heap ∧ va_at (dC, dI) vwCl (tongue_a0, .inr (9, [.ref forms_tg, .ref rules_tg, .int (kz formCount_tg), .int (kz ruleCount_tg), .ref forbidden_tg])) U.heap ∧ va_at (dC, dI) vwCl (keys_a0, .inl (ca 20, 8, .inl kf)) U.heap ∧ va_at (dC, dI) vwCl (forms_cc, je_q ca 40 24 ff) U.heap ∧ va_at (dC, dI) vwCl (rules_cc, je_q ca 40 25 fr) U.heap ∧ va_at (dC, dI) vwCl (forms_tg, je_q ca 40 24 tf) U.heap)) (va_Qv (fun (u : (Nat → Int32) × Int) => KS u.1 u.2 (PS Q (pG X tf place_pa (lst ff size_cc) (cutv X (lst fr size_cc))) rank_pa 2048) ∧ 0 ≤ u.2 ∧ u.2 ≤ 8) (fun (u : (Nat → Int32) × Int) U => jK (dC, dI) ca U ∧ jv (dC, dI) ca A X U.heap ∧ kfm X [4, 228] Hp U.heap ∧ va_at (dC, dI) vwCl (a0, .inr (4, [.long countedUncut_a0, .long counted_a0, .int (kz left_a0), .ref told_a0, .int (kz toldCount_a0), .ref grown_a0, .ref keys_a0, .int (kz u.2), .ref tongue_a0, .ref lattice_a0])) U.heap ∧ va_at (dC, dI) vwCl (keys_a0, .inl (ca 20, 8, .inl u.1)) U.heap) A) 0 0 A := by
  refine Met.ofW (cc := cX4_offerRuledSteps) (maxL := 7) (ret := none) (by decide) rfl ?_
  intro p e s m args below meth c s₁ B hml hv
  obtain ⟨rfl, hHp, ⟨hK, hN⟩, hI, co_a0, co_pa, co_cc, co_tg, c_kf, c_ff, c_fr, c_tf⟩ := hv
  have hx := B.exec
  have hb := B.bytes
  have hr := B.returns
  have hts := atoms_spec (ws := wsX4_offerRuledSteps) B.pre
  have hown : s.vm.findClass RX4 = some m.cls := findClass_of_methodNamed B.named
  have hL96 := hts (.fieldLink RX4 96 "JoinBench$Path" "chain" "LJoinBench$Chain;") (by decide +kernel)
  have hL51 := hts (.fieldLink RX4 51 "JoinBench$Parter" "lattice" "LJoinBench$Lattice;") (by decide +kernel)
  have hL121 := hts (.fieldLink RX4 121 "JoinBench$Path" "place" "I") (by decide +kernel)
  have hL42 := hts (.fieldLink RX4 42 "JoinBench$Parter" "tongue" "LJoinBench$Tongue;") (by decide +kernel)
  have hL168 := hts (.fieldLink RX4 168 "JoinBench$Tongue" "ruleCount" "I") (by decide +kernel)
  have hL171 := hts (.fieldLink RX4 171 "JoinBench$Form" "ends" "I") (by decide +kernel)
  have hL156 := hts (.fieldLink RX4 156 "JoinBench$Form" "letters" "[B") (by decide +kernel)
  have hL178 := hts (.fieldLink RX4 178 "JoinBench$Tongue" "rules" "[LJoinBench$Rule;") (by decide +kernel)
  have hinX2 : ∀ w ∈ u_ws RX2 TX2 8, w ∈ wsX4_offerRuledSteps := by decide +kernel
  have hinX4 : ∀ w ∈ u_ws RX4 TX4 10, w ∈ wsX4_offerRuledSteps := by decide +kernel
  have hinX5 : ∀ w ∈ u_ws RX5 TX5 6, w ∈ wsX4_offerRuledSteps := by decide +kernel
  have hinX9 : ∀ w ∈ u_ws RX9 TX9 5, w ∈ wsX4_offerRuledSteps := by decide +kernel
  obtain ⟨H, hH⟩ : ∃ H : Heap, H = s.heap := ⟨_, rfl⟩
  have hS : va_S A s.heap H [] := by rw [hH]; exact va_S.rf
  have hF : kfm X [4, 228] Hp H := by rw [hH, hHp]; exact fm_rf _ _ _
  rw [← hH] at hI co_a0 co_pa co_cc co_tg c_kf c_ff c_fr c_tf ⊢
  clear hH
  have k_kf := ok20_full (X := jk X) (a := keys_a0) (n := 8) kf
  have k_ff := kq24 hI g_forms_cc c_ff
  have k_fr := kq25 hI g_rules_cc c_fr
  have k_tf := kq24 hI g_forms_tg c_tf
  have hl := lv_entry ([.ref a0, .ref pa]) (n := 7) (Nat.le_of_ble_eq_true rfl)
  rw [lg_entry_eq]
  generalize (lg_sl ([.ref a0, .ref pa]) ++ List.replicate (7 - (lg_sl ([.ref a0, .ref pa])).length) Slot.unset).toArray = ls at hl ⊢
  have hl : lv_has ls 7 [(0, .ref a0), (1, .ref pa)] := hl
  refine lv_aload_n hx hb dX4_offerRuledSteps_0 rfl (lv_at hl 1 rfl) ?_
  refine iz_get (D := (dC, dI)) (ci := 5) (v := .ref chain_pa) (C := RX5) (T := TX5) (N := 6) hx hb hts hinX5 hown hK co_pa rfl 0 (by decide) hL96 (fun _ h9 => h9) rfl dX4_offerRuledSteps_1 ?_
  refine va_csq (va_Run.run (va_runV (As := []) (rest := []) ⟨hx, hb, hml, hown, hts⟩ (c_lastX l dC dI ca A X hU chain_pa id forms_cc rules_cc size_cc ff g_chain_pa g_forms_cc g_rules_cc (by omega) (by omega)) (cwV 0 hts gX4_offerRuledSteps_X0_last rfl rfl rfl (by decide +kernel) ⟨Nat.le_of_ble_eq_true rfl, Nat.le_of_ble_eq_true rfl⟩) ⟨fun a U g mk q => by obtain ⟨q0, ⟨qK, qN⟩, qI⟩ := q; exact ⟨q0, ⟨va_K.moved (u := U) (U := U.calling g mk a) (Vm.Alike.refl U.vm) qK, jN_same (U := U.calling g mk a) rfl qN⟩, qI⟩, va_recv hK (at_P co_cc) (ci := 0) (q0 := 0) rfl rfl, fun U hU hW => ⟨rfl, jK_warm hW ⟨hK, hN⟩, by rw [hU]; exact ⟨hI, co_cc, c_ff⟩⟩⟩ rfl rfl hl.1 rfl (lv_room (Nat.le_of_ble_eq_true rfl)) dX4_offerRuledSteps_4 ⟨Nat.le_of_ble_eq_true rfl, Nat.le_of_ble_eq_true rfl⟩)) (fun r_2 hw_1 => ?_)
  obtain ⟨hw_1, hw_1x⟩ := hw_1
  rcases r_2 with _ | b_3
  · refine W.eq (g2 := F0 m 7 ls [.null]) rfl ?_
    refine lv_astore_nN (lv' := [(2, .null), (0, .ref a0), (1, .ref pa)]) hx hb dX4_offerRuledSteps_7 rfl hl (by decide) rfl (fun ls hl => ?_)
    refine lv_aload_nN hx hb dX4_offerRuledSteps_8 rfl (lv_at hl 0 rfl) ?_
    refine lv_ifnonnullN hx hb dX4_offerRuledSteps_9 ?_
    exact W.vret hx hb hr (fun t9 ht hW => ⟨⟨(kf, keyCount_a0), rfl, ⟨KS_mono hKS (fun m h => PS_mono h (by omega)), by omega, by omega⟩, jK_warm hW ⟨hK, hN⟩, by rw [ht]; exact ⟨hI, hF, co_a0, c_kf⟩⟩, hS.F ht⟩) hS.2.2 dX4_offerRuledSteps_12
  · have g_b_3 := hw_1 b_3 rfl
    refine W.eq (g2 := F0 m 7 ls [.ref b_3]) rfl ?_
    refine lv_astore_n (lv' := [(2, .ref b_3), (0, .ref a0), (1, .ref pa)]) hx hb dX4_offerRuledSteps_7 rfl hl (by decide) rfl (fun ls hl => ?_)
    refine lv_aload_n hx hb dX4_offerRuledSteps_8 rfl (lv_at hl 0 rfl) ?_
    refine lv_ifnonnull (tgt := 13) hx hb dX4_offerRuledSteps_9 (by decide) ?_
    refine lv_aload_n hx hb dX4_offerRuledSteps_13 rfl (lv_at hl 2 rfl) ?_
    refine iz_get (D := (dC, dI)) (ci := 5) (v := .ref chain_pa) (C := RX5) (T := TX5) (N := 6) hx hb hts hinX5 hown hK co_pa rfl 0 (by decide) hL96 (fun _ h9 => h9) rfl dX4_offerRuledSteps_14 ?_
    refine vp_callSi (va_Run.run (va_runV (As := []) (rest := []) ⟨hx, hb, hml, hown, hts⟩ (c_lastCutX l dC dI ca A X hU chain_pa id forms_cc rules_cc size_cc fr g_chain_pa g_forms_cc g_rules_cc (by omega) (by omega)) (cwV 0 hts gX4_offerRuledSteps_X0_lastCut rfl rfl rfl (by decide +kernel) ⟨Nat.le_of_ble_eq_true rfl, Nat.le_of_ble_eq_true rfl⟩) ⟨fun a U g mk q => by obtain ⟨q0, ⟨qK, qN⟩, qI⟩ := q; exact ⟨q0, ⟨va_K.moved (u := U) (U := U.calling g mk a) (Vm.Alike.refl U.vm) qK, jN_same (U := U.calling g mk a) rfl qN⟩, qI⟩, va_recv hK (at_P co_cc) (ci := 0) (q0 := 0) rfl rfl, fun U hU hW => ⟨rfl, jK_warm hW ⟨hK, hN⟩, by rw [hU]; exact ⟨hI, co_cc, c_fr⟩⟩⟩ rfl rfl hl.1 rfl (lv_room (Nat.le_of_ble_eq_true rfl)) dX4_offerRuledSteps_17 ⟨Nat.le_of_ble_eq_true rfl, Nat.le_of_ble_eq_true rfl⟩)) (fun r_5 hw_4 => ?_)
    obtain ⟨z_6, rfl, z_6h, z_6x⟩ := hw_4
    refine lv_istore_n (lv' := [(3, .int (kz z_6)), (2, .ref b_3), (0, .ref a0), (1, .ref pa)]) hx hb dX4_offerRuledSteps_20 rfl hl (by decide) rfl (fun ls hl => ?_)
    refine lv_aload_n hx hb dX4_offerRuledSteps_21 rfl (lv_at hl 2 rfl) ?_
    refine iz_get (D := (dC, dI)) (ci := 4) (v := .ref lattice_a0) (C := RX4) (T := TX4) (N := 10) hx hb hts hinX4 hown hK co_a0 rfl 9 (by decide) hL51 (fun _ h9 => h9) rfl dX4_offerRuledSteps_22 ?_
    refine lv_aload_n hx hb dX4_offerRuledSteps_25 rfl (lv_at hl 3 rfl) ?_
    refine iz_get (D := (dC, dI)) (ci := 5) (v := .int (kz place_pa)) (C := RX5) (T := TX5) (N := 6) hx hb hts hinX5 hown hK co_pa rfl 3 (by decide) hL121 (fun _ h9 => h9) rfl dX4_offerRuledSteps_26 ?_
    refine lv_aload_n hx hb dX4_offerRuledSteps_29 rfl (lv_at hl 1 rfl) ?_
    refine lv_iload_n hx hb dX4_offerRuledSteps_30 rfl (lv_at hl 0 rfl) ?_
    obtain ⟨fs9, co_7, jo9⟩ := jv_o3 hI g_lattice_a0
    obtain ⟨cheapest_7, size_7, tongue_7, line_7, ways_7, plainWays_7, plainCheapest_7, ruledWays_7, ruledCheapest_7, inForce_7, barred_7, rfl, g_cheapest_7, ⟨size_7a, size_7b⟩, g_tongue_7, g_line_7, g_ways_7, g_plainWays_7, g_plainCheapest_7, g_ruledWays_7, g_ruledCheapest_7, ⟨inForce_7a, inForce_7b⟩, g_barred_7⟩ := jo9
    have e9 : tongue_a0 = tongue_7 := jU_eq hU g_tongue_a0 g_tongue_7 (show (30 : Nat) ≠ 0 by decide) (show uq 9 = true by decide)
    subst e9
    refine vp_callSi (va_Run.run (va_runV (As := [.int (kz place_pa), .ref b_3, .int (kz z_6)]) (rest := []) ⟨hx, hb, hml, hown, hts⟩ (c_sharedLetters l dC dI ca A X hU lattice_a0 place_pa b_3 z_6 g_lattice_a0 g_b_3 (by omega) (by omega)) (cwV 3 hts gX4_offerRuledSteps_X3_sharedLetters rfl rfl rfl (by decide +kernel) ⟨Nat.le_of_ble_eq_true rfl, Nat.le_of_ble_eq_true rfl⟩) ⟨fun a U g mk q => by obtain ⟨q0, ⟨qK, qN⟩, qI⟩ := q; exact ⟨q0, ⟨va_K.moved (u := U) (U := U.calling g mk a) (Vm.Alike.refl U.vm) qK, jN_same (U := U.calling g mk a) rfl qN⟩, qI⟩, va_recv hK (at_P co_7) (ci := 3) (q0 := 0) rfl rfl, fun U hU hW => ⟨rfl, jK_warm hW ⟨hK, hN⟩, by rw [hU]; exact hI⟩⟩ rfl rfl hl.1 rfl (lv_room (Nat.le_of_ble_eq_true rfl)) dX4_offerRuledSteps_31 ⟨Nat.le_of_ble_eq_true rfl, Nat.le_of_ble_eq_true rfl⟩)) (fun r_9 hw_8 => ?_)
    obtain ⟨z_10, rfl, z_10h⟩ := hw_8
    refine lv_istore (lv' := [(4, .int (kz z_10)), (3, .int (kz z_6)), (2, .ref b_3), (0, .ref a0), (1, .ref pa)]) hx hb dX4_offerRuledSteps_34 hl (by decide) rfl (fun ls hl => ?_)
    refine lv_iconst (v := kz 0) hx hb dX4_offerRuledSteps_36 rfl ?_
    refine lv_istore (lv' := [(5, .int (kz 0)), (4, .int (kz z_10)), (3, .int (kz z_6)), (2, .ref b_3), (0, .ref a0), (1, .ref pa)]) hx hb dX4_offerRuledSteps_37 hl (by decide) rfl (fun ls hl => ?_)
    refine iz_loopA1 (α := (Nat → Int32) × Int) (P := fun N9 u9 k H locs ls => (0 ≤ k) ∧ (k ≤ 24) ∧ (KS u9.1 u9.2 (PS Q (pG X tf place_pa (lst ff size_cc) (cutv X (lst fr size_cc))) rank_pa ((2 + k) * 64))) ∧ (0 ≤ u9.2) ∧ (u9.2 ≤ 8) ∧ 24 - k ≤ (N9 : Int) ∧ lv_has ls 7 [(5, .int (kz k)), (4, .int (kz z_10)), (3, .int (kz z_6)), (2, .ref b_3), (0, .ref a0), (1, .ref pa)] ∧ jv (dC, dI) ca A X H ∧ va_S A s.heap H locs ∧ kfm X [4, 228] Hp H ∧ va_at (dC, dI) vwCl (a0, .inr (4, [.long countedUncut_a0, .long counted_a0, .int (kz left_a0), .ref told_a0, .int (kz toldCount_a0), .ref grown_a0, .ref keys_a0, .int (kz u9.2), .ref tongue_a0, .ref lattice_a0])) H ∧ va_at (dC, dI) vwCl (pa, .inr (5, [.ref chain_pa, .int (kz cost_pa), .int (kz spent_pa), .int (kz place_pa), .int (kz ended_pa), .int (kz rank_pa)])) H ∧ va_at (dC, dI) vwCl (chain_pa, .inr (0, [.ref forms_cc, .ref rules_cc, .int (kz size_cc)])) H ∧ va_at (dC, dI) vwCl (tongue_a0, .inr (9, [.ref forms_tg, .ref rules_tg, .int (kz formCount_tg), .int (kz ruleCount_tg), .ref forbidden_tg])) H ∧ va_at (dC, dI) vwCl (keys_a0, .inl (ca 20, 8, .inl u9.1)) H ∧ va_at (dC, dI) vwCl (forms_cc, je_q ca 40 24 ff) H ∧ va_at (dC, dI) vwCl (rules_cc, je_q ca 40 25 fr) H ∧ va_at (dC, dI) vwCl (forms_tg, je_q ca 40 24 tf) H) 100000 (kf, keyCount_a0) (x0 := 0) ?_ ⟨by omega, by omega, KS_mono hKS (fun m h => PS_mono h (by omega)), by omega, by omega, by omega, lv_sub hl [0, 1, 2, 3, 4, 5] rfl, hI, hS, hF, co_a0, co_pa, co_cc, co_tg, c_kf, c_ff, c_fr, c_tf⟩
    intro n_11 ⟨kf_n_11, kc_n_11⟩ k H locs ls ⟨n_11f0, n_11f1, n_11f2, n_11f3, n_11f4, n_11f5, hl, hI, hS, hF, co_a0, co_pa, co_cc, co_tg, c_kf_n_11, c_ff, c_fr, c_tf⟩ ihn_11
    have k_kf_n_11 := ok20_full (X := jk X) (a := keys_a0) (n := 8) kf_n_11
    have co_a0 : va_at (dC, dI) vwCl (a0, .inr (4, [.long countedUncut_a0, .long counted_a0, .int (kz left_a0), .ref told_a0, .int (kz toldCount_a0), .ref grown_a0, .ref keys_a0, .int (kz kc_n_11), .ref tongue_a0, .ref lattice_a0])) H := co_a0
    have c_kf_n_11 : va_at (dC, dI) vwCl (keys_a0, .inl (ca 20, 8, .inl kf_n_11)) H := c_kf_n_11
    have n_11f0 : 0 ≤ k := n_11f0
    have n_11f1 : k ≤ 24 := n_11f1
    have n_11f2 : KS kf_n_11 kc_n_11 (PS Q (pG X tf place_pa (lst ff size_cc) (cutv X (lst fr size_cc))) rank_pa ((2 + k) * 64)) := n_11f2
    have n_11f3 : 0 ≤ kc_n_11 := n_11f3
    have n_11f4 : kc_n_11 ≤ 8 := n_11f4
    refine lv_iload hx hb dX4_offerRuledSteps_39 (lv_at hl 0 rfl) ?_
    refine lv_aload_n hx hb dX4_offerRuledSteps_41 rfl (lv_at hl 4 rfl) ?_
    refine iz_get (D := (dC, dI)) (ci := 4) (v := .ref tongue_a0) (C := RX4) (T := TX4) (N := 10) hx hb hts hinX4 hown hK co_a0 rfl 8 (by decide) hL42 (fun _ h9 => h9) rfl dX4_offerRuledSteps_42 ?_
    refine iz_get (D := (dC, dI)) (ci := 9) (v := .int (kz ruleCount_tg)) (C := RX9) (T := TX9) (N := 5) hx hb hts hinX9 hown hK co_tg rfl 3 (by decide) hL168 (fun _ h9 => h9) rfl dX4_offerRuledSteps_45 ?_
    refine iz_ge (tgt := 120) hx hb dX4_offerRuledSteps_48 (by decide) (by unfold rg2; omega) (fun br_12 => ?_) (fun br_12 => ?_)
    · exact W.vret hx hb hr (fun t9 ht hW => ⟨⟨(kf_n_11, kc_n_11), rfl, ⟨KS_mono n_11f2 (fun m h => PS_mono h (by omega)), by omega, by omega⟩, jK_warm hW ⟨hK, hN⟩, by rw [ht]; exact ⟨hI, hF, co_a0, c_kf_n_11⟩⟩, hS.F ht⟩) hS.2.2 dX4_offerRuledSteps_120
    · refine lv_aload_n hx hb dX4_offerRuledSteps_51 rfl (lv_at hl 3 rfl) ?_
      obtain ⟨fs9, co_13, jo9⟩ := jv_o2 hI g_b_3
      obtain ⟨ln_13, letters_13, kind_13, stem_13, kept_13, cost_13, number_13, ends_13, begins_13, rfl, g_letters_13, ⟨kind_13a, kind_13b⟩, ⟨stem_13a, stem_13b⟩, ⟨kept_13a, kept_13b⟩, ⟨cost_13a, cost_13b⟩, ⟨number_13a, number_13b⟩, ⟨ends_13a, ends_13b⟩, ⟨begins_13a, begins_13b⟩, x_13_0, x_13_1, x_13_2, x_13_3⟩ := jo9
      refine iz_get (D := (dC, dI)) (ci := 2) (v := .int (kz ends_13)) (C := RX2) (T := TX2) (N := 8) hx hb hts hinX2 hown hK co_13 rfl 6 (by decide) hL171 (fun _ h9 => h9) rfl dX4_offerRuledSteps_52 ?_
      refine lv_iload hx hb dX4_offerRuledSteps_55 (lv_at hl 0 rfl) ?_
      refine vp_callSi (va_Run.run (va_runSN (As := [.int (kz ends_13), .int (kz k)]) (rest := []) ⟨hx, hb, hml, hown, hts⟩ (c_hasRuleX l ends_13 k (by omega) (by omega)) ⟨va_cnB 2 hts gX4_offerRuledSteps_X11_hasRule_n174 rfl rfl rfl (jN_X4_174 hN) (hts (.initialized RX11) (by decide +kernel)) (by decide +kernel) ⟨Nat.le_of_ble_eq_true rfl, Nat.le_of_ble_eq_true rfl⟩, hts (.static yX11_hasRule) (by decide +kernel), trivial⟩ ⟨fun a U g mk q => q, fun U hU hW => ⟨rfl, trivial⟩⟩ rfl rfl hl.1 rfl (lv_room (Nat.le_of_ble_eq_true rfl)) dX4_offerRuledSteps_57 ⟨Nat.le_of_ble_eq_true rfl, Nat.le_of_ble_eq_true rfl⟩)) (fun r_15 hw_14 => ?_)
      rcases hw_14 with ⟨rfl, hw_14⟩ | rfl
      · refine iz_nez (tgt := 66) hx hb dX4_offerRuledSteps_60 (by decide) (by unfold rg2; omega) (fun _ => ?_) (fun q9 => absurd q9 (by decide))
        refine lv_aload_n hx hb dX4_offerRuledSteps_66 rfl (lv_at hl 4 rfl) ?_
        refine iz_get (D := (dC, dI)) (ci := 4) (v := .ref lattice_a0) (C := RX4) (T := TX4) (N := 10) hx hb hts hinX4 hown hK co_a0 rfl 9 (by decide) hL51 (fun _ h9 => h9) rfl dX4_offerRuledSteps_67 ?_
        refine lv_aload_n hx hb dX4_offerRuledSteps_70 rfl (lv_at hl 5 rfl) ?_
        refine iz_get (D := (dC, dI)) (ci := 5) (v := .int (kz place_pa)) (C := RX5) (T := TX5) (N := 6) hx hb hts hinX5 hown hK co_pa rfl 3 (by decide) hL121 (fun _ h9 => h9) rfl dX4_offerRuledSteps_71 ?_
        refine lv_aload_n hx hb dX4_offerRuledSteps_74 rfl (lv_at hl 3 rfl) ?_
        refine iz_get (D := (dC, dI)) (ci := 2) (v := .ref letters_13) (C := RX2) (T := TX2) (N := 8) hx hb hts hinX2 hown hK co_13 rfl 0 (by decide) hL156 (fun _ h9 => h9) rfl dX4_offerRuledSteps_75 ?_
        obtain ⟨f_16, c_f_16⟩ := iv_o21 (jv_iv hI) g_letters_13
        refine va_alen hx hb hK (at_P c_f_16) 0 1 rfl rfl (v := kz (ln_13 : Int)) rfl dX4_offerRuledSteps_78 ?_
        refine lv_iload_n hx hb dX4_offerRuledSteps_79 rfl (lv_at hl 2 rfl) ?_
        refine iz_isub hx hb dX4_offerRuledSteps_80 ?_
        refine lv_iload hx hb dX4_offerRuledSteps_81 (lv_at hl 1 rfl) ?_
        refine lv_aload_n hx hb dX4_offerRuledSteps_83 rfl (lv_at hl 4 rfl) ?_
        refine iz_get (D := (dC, dI)) (ci := 4) (v := .ref tongue_a0) (C := RX4) (T := TX4) (N := 10) hx hb hts hinX4 hown hK co_a0 rfl 8 (by decide) hL42 (fun _ h9 => h9) rfl dX4_offerRuledSteps_84 ?_
        refine iz_get (D := (dC, dI)) (ci := 9) (v := .ref rules_tg) (C := RX9) (T := TX9) (N := 5) hx hb hts hinX9 hown hK co_tg rfl 1 (by decide) hL178 (fun _ h9 => h9) rfl dX4_offerRuledSteps_87 ?_
        refine lv_iload hx hb dX4_offerRuledSteps_90 (lv_at hl 0 rfl) ?_
        obtain ⟨f_17, c_f_17, k_f_17⟩ := jv_q29 hI g_rules_tg
        refine jz_aald hx hb hK 5 c_f_17 rfl rfl (by omega) (by decide) dX4_offerRuledSteps_92 ?_
        obtain ⟨b_18, eb_18⟩ : ∃ b9 : Nat, f_17 (Int.toNat k) = some b9 := Option.ne_none_iff_exists'.mp ((k_f_17 (Int.toNat k) (by omega)).2 (by omega))
        have g_b_18 := (k_f_17 (Int.toNat k) (by omega)).1 b_18 eb_18
        rw [eb_18]
        refine W.eq (g2 := F0 m 93 ls [.ref b_18, .int (kz z_10), .int (kz ((ln_13 : Int) - z_6)), .int (kz place_pa), .ref lattice_a0]) rfl ?_
        obtain ⟨fs9, co_19, jo9⟩ := jv_o3 hI g_lattice_a0
        obtain ⟨cheapest_19, size_19, tongue_19, line_19, ways_19, plainWays_19, plainCheapest_19, ruledWays_19, ruledCheapest_19, inForce_19, barred_19, rfl, g_cheapest_19, ⟨size_19a, size_19b⟩, g_tongue_19, g_line_19, g_ways_19, g_plainWays_19, g_plainCheapest_19, g_ruledWays_19, g_ruledCheapest_19, ⟨inForce_19a, inForce_19b⟩, g_barred_19⟩ := jo9
        have e9 : cheapest_7 = cheapest_19 := jU_eq hU g_cheapest_7 g_cheapest_19 (show (27 : Nat) ≠ 0 by decide) (show uq 219 = true by decide)
        subst e9
        have e9 : tongue_a0 = tongue_19 := jU_eq hU g_tongue_a0 g_tongue_19 (show (30 : Nat) ≠ 0 by decide) (show uq 9 = true by decide)
        subst e9
        have e9 : line_7 = line_19 := jU_eq hU g_line_7 g_line_19 (show (21 : Nat) ≠ 0 by decide) (show uq 204 = true by decide)
        subst e9
        have e9 : ways_7 = ways_19 := jU_eq hU g_ways_7 g_ways_19 (show (23 : Nat) ≠ 0 by decide) (show uq 220 = true by decide)
        subst e9
        have e9 : plainWays_7 = plainWays_19 := jU_eq hU g_plainWays_7 g_plainWays_19 (show (28 : Nat) ≠ 0 by decide) (show uq 221 = true by decide)
        subst e9
        have e9 : plainCheapest_7 = plainCheapest_19 := jU_eq hU g_plainCheapest_7 g_plainCheapest_19 (show (27 : Nat) ≠ 0 by decide) (show uq 222 = true by decide)
        subst e9
        have e9 : ruledWays_7 = ruledWays_19 := jU_eq hU g_ruledWays_7 g_ruledWays_19 (show (28 : Nat) ≠ 0 by decide) (show uq 223 = true by decide)
        subst e9
        have e9 : ruledCheapest_7 = ruledCheapest_19 := jU_eq hU g_ruledCheapest_7 g_ruledCheapest_19 (show (27 : Nat) ≠ 0 by decide) (show uq 224 = true by decide)
        subst e9
        have e9 : barred_7 = barred_19 := jU_eq hU g_barred_7 g_barred_19 (show (22 : Nat) ≠ 0 by decide) (show uq 225 = true by decide)
        subst e9
        obtain ⟨fs9, co_20, jo9⟩ := jv_o7 hI g_b_18
        obtain ⟨ln_20, letters_20, endSize_20, beginningSize_20, comesFrom_20, comesSize_20, cost_20, firstDay_20, lastDay_20, number_20, rfl, g_letters_20, ⟨endSize_20a, endSize_20b⟩, ⟨beginningSize_20a, beginningSize_20b⟩, ⟨comesFrom_20a, comesFrom_20b⟩, ⟨comesSize_20a, comesSize_20b⟩, ⟨cost_20a, cost_20b⟩, ⟨firstDay_20a, firstDay_20b⟩, ⟨lastDay_20a, lastDay_20b⟩, ⟨number_20a, number_20b⟩, x_20_0, x_20_1, x_20_2, x_20_3, x_20_4, x_20_5⟩ := jo9
        refine vp_callSi (va_Run.run (va_runV (As := [.int (kz place_pa), .int (kz ((ln_13 : Int) - z_6)), .int (kz z_10), .ref b_18]) (rest := []) ⟨hx, hb, hml, hown, hts⟩ (c_placeBehind l dC dI ca A X hU lattice_a0 place_pa ((ln_13 : Int) - z_6) z_10 b_18 (Int.toNat k) cheapest_7 size_19 tongue_a0 line_7 ways_7 plainWays_7 plainCheapest_7 ruledWays_7 ruledCheapest_7 inForce_19 barred_7 ln_20 letters_20 endSize_20 beginningSize_20 comesFrom_20 comesSize_20 cost_20 firstDay_20 lastDay_20 number_20 g_lattice_a0 g_b_18 g_cheapest_19 (by omega) g_tongue_19 g_line_19 g_ways_19 g_plainWays_19 g_plainCheapest_19 g_ruledWays_19 g_ruledCheapest_19 (by omega) g_barred_19 g_letters_20 (by omega) (by omega) (by omega) (by omega) (by omega) (by omega) (by omega) (by omega) (by omega) (by omega) x_20_2 x_20_3 (by omega) x_20_5 (by omega) (by omega) (by omega)) (cwV 4 hts gX4_offerRuledSteps_X3_placeBehind rfl rfl rfl (by decide +kernel) ⟨Nat.le_of_ble_eq_true rfl, Nat.le_of_ble_eq_true rfl⟩) ⟨fun a U g mk q => by obtain ⟨q0, ⟨qK, qN⟩, qI⟩ := q; exact ⟨q0, ⟨va_K.moved (u := U) (U := U.calling g mk a) (Vm.Alike.refl U.vm) qK, jN_same (U := U.calling g mk a) rfl qN⟩, qI⟩, va_recv hK (at_P co_19) (ci := 3) (q0 := 0) rfl rfl, fun U hU hW => ⟨rfl, jK_warm hW ⟨hK, hN⟩, by rw [hU]; exact ⟨hI, co_19, co_20⟩⟩⟩ rfl rfl hl.1 rfl (lv_room (Nat.le_of_ble_eq_true rfl)) dX4_offerRuledSteps_93 ⟨Nat.le_of_ble_eq_true rfl, Nat.le_of_ble_eq_true rfl⟩)) (fun r_22 hw_21 => ?_)
        rcases hw_21 with ⟨z_23, rfl, z_231, z_232, z_233⟩ | rfl
        · refine lv_istore (lv' := [(6, .int (kz z_23)), (5, .int (kz k)), (4, .int (kz z_10)), (3, .int (kz z_6)), (2, .ref b_3), (0, .ref a0), (1, .ref pa)]) hx hb dX4_offerRuledSteps_96 hl (by decide) rfl (fun ls hl => ?_)
          refine lv_iload hx hb dX4_offerRuledSteps_98 (lv_at hl 0 rfl) ?_
          refine lv_iconst (v := kz (-1)) hx hb dX4_offerRuledSteps_100 rfl ?_
          refine iz_eq (tgt := 114) hx hb dX4_offerRuledSteps_101 (by decide) (by unfold rg2; omega) (fun br_24 => ?_) (fun br_24 => ?_)
          · refine lv_iinc (v := kz (k + 1)) (lv' := [(5, .int (kz (k + 1))), (6, .int (kz z_23)), (4, .int (kz z_10)), (3, .int (kz z_6)), (2, .ref b_3), (0, .ref a0), (1, .ref pa)]) hx hb dX4_offerRuledSteps_114 hl (k := 1) rfl (kz_add k 1) (by decide) rfl (fun ls hl => ?_)
            refine lv_goto (tgt := 39) hx hb dX4_offerRuledSteps_117 (by decide) ?_
            exact ihn_11 (n_11 - 1) (by omega) (kf_n_11, kc_n_11) (k + 1) _ _ _ ⟨by omega, by omega, KS_mono n_11f2 (fun m h => PS_mono h (by omega)), by omega, by omega, by omega, lv_sub hl [0, 2, 3, 4, 5, 6] rfl, hI, hS, hF, co_a0, co_pa, co_cc, co_tg, c_kf_n_11, c_ff, c_fr, c_tf⟩
          · refine lv_aload_n hx hb dX4_offerRuledSteps_104 rfl (lv_at hl 5 rfl) ?_
            refine lv_aload_n hx hb dX4_offerRuledSteps_105 rfl (lv_at hl 6 rfl) ?_
            refine lv_aload_n hx hb dX4_offerRuledSteps_106 rfl (lv_at hl 4 rfl) ?_
            refine lv_iload hx hb dX4_offerRuledSteps_107 (lv_at hl 1 rfl) ?_
            refine lv_iload hx hb dX4_offerRuledSteps_109 (lv_at hl 0 rfl) ?_
            refine va_callv (va_runV (As := [.ref pa, .ref b_3, .int (kz k), .int (kz z_23)]) (rest := []) ⟨hx, hb, hml, hown, hts⟩ (c_offerStepsBehind l dC dI ca A X hU H a0 pa b_3 k z_23 id Q (pG X tf place_pa (lst ff size_cc) (cutv X (lst fr size_cc))) pp_a0 countedUncut_a0 counted_a0 left_a0 told_a0 toldCount_a0 grown_a0 keys_a0 kc_n_11 tongue_a0 lattice_a0 chain_pa cost_pa spent_pa place_pa ended_pa rank_pa forms_tg rules_tg formCount_tg ruleCount_tg forbidden_tg kf_n_11 tf g_a0 g_pa g_b_3 (by omega) g_told_a0 (by omega) g_grown_a0 g_keys_a0 (by omega) g_tongue_a0 g_lattice_a0 (by omega) (by omega) g_chain_pa (by omega) (by omega) (by omega) (by omega) (by omega) g_forms_tg g_rules_tg (by omega) (by omega) g_forbidden_tg (by omega) (by omega) (by omega) (by omega) (by omega) (by omega) n_11f2 hQ (fun i9 hi9 h9 => pG_rule (by omega) (by omega) (fun b9 hb9 => by rw [← hw_1x] at hb9; cases hb9; have h8 := hCO _ hw_1x.symm; have h7 := x_20_5; omega) h9)) (cwV 4 hts gX4_offerRuledSteps_X4_offerStepsBehind rfl rfl rfl (by decide +kernel) ⟨Nat.le_of_ble_eq_true rfl, Nat.le_of_ble_eq_true rfl⟩) ⟨fun a U g mk q => by obtain ⟨q0, qH, ⟨qK, qN⟩, qI⟩ := q; exact ⟨q0, qH, ⟨va_K.moved (u := U) (U := U.calling g mk a) (Vm.Alike.refl U.vm) qK, jN_same (U := U.calling g mk a) rfl qN⟩, qI⟩, va_recv hK (at_P co_a0) (ci := 4) (q0 := 0) rfl rfl, fun U hU hW => ⟨rfl, hU, jK_warm hW ⟨hK, hN⟩, by rw [hU]; exact ⟨hI, co_a0, co_pa, co_tg, c_kf_n_11, c_tf⟩⟩⟩ rfl rfl hl.1 rfl (lv_room (Nat.le_of_ble_eq_true rfl)) dX4_offerRuledSteps_111 ⟨Nat.le_of_ble_eq_true rfl, Nat.le_of_ble_eq_true rfl⟩) hS (fun q _ h => h) (fun q h => h) (fun u t9 H locs ht hvm hw_25 hB hz1 hk1 hS => ?_)
            obtain ⟨-, hI, hf9, hcp, hck⟩ := hB
            rw [ht] at hI hf9 hcp hck
            clear ht hvm hz1
            have co_pa := fm_at hf9 g_pa (show (5 : Nat) ∉ ([4, 228] : List Nat) by decide) co_pa
            have co_cc := fm_at hf9 g_chain_pa (show (0 : Nat) ∉ ([4, 228] : List Nat) by decide) co_cc
            have co_tg := fm_at hf9 g_tongue_a0 (show (9 : Nat) ∉ ([4, 228] : List Nat) by decide) co_tg
            have co_13 := fm_at hf9 g_b_3 (show (2 : Nat) ∉ ([4, 228] : List Nat) by decide) co_13
            have co_19 := fm_at hf9 g_lattice_a0 (show (3 : Nat) ∉ ([4, 228] : List Nat) by decide) co_19
            have co_20 := fm_at hf9 g_b_18 (show (7 : Nat) ∉ ([4, 228] : List Nat) by decide) co_20
            have c_ff := fm_at hf9 g_forms_cc (show (210 : Nat) ∉ ([4, 228] : List Nat) by decide) c_ff
            have c_fr := fm_at hf9 g_rules_cc (show (211 : Nat) ∉ ([4, 228] : List Nat) by decide) c_fr
            have c_tf := fm_at hf9 g_forms_tg (show (212 : Nat) ∉ ([4, 228] : List Nat) by decide) c_tf
            have c_f_16 := fm_at hf9 g_letters_13 (show (201 : Nat) ∉ ([4, 228] : List Nat) by decide) c_f_16
            have c_f_17 := fm_at hf9 g_rules_tg (show (213 : Nat) ∉ ([4, 228] : List Nat) by decide) c_f_17
            have hF := fm_tr hF hf9 (by decide)
            clear hk1 hf9
            obtain ⟨kf_27, kc_28⟩ := u
            have co_a0 : va_at (dC, dI) vwCl (a0, .inr (4, [.long countedUncut_a0, .long counted_a0, .int (kz left_a0), .ref told_a0, .int (kz toldCount_a0), .ref grown_a0, .ref keys_a0, .int (kz kc_28), .ref tongue_a0, .ref lattice_a0])) H := hcp
            have c_kf_27 : va_at (dC, dI) vwCl (keys_a0, .inl (ca 20, 8, .inl kf_27)) H := hck
            clear hcp hck
            have k_kf_27 := ok20_full (X := jk X) (a := keys_a0) (n := 8) kf_27
            have hw_25 : KS kf_27 kc_28 (PS Q (pG X tf place_pa (lst ff size_cc) (cutv X (lst fr size_cc))) rank_pa ((3 + k) * 64)) ∧ 0 ≤ kc_28 ∧ kc_28 ≤ 8 := hw_25
            obtain ⟨hw_25, hw_25a, hw_25b⟩ := hw_25
            refine lv_iinc (v := kz (k + 1)) (lv' := [(5, .int (kz (k + 1))), (6, .int (kz z_23)), (4, .int (kz z_10)), (3, .int (kz z_6)), (2, .ref b_3), (0, .ref a0), (1, .ref pa)]) hx hb dX4_offerRuledSteps_114 hl (k := 1) rfl (kz_add k 1) (by decide) rfl (fun ls hl => ?_)
            refine lv_goto (tgt := 39) hx hb dX4_offerRuledSteps_117 (by decide) ?_
            exact ihn_11 (n_11 - 1) (by omega) (kf_27, kc_28) (k + 1) _ _ _ ⟨by omega, by omega, KS_mono hw_25 (fun m h => PS_mono h (by omega)), by omega, by omega, by omega, lv_sub hl [0, 2, 3, 4, 5, 6] rfl, hI, hS, hF, co_a0, co_pa, co_cc, co_tg, c_kf_27, c_ff, c_fr, c_tf⟩
        · refine lv_istore (lv' := [(6, .int (kz (-1))), (5, .int (kz k)), (4, .int (kz z_10)), (3, .int (kz z_6)), (2, .ref b_3), (0, .ref a0), (1, .ref pa)]) hx hb dX4_offerRuledSteps_96 hl (by decide) rfl (fun ls hl => ?_)
          refine lv_iload hx hb dX4_offerRuledSteps_98 (lv_at hl 0 rfl) ?_
          refine lv_iconst (v := kz (-1)) hx hb dX4_offerRuledSteps_100 rfl ?_
          refine iz_eq (tgt := 114) hx hb dX4_offerRuledSteps_101 (by decide) (by unfold rg2; omega) (fun _ => ?_) (fun q9 => absurd q9 (by decide))
          refine lv_iinc (v := kz (k + 1)) (lv' := [(5, .int (kz (k + 1))), (6, .int (kz (-1))), (4, .int (kz z_10)), (3, .int (kz z_6)), (2, .ref b_3), (0, .ref a0), (1, .ref pa)]) hx hb dX4_offerRuledSteps_114 hl (k := 1) rfl (kz_add k 1) (by decide) rfl (fun ls hl => ?_)
          refine lv_goto (tgt := 39) hx hb dX4_offerRuledSteps_117 (by decide) ?_
          exact ihn_11 (n_11 - 1) (by omega) (kf_n_11, kc_n_11) (k + 1) _ _ _ ⟨by omega, by omega, KS_mono n_11f2 (fun m h => PS_mono h (by omega)), by omega, by omega, by omega, lv_sub hl [0, 2, 3, 4, 5, 6] rfl, hI, hS, hF, co_a0, co_pa, co_cc, co_tg, c_kf_n_11, c_ff, c_fr, c_tf⟩
      · refine iz_nez (tgt := 66) hx hb dX4_offerRuledSteps_60 (by decide) (by unfold rg2; omega) (fun q9 => absurd q9 (by decide)) (fun _ => ?_)
        refine lv_goto (tgt := 114) hx hb dX4_offerRuledSteps_63 (by decide) ?_
        refine lv_iinc (v := kz (k + 1)) (lv' := [(5, .int (kz (k + 1))), (4, .int (kz z_10)), (3, .int (kz z_6)), (2, .ref b_3), (0, .ref a0), (1, .ref pa)]) hx hb dX4_offerRuledSteps_114 hl (k := 0) rfl (kz_add k 1) (by decide) rfl (fun ls hl => ?_)
        refine lv_goto (tgt := 39) hx hb dX4_offerRuledSteps_117 (by decide) ?_
        exact ihn_11 (n_11 - 1) (by omega) (kf_n_11, kc_n_11) (k + 1) _ _ _ ⟨by omega, by omega, KS_mono n_11f2 (fun m h => PS_mono h (by omega)), by omega, by omega, by omega, lv_sub hl [0, 1, 2, 3, 4, 5] rfl, hI, hS, hF, co_a0, co_pa, co_cc, co_tg, c_kf_n_11, c_ff, c_fr, c_tf⟩
