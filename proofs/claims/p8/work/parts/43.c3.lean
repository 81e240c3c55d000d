set_option maxHeartbeats 4000000 in
set_option maxRecDepth 100000 in
/-- X3_addToState -/
theorem c_addToState (l : Launch) (dC : Nat → ClassId) (dI : Nat → Nat → Nat) (ca : Nat → ClassId) (A : Nat → Prop) (X : jG) (hU : jU X) (Hp : Heap) (a0 : Nat) (pl1 : Int) (fm : Nat) (ct : Int) (mo : Int64) (cs : Int) (g_a0 : X.1 a0 = (3, 30, 0, 0, 0)) (g_fm : X.1 fm = (2, 30, 0, 0, 0)) (pl1i : 0 ≤ pl1 ∧ pl1 ≤ 39) (cti : 0 ≤ ct ∧ ct ≤ 3) : Met l yX3_addToState wsX3_addToState ({ frames := 2, cells := 0, slots := 0, locals := 36 }) (va_Pc [.ref a0, .int (kz pl1), .ref fm, .int (kz ct), .long mo, .int (kz cs)] (fun U => U.heap = Hp ∧ jK (dC, dI) ca U ∧ jv (dC, dI) ca A X U.heap)) (va_Qv (fun (u : Unit) => True) (fun u U => jK (dC, dI) ca U ∧ jv (dC, dI) ca A X U.heap ∧ kfm X [220, 232] Hp U.heap) A) 0 0 A := by
  refine Met.ofW (cc := cX3_addToState) (maxL := 8) (ret := none) (by decide) rfl ?_
  intro p e s m args below meth c s₁ B hml hv
  obtain ⟨rfl, hHp, ⟨hK, hN⟩, hI⟩ := hv
  have hx := B.exec
  have hb := B.bytes
  have hr := B.returns
  have hts := atoms_spec (ws := wsX3_addToState) B.pre
  have hown : s.vm.findClass RX3 = some m.cls := findClass_of_methodNamed B.named
  have hL96 := hts (.fieldLink RX3 96 "JoinBench$Form" "number" "I") (by decide +kernel)
  have hL24 := hts (.fieldLink RX3 24 "JoinBench$Lattice" "ways" "[J") (by decide +kernel)
  have hL11 := hts (.fieldLink RX3 11 "JoinBench$Lattice" "cheapest" "[[I") (by decide +kernel)
  have hL145 := hts (.fieldLink RX3 145 "JoinBench$Form" "cost" "I") (by decide +kernel)
  have hinX2 : ∀ w ∈ u_ws RX2 TX2 8, w ∈ wsX3_addToState := by decide +kernel
  have hinX3 : ∀ w ∈ u_ws RX3 TX3 11, w ∈ wsX3_addToState := by decide +kernel
  obtain ⟨H, hH⟩ : ∃ H : Heap, H = s.heap := ⟨_, rfl⟩
  have hS : va_S A s.heap H [] := by rw [hH]; exact va_S.rf
  have hF : kfm X [220, 232] Hp H := by rw [hH, hHp]; exact fm_rf _ _ _
  rw [← hH] at hI ⊢
  clear hH
  have hl := lv_entry ([.ref a0, .int (kz pl1), .ref fm, .int (kz ct), .long mo, .int (kz cs)]) (n := 8) (Nat.le_of_ble_eq_true rfl)
  rw [lg_entry_eq]
  generalize (lg_sl ([.ref a0, .int (kz pl1), .ref fm, .int (kz ct), .long mo, .int (kz cs)]) ++ List.replicate (8 - (lg_sl ([.ref a0, .int (kz pl1), .ref fm, .int (kz ct), .long mo, .int (kz cs)])).length) Slot.unset).toArray = ls at hl ⊢
  have hl : lv_has ls 8 [(0, .ref a0), (1, .int (kz pl1)), (2, .ref fm), (3, .int (kz ct)), (4, .long mo), (6, .int (kz cs))] := hl
  refine lv_aload_n hx hb dX3_addToState_0 rfl (lv_at hl 2 rfl) ?_
  obtain ⟨fs9, co_1, jo9⟩ := jv_o2 hI g_fm
  obtain ⟨ln_1, letters_1, kind_1, stem_1, kept_1, cost_1, number_1, ends_1, begins_1, rfl, g_letters_1, ⟨kind_1a, kind_1b⟩, ⟨stem_1a, stem_1b⟩, ⟨kept_1a, kept_1b⟩, ⟨cost_1a, cost_1b⟩, ⟨number_1a, number_1b⟩, ⟨ends_1a, ends_1b⟩, ⟨begins_1a, begins_1b⟩, x_1_0, x_1_1, x_1_2, x_1_3⟩ := jo9
  refine iz_get (D := (dC, dI)) (ci := 2) (v := .int (kz number_1)) (C := RX2) (T := TX2) (N := 8) hx hb hts hinX2 hown hK co_1 rfl 5 (by decide) hL96 (fun _ h9 => h9) rfl dX3_addToState_1 ?_
  refine lv_iconst (v := kz 4) hx hb dX3_addToState_4 rfl ?_
  refine iz_imul hx hb dX3_addToState_5 ?_
  refine lv_iload_n hx hb dX3_addToState_6 rfl (lv_at hl 3 rfl) ?_
  refine iz_iadd hx hb dX3_addToState_7 ?_
  refine lv_istore (lv' := [(7, .int (kz ((number_1 * 4) + ct))), (0, .ref a0), (1, .int (kz pl1)), (2, .ref fm), (3, .int (kz ct)), (4, .long mo), (6, .int (kz cs))]) hx hb dX3_addToState_8 hl (by decide) rfl (fun ls hl => ?_)
  refine lv_aload_n hx hb dX3_addToState_10 rfl (lv_at hl 1 rfl) ?_
  obtain ⟨fs9, co_2, jo9⟩ := jv_o3 hI g_a0
  obtain ⟨cheapest_2, size_2, tongue_2, line_2, ways_2, plainWays_2, plainCheapest_2, ruledWays_2, ruledCheapest_2, inForce_2, barred_2, rfl, g_cheapest_2, ⟨size_2a, size_2b⟩, g_tongue_2, g_line_2, g_ways_2, g_plainWays_2, g_plainCheapest_2, g_ruledWays_2, g_ruledCheapest_2, ⟨inForce_2a, inForce_2b⟩, g_barred_2⟩ := jo9
  refine iz_get (D := (dC, dI)) (ci := 3) (v := .ref ways_2) (C := RX3) (T := TX3) (N := 11) hx hb hts hinX3 hown hK co_2 rfl 4 (by decide) hL24 (fun _ h9 => h9) rfl dX3_addToState_11 ?_
  refine lv_iload hx hb dX3_addToState_14 (lv_at hl 0 rfl) ?_
  refine lv_aload_n hx hb dX3_addToState_16 rfl (lv_at hl 1 rfl) ?_
  refine iz_get (D := (dC, dI)) (ci := 3) (v := .ref ways_2) (C := RX3) (T := TX3) (N := 11) hx hb hts hinX3 hown hK co_2 rfl 4 (by decide) hL24 (fun _ h9 => h9) rfl dX3_addToState_17 ?_
  refine lv_iload hx hb dX3_addToState_20 (lv_at hl 0 rfl) ?_
  obtain ⟨f_3, c_f_3⟩ := iv_o23 (jv_iv hI) g_ways_2
  refine iz_lald hx hb hK 3 c_f_3 rfl (by omega) (by decide) dX3_addToState_22 ?_
  refine lv_topl (fun y_4 ey_4 => ?_)
  refine lv_lload hx hb dX3_addToState_23 (lv_at hl 5 rfl) ?_
  refine lv_ladd hx hb dX3_addToState_25 ?_
  refine lv_topl (fun y_5 ey_5 => ?_)
  refine vp_callSl (va_Run.run (va_runSN (As := [.long y_5]) (rest := [.int (kz ((number_1 * 4) + ct)), .ref ways_2]) ⟨hx, hb, hml, hown, hts⟩ (c_capped l y_5) ⟨va_cnB 1 hts gX3_addToState_X11_capped_n92 rfl rfl rfl (jN_X3_92 hN) (hts (.initialized RX11) (by decide +kernel)) (by decide +kernel) ⟨Nat.le_of_ble_eq_true rfl, Nat.le_of_ble_eq_true rfl⟩, hts (.static yX11_capped) (by decide +kernel), trivial⟩ ⟨fun a U g mk q => q, fun U hU hW => ⟨rfl, trivial⟩⟩ rfl rfl hl.1 rfl (lv_room (Nat.le_of_ble_eq_true rfl)) dX3_addToState_26 ⟨Nat.le_of_ble_eq_true rfl, Nat.le_of_ble_eq_true rfl⟩)) (fun r_7 hw_6 => ?_)
  refine iz_last hx hb hK 3 c_f_3 hS (jv_A hI g_ways_2 (show (23 : Nat) ≠ 0 by decide)) rfl (by omega) (by decide) dX3_addToState_29 (fun H locs c9 oq hS => ?_)
  have hI := jv_s23 hI g_ways_2 c9 oq
  have hF := fm_put hF g_ways_2 (show (220 : Nat) ∈ [220, 232] by decide) oq
  have co_1 := co_1.kept (oq _ (kn_ne g_fm g_ways_2 (show (2 : Nat) ≠ 220 by decide)))
  have co_2 := co_2.kept (oq _ (kn_ne g_a0 g_ways_2 (show (3 : Nat) ≠ 220 by decide)))
  clear oq c9
  refine lv_aload_n hx hb dX3_addToState_30 rfl (lv_at hl 1 rfl) ?_
  refine iz_get (D := (dC, dI)) (ci := 3) (v := .ref cheapest_2) (C := RX3) (T := TX3) (N := 11) hx hb hts hinX3 hown hK co_2 rfl 0 (by decide) hL11 (fun _ h9 => h9) rfl dX3_addToState_31 ?_
  refine lv_iload_n hx hb dX3_addToState_34 rfl (lv_at hl 2 rfl) ?_
  obtain ⟨f_8, c_f_8, k_f_8⟩ := jv_q27 hI g_cheapest_2
  refine jz_aald hx hb hK 7 c_f_8 rfl rfl (by omega) (by decide) dX3_addToState_35 ?_
  obtain ⟨b_9, eb_9, g_b_9⟩ := k_f_8 (Int.toNat pl1) (by omega)
  rw [eb_9]
  have g_b_9 : X.1 b_9 = (232, 20, 160, -2147483648, 2147483647) := g_b_9
  refine W.eq (g2 := F0 m 36 ls [.ref b_9]) rfl ?_
  refine lv_iload hx hb dX3_addToState_36 (lv_at hl 0 rfl) ?_
  refine lv_aload_n hx hb dX3_addToState_38 rfl (lv_at hl 1 rfl) ?_
  refine iz_get (D := (dC, dI)) (ci := 3) (v := .ref cheapest_2) (C := RX3) (T := TX3) (N := 11) hx hb hts hinX3 hown hK co_2 rfl 0 (by decide) hL11 (fun _ h9 => h9) rfl dX3_addToState_39 ?_
  refine lv_iload_n hx hb dX3_addToState_42 rfl (lv_at hl 2 rfl) ?_
  refine jz_aald hx hb hK 7 c_f_8 rfl rfl (by omega) (by decide) dX3_addToState_43 ?_
  rw [eb_9]
  refine W.eq (g2 := F0 m 44 ls [.ref b_9, .int (kz ((number_1 * 4) + ct)), .ref b_9]) rfl ?_
  refine lv_iload hx hb dX3_addToState_44 (lv_at hl 0 rfl) ?_
  obtain ⟨f_11, c_f_11, k_f_11⟩ := iv_o20 (jv_iv hI) g_b_9
  refine iz_iald hx hb hK 0 c_f_11 rfl (by omega) (by decide) dX3_addToState_46 ?_
  obtain ⟨v_12a, v_12b, -⟩ := k_f_11 ((number_1 * 4) + ct) (by omega)
  obtain ⟨v_12, ev_12⟩ : ∃ z9 : Int, ge1 f_11 ((number_1 * 4) + ct) = z9 := ⟨_, rfl⟩
  rw [ev_12] at v_12a v_12b ⊢
  refine lv_iload hx hb dX3_addToState_47 (lv_at hl 6 rfl) ?_
  refine lv_aload_n hx hb dX3_addToState_49 rfl (lv_at hl 3 rfl) ?_
  refine iz_get (D := (dC, dI)) (ci := 2) (v := .int (kz cost_1)) (C := RX2) (T := TX2) (N := 8) hx hb hts hinX2 hown hK co_1 rfl 4 (by decide) hL145 (fun _ h9 => h9) rfl dX3_addToState_50 ?_
  refine iz_iadd hx hb dX3_addToState_53 ?_
  refine va_mmin hx hb (by rw [hml]; exact hl.1.symm) hown (hts (.methodLink RX3 53 Lib.Math.min.name) (by decide +kernel)) (hts (.static Lib.Math.min.name) (by decide +kernel)) (hts (.initialized "java/lang/Math") (by decide +kernel)) (hts (.code Lib.Math.min.name Lib.Math.min.code 2 (some .int)) (by decide +kernel)) (Nat.le_of_ble_eq_true rfl) (Nat.le_of_ble_eq_true rfl) (Nat.zero_le _) (Nat.zero_le _) dX3_addToState_54 ?_
  refine iz_any (fun z_13 z_13a z_13b z_13e => ?_)
  refine iz_any (fun z_14 z_14a z_14b z_14e => ?_)
  refine iz_iast hx hb hK 0 c_f_11 hS (jv_A hI g_b_9 (show (20 : Nat) ≠ 0 by decide)) rfl (by omega) (by decide) dX3_addToState_57 (fun H locs c9 oq hS => ?_)
  have hI := jv_s20 hI g_b_9 k_f_11 c9 oq (by omega) (by omega) (by decide)
  have hF := fm_put hF g_b_9 (show (232 : Nat) ∈ [220, 232] by decide) oq
  have c_f_8 := c_f_8.kept (oq _ (kn_ne g_cheapest_2 g_b_9 (show (219 : Nat) ≠ 232 by decide)))
  have co_1 := co_1.kept (oq _ (kn_ne g_fm g_b_9 (show (2 : Nat) ≠ 232 by decide)))
  have co_2 := co_2.kept (oq _ (kn_ne g_a0 g_b_9 (show (3 : Nat) ≠ 232 by decide)))
  clear oq c9
  exact W.vret hx hb hr (fun t9 ht hW => ⟨⟨(), rfl, trivial, jK_warm hW ⟨hK, hN⟩, by rw [ht]; exact ⟨hI, hF⟩⟩, hS.F ht⟩) hS.2.2 dX3_addToState_58
set_option maxHeartbeats 4000000 in
set_option maxRecDepth 100000 in
/-- X3_addPlainEnd -/
theorem c_addPlainEnd (l : Launch) (dC : Nat → ClassId) (dI : Nat → Nat → Nat) (ca : Nat → ClassId) (A : Nat → Prop) (X : jG) (hU : jU X) (Hp : Heap) (a0 : Nat) (pl1 : Int) (fm : Nat) (ct : Int) (sh : Int) (g_a0 : X.1 a0 = (3, 30, 0, 0, 0)) (g_fm : X.1 fm = (2, 30, 0, 0, 0)) (pl1i : 0 ≤ pl1 ∧ pl1 ≤ 39) (cti : 0 ≤ ct ∧ ct ≤ 3) (shi : 0 ≤ sh ∧ sh ≤ 8) : Met l yX3_addPlainEnd wsX3_addPlainEnd ({ frames := 3, cells := 0, slots := 0, locals := 63 }) (va_Pc [.ref a0, .int (kz pl1), .ref fm, .int (kz ct), .int (kz sh)] (fun U => U.heap = Hp ∧ jK (dC, dI) ca U ∧ jv (dC, dI) ca A X U.heap)) (va_Qv (fun (u : Unit) => True) (fun u U => jK (dC, dI) ca U ∧ jv (dC, dI) ca A X U.heap ∧ kfm X [220, 232] Hp U.heap) A) 0 0 A := by
  refine Met.ofW (cc := cX3_addPlainEnd) (maxL := 6) (ret := none) (by decide) rfl ?_
  intro p e s m args below meth c s₁ B hml hv
  obtain ⟨rfl, hHp, ⟨hK, hN⟩, hI⟩ := hv
  have hx := B.exec
  have hb := B.bytes
  have hr := B.returns
  have hts := atoms_spec (ws := wsX3_addPlainEnd) B.pre
  have hown : s.vm.findClass RX3 = some m.cls := findClass_of_methodNamed B.named
  have hL112 := hts (.fieldLink RX3 112 "JoinBench$Form" "letters" "[B") (by decide +kernel)
  have hL16 := hts (.fieldLink RX3 16 "JoinBench$Lattice" "size" "I") (by decide +kernel)
  have hL30 := hts (.fieldLink RX3 30 "JoinBench$Lattice" "plainWays" "[[J") (by decide +kernel)
  have hL96 := hts (.fieldLink RX3 96 "JoinBench$Form" "number" "I") (by decide +kernel)
  have hL33 := hts (.fieldLink RX3 33 "JoinBench$Lattice" "plainCheapest" "[[I") (by decide +kernel)
  have hinX2 : ∀ w ∈ u_ws RX2 TX2 8, w ∈ wsX3_addPlainEnd := by decide +kernel
  have hinX3 : ∀ w ∈ u_ws RX3 TX3 11, w ∈ wsX3_addPlainEnd := by decide +kernel
  obtain ⟨H, hH⟩ : ∃ H : Heap, H = s.heap := ⟨_, rfl⟩
  have hS : va_S A s.heap H [] := by rw [hH]; exact va_S.rf
  have hF : kfm X [220, 232] Hp H := by rw [hH, hHp]; exact fm_rf _ _ _
  rw [← hH] at hI ⊢
  clear hH
  have hl := lv_entry ([.ref a0, .int (kz pl1), .ref fm, .int (kz ct), .int (kz sh)]) (n := 6) (Nat.le_of_ble_eq_true rfl)
  rw [lg_entry_eq]
  generalize (lg_sl ([.ref a0, .int (kz pl1), .ref fm, .int (kz ct), .int (kz sh)]) ++ List.replicate (6 - (lg_sl ([.ref a0, .int (kz pl1), .ref fm, .int (kz ct), .int (kz sh)])).length) Slot.unset).toArray = ls at hl ⊢
  have hl : lv_has ls 6 [(0, .ref a0), (1, .int (kz pl1)), (2, .ref fm), (3, .int (kz ct)), (4, .int (kz sh))] := hl
  refine lv_iload_n hx hb dX3_addPlainEnd_0 rfl (lv_at hl 1 rfl) ?_
  refine lv_iload hx hb dX3_addPlainEnd_1 (lv_at hl 4 rfl) ?_
  refine iz_iadd hx hb dX3_addPlainEnd_3 ?_
  refine lv_istore (lv' := [(5, .int (kz (pl1 + sh))), (0, .ref a0), (1, .int (kz pl1)), (2, .ref fm), (3, .int (kz ct)), (4, .int (kz sh))]) hx hb dX3_addPlainEnd_4 hl (by decide) rfl (fun ls hl => ?_)
  refine lv_iload hx hb dX3_addPlainEnd_6 (lv_at hl 5 rfl) ?_
  refine lv_aload_n hx hb dX3_addPlainEnd_8 rfl (lv_at hl 3 rfl) ?_
  obtain ⟨fs9, co_1, jo9⟩ := jv_o2 hI g_fm
  obtain ⟨ln_1, letters_1, kind_1, stem_1, kept_1, cost_1, number_1, ends_1, begins_1, rfl, g_letters_1, ⟨kind_1a, kind_1b⟩, ⟨stem_1a, stem_1b⟩, ⟨kept_1a, kept_1b⟩, ⟨cost_1a, cost_1b⟩, ⟨number_1a, number_1b⟩, ⟨ends_1a, ends_1b⟩, ⟨begins_1a, begins_1b⟩, x_1_0, x_1_1, x_1_2, x_1_3⟩ := jo9
  refine iz_get (D := (dC, dI)) (ci := 2) (v := .ref letters_1) (C := RX2) (T := TX2) (N := 8) hx hb hts hinX2 hown hK co_1 rfl 0 (by decide) hL112 (fun _ h9 => h9) rfl dX3_addPlainEnd_9 ?_
  obtain ⟨f_2, c_f_2⟩ := iv_o21 (jv_iv hI) g_letters_1
  refine va_alen hx hb hK (at_P c_f_2) 0 1 rfl rfl (v := kz (ln_1 : Int)) rfl dX3_addPlainEnd_12 ?_
  refine lv_iload_n hx hb dX3_addPlainEnd_13 rfl (lv_at hl 4 rfl) ?_
  refine iz_isub hx hb dX3_addPlainEnd_14 ?_
  refine iz_ge (tgt := 19) hx hb dX3_addPlainEnd_15 (by decide) (by unfold rg2; omega) (fun br_3 => ?_) (fun br_3 => ?_)
  · refine lv_iload hx hb dX3_addPlainEnd_19 (lv_at hl 0 rfl) ?_
    refine lv_aload_n hx hb dX3_addPlainEnd_21 rfl (lv_at hl 1 rfl) ?_
    obtain ⟨fs9, co_4, jo9⟩ := jv_o3 hI g_a0
    obtain ⟨cheapest_4, size_4, tongue_4, line_4, ways_4, plainWays_4, plainCheapest_4, ruledWays_4, ruledCheapest_4, inForce_4, barred_4, rfl, g_cheapest_4, ⟨size_4a, size_4b⟩, g_tongue_4, g_line_4, g_ways_4, g_plainWays_4, g_plainCheapest_4, g_ruledWays_4, g_ruledCheapest_4, ⟨inForce_4a, inForce_4b⟩, g_barred_4⟩ := jo9
    refine iz_get (D := (dC, dI)) (ci := 3) (v := .int (kz size_4)) (C := RX3) (T := TX3) (N := 11) hx hb hts hinX3 hown hK co_4 rfl 1 (by decide) hL16 (fun _ h9 => h9) rfl dX3_addPlainEnd_22 ?_
    refine iz_lt (tgt := 40) hx hb dX3_addPlainEnd_25 (by decide) (by unfold rg2; omega) (fun br_5 => ?_) (fun br_5 => ?_)
    · refine lv_aload_n hx hb dX3_addPlainEnd_40 rfl (lv_at hl 1 rfl) ?_
      refine lv_iload_n hx hb dX3_addPlainEnd_41 rfl (lv_at hl 2 rfl) ?_
      refine lv_aload_n hx hb dX3_addPlainEnd_42 rfl (lv_at hl 3 rfl) ?_
      refine lv_iload_n hx hb dX3_addPlainEnd_43 rfl (lv_at hl 4 rfl) ?_
      refine lv_aload_n hx hb dX3_addPlainEnd_44 rfl (lv_at hl 1 rfl) ?_
      refine iz_get (D := (dC, dI)) (ci := 3) (v := .ref plainWays_4) (C := RX3) (T := TX3) (N := 11) hx hb hts hinX3 hown hK co_4 rfl 5 (by decide) hL30 (fun _ h9 => h9) rfl dX3_addPlainEnd_45 ?_
      refine lv_iload hx hb dX3_addPlainEnd_48 (lv_at hl 0 rfl) ?_
      obtain ⟨f_6, c_f_6, k_f_6⟩ := jv_q28 hI g_plainWays_4
      refine jz_aald hx hb hK 8 c_f_6 rfl rfl (by omega) (by decide) dX3_addPlainEnd_50 ?_
      obtain ⟨b_7, eb_7, g_b_7⟩ := k_f_6 (Int.toNat (pl1 + sh)) (by omega)
      rw [eb_7]
      have g_b_7 : X.1 b_7 = (233, 23, 40, 0, 0) := g_b_7
      refine W.eq (g2 := F0 m 51 ls [.ref b_7, .int (kz ct), .ref fm, .int (kz pl1), .ref a0]) rfl ?_
      refine lv_aload_n hx hb dX3_addPlainEnd_51 rfl (lv_at hl 3 rfl) ?_
      refine iz_get (D := (dC, dI)) (ci := 2) (v := .int (kz number_1)) (C := RX2) (T := TX2) (N := 8) hx hb hts hinX2 hown hK co_1 rfl 5 (by decide) hL96 (fun _ h9 => h9) rfl dX3_addPlainEnd_52 ?_
      obtain ⟨f_8, c_f_8⟩ := iv_o23 (jv_iv hI) g_b_7
      refine iz_lald hx hb hK 3 c_f_8 rfl (by omega) (by decide) dX3_addPlainEnd_55 ?_
      refine lv_topl (fun y_9 ey_9 => ?_)
      refine lv_aload_n hx hb dX3_addPlainEnd_56 rfl (lv_at hl 1 rfl) ?_
      refine iz_get (D := (dC, dI)) (ci := 3) (v := .ref plainCheapest_4) (C := RX3) (T := TX3) (N := 11) hx hb hts hinX3 hown hK co_4 rfl 6 (by decide) hL33 (fun _ h9 => h9) rfl dX3_addPlainEnd_57 ?_
      refine lv_iload hx hb dX3_addPlainEnd_60 (lv_at hl 0 rfl) ?_
      obtain ⟨f_10, c_f_10, k_f_10⟩ := jv_q27 hI g_plainCheapest_4
      refine jz_aald hx hb hK 7 c_f_10 rfl rfl (by omega) (by decide) dX3_addPlainEnd_62 ?_
      obtain ⟨b_11, eb_11, g_b_11⟩ := k_f_10 (Int.toNat (pl1 + sh)) (by omega)
      rw [eb_11]
      have g_b_11 : X.1 b_11 = (234, 20, 40, -2147483648, 2147483647) := g_b_11
      refine W.eq (g2 := F0 m 63 ls [.ref b_11, .long y_9, .int (kz ct), .ref fm, .int (kz pl1), .ref a0]) rfl ?_
      refine lv_aload_n hx hb dX3_addPlainEnd_63 rfl (lv_at hl 3 rfl) ?_
      refine iz_get (D := (dC, dI)) (ci := 2) (v := .int (kz number_1)) (C := RX2) (T := TX2) (N := 8) hx hb hts hinX2 hown hK co_1 rfl 5 (by decide) hL96 (fun _ h9 => h9) rfl dX3_addPlainEnd_64 ?_
      obtain ⟨f_12, c_f_12, k_f_12⟩ := iv_o20 (jv_iv hI) g_b_11
      refine iz_iald hx hb hK 0 c_f_12 rfl (by omega) (by decide) dX3_addPlainEnd_67 ?_
      obtain ⟨v_13a, v_13b, -⟩ := k_f_12 number_1 (by omega)
      obtain ⟨v_13, ev_13⟩ : ∃ z9 : Int, ge1 f_12 number_1 = z9 := ⟨_, rfl⟩
      rw [ev_13] at v_13a v_13b ⊢
      refine va_callv (va_runV (As := [.int (kz pl1), .ref fm, .int (kz ct), .long y_9, .int (kz v_13)]) (rest := []) ⟨hx, hb, hml, hown, hts⟩ (c_addToState l dC dI ca A X hU H a0 pl1 fm ct y_9 v_13 g_a0 g_fm (by omega) (by omega)) (cwV 5 hts gX3_addPlainEnd_X3_addToState rfl rfl rfl (by decide +kernel) ⟨Nat.le_of_ble_eq_true rfl, Nat.le_of_ble_eq_true rfl⟩) ⟨fun a U g mk q => by obtain ⟨q0, qH, ⟨qK, qN⟩, qI⟩ := q; exact ⟨q0, qH, ⟨va_K.moved (u := U) (U := U.calling g mk a) (Vm.Alike.refl U.vm) qK, jN_same (U := U.calling g mk a) rfl qN⟩, qI⟩, va_recv hK (at_P co_4) (ci := 3) (q0 := 0) rfl rfl, fun U hU hW => ⟨rfl, hU, jK_warm hW ⟨hK, hN⟩, by rw [hU]; exact hI⟩⟩ rfl rfl hl.1 rfl (lv_room (Nat.le_of_ble_eq_true rfl)) dX3_addPlainEnd_68 ⟨Nat.le_of_ble_eq_true rfl, Nat.le_of_ble_eq_true rfl⟩) hS (fun q _ h => h) (fun q h => h) (fun u t9 H locs ht hvm hw_14 hB hz1 hk1 hS => ?_)
      obtain ⟨-, hI, hf9⟩ := hB
      rw [ht] at hI hf9
      clear ht hvm hz1
      have co_1 := fm_at hf9 g_fm (show (2 : Nat) ∉ ([220, 232] : List Nat) by decide) co_1
      have co_4 := fm_at hf9 g_a0 (show (3 : Nat) ∉ ([220, 232] : List Nat) by decide) co_4
      have c_f_2 := fm_at hf9 g_letters_1 (show (201 : Nat) ∉ ([220, 232] : List Nat) by decide) c_f_2
      have c_f_6 := fm_at hf9 g_plainWays_4 (show (221 : Nat) ∉ ([220, 232] : List Nat) by decide) c_f_6
      have c_f_8 := fm_at hf9 g_b_7 (show (233 : Nat) ∉ ([220, 232] : List Nat) by decide) c_f_8
      have c_f_10 := fm_at hf9 g_plainCheapest_4 (show (222 : Nat) ∉ ([220, 232] : List Nat) by decide) c_f_10
      have c_f_12 := fm_at hf9 g_b_11 (show (234 : Nat) ∉ ([220, 232] : List Nat) by decide) c_f_12
      have hF := fm_tr hF hf9 (by decide)
      clear hk1 hf9
      exact W.vret hx hb hr (fun t9 ht hW => ⟨⟨(), rfl, trivial, jK_warm hW ⟨hK, hN⟩, by rw [ht]; exact ⟨hI, hF⟩⟩, hS.F ht⟩) hS.2.2 dX3_addPlainEnd_71
    · refine lv_aload_n hx hb dX3_addPlainEnd_28 rfl (lv_at hl 1 rfl) ?_
      refine lv_iload_n hx hb dX3_addPlainEnd_29 rfl (lv_at hl 2 rfl) ?_
      refine lv_aload_n hx hb dX3_addPlainEnd_30 rfl (lv_at hl 3 rfl) ?_
      refine lv_iload_n hx hb dX3_addPlainEnd_31 rfl (lv_at hl 4 rfl) ?_
      refine lv_lconst (v := 1) hx hb dX3_addPlainEnd_32 (by decide) ?_
      refine lv_iconst (v := kz 0) hx hb dX3_addPlainEnd_33 rfl ?_
      refine va_callv (va_runV (As := [.int (kz pl1), .ref fm, .int (kz ct), .long 1, .int (kz 0)]) (rest := []) ⟨hx, hb, hml, hown, hts⟩ (c_addToState l dC dI ca A X hU H a0 pl1 fm ct 1 0 g_a0 g_fm (by omega) (by omega)) (cwV 5 hts gX3_addPlainEnd_X3_addToState rfl rfl rfl (by decide +kernel) ⟨Nat.le_of_ble_eq_true rfl, Nat.le_of_ble_eq_true rfl⟩) ⟨fun a U g mk q => by obtain ⟨q0, qH, ⟨qK, qN⟩, qI⟩ := q; exact ⟨q0, qH, ⟨va_K.moved (u := U) (U := U.calling g mk a) (Vm.Alike.refl U.vm) qK, jN_same (U := U.calling g mk a) rfl qN⟩, qI⟩, va_recv hK (at_P co_4) (ci := 3) (q0 := 0) rfl rfl, fun U hU hW => ⟨rfl, hU, jK_warm hW ⟨hK, hN⟩, by rw [hU]; exact hI⟩⟩ rfl rfl hl.1 rfl (lv_room (Nat.le_of_ble_eq_true rfl)) dX3_addPlainEnd_34 ⟨Nat.le_of_ble_eq_true rfl, Nat.le_of_ble_eq_true rfl⟩) hS (fun q _ h => h) (fun q h => h) (fun u t9 H locs ht hvm hw_16 hB hz1 hk1 hS => ?_)
      obtain ⟨-, hI, hf9⟩ := hB
      rw [ht] at hI hf9
      clear ht hvm hz1
      have co_1 := fm_at hf9 g_fm (show (2 : Nat) ∉ ([220, 232] : List Nat) by decide) co_1
      have co_4 := fm_at hf9 g_a0 (show (3 : Nat) ∉ ([220, 232] : List Nat) by decide) co_4
      have c_f_2 := fm_at hf9 g_letters_1 (show (201 : Nat) ∉ ([220, 232] : List Nat) by decide) c_f_2
      have hF := fm_tr hF hf9 (by decide)
      clear hk1 hf9
      refine lv_goto (tgt := 71) hx hb dX3_addPlainEnd_37 (by decide) ?_
      exact W.vret hx hb hr (fun t9 ht hW => ⟨⟨(), rfl, trivial, jK_warm hW ⟨hK, hN⟩, by rw [ht]; exact ⟨hI, hF⟩⟩, hS.F ht⟩) hS.2.2 dX3_addPlainEnd_71
  · exact W.vret hx hb hr (fun t9 ht hW => ⟨⟨(), rfl, trivial, jK_warm hW ⟨hK, hN⟩, by rw [ht]; exact ⟨hI, hF⟩⟩, hS.F ht⟩) hS.2.2 dX3_addPlainEnd_18
set_option maxHeartbeats 4000000 in
set_option maxRecDepth 100000 in
/-- X3_addRuledEnds -/
theorem c_addRuledEnds (l : Launch) (dC : Nat → ClassId) (dI : Nat → Nat → Nat) (ca : Nat → ClassId) (A : Nat → Prop) (X : jG) (hU : jU X) (Hp : Heap) (a0 : Nat) (pl1 : Int) (fm : Nat) (ct : Int) (sh : Int) (g_a0 : X.1 a0 = (3, 30, 0, 0, 0)) (g_fm : X.1 fm = (2, 30, 0, 0, 0)) (pl1i : 0 ≤ pl1 ∧ pl1 ≤ 39) (cti : 0 ≤ ct ∧ ct ≤ 3) (shi : 0 ≤ sh ∧ sh ≤ 8) : Met l yX3_addRuledEnds wsX3_addRuledEnds ({ frames := 3, cells := 0, slots := 0, locals := 63 }) (va_Pc [.ref a0, .int (kz pl1), .ref fm, .int (kz ct), .int (kz sh)] (fun U => U.heap = Hp ∧ jK (dC, dI) ca U ∧ jv (dC, dI) ca A X U.heap)) (va_Qv (fun (u : Unit) => True) (fun u U => jK (dC, dI) ca U ∧ jv (dC, dI) ca A X U.heap ∧ kfm X [220, 232] Hp U.heap) A) 0 0 A := by
  refine Met.ofW (cc := cX3_addRuledEnds) (maxL := 10) (ret := none) (by decide) rfl ?_
  intro p e s m args below meth c s₁ B hml hv
  obtain ⟨rfl, hHp, ⟨hK, hN⟩, hI⟩ := hv
  have hx := B.exec
  have hb := B.bytes
  have hr := B.returns
  have hts := atoms_spec (ws := wsX3_addRuledEnds) B.pre
  have hown : s.vm.findClass RX3 = some m.cls := findClass_of_methodNamed B.named
  have hL119 := hts (.fieldLink RX3 119 "JoinBench$Form" "ends" "I") (by decide +kernel)
  have hL42 := hts (.fieldLink RX3 42 "JoinBench$Lattice" "inForce" "I") (by decide +kernel)
  have hL49 := hts (.fieldLink RX3 49 "JoinBench$Lattice" "tongue" "LJoinBench$Tongue;") (by decide +kernel)
  have hL122 := hts (.fieldLink RX3 122 "JoinBench$Tongue" "ruleCount" "I") (by decide +kernel)
  have hL129 := hts (.fieldLink RX3 129 "JoinBench$Tongue" "rules" "[LJoinBench$Rule;") (by decide +kernel)
  have hL112 := hts (.fieldLink RX3 112 "JoinBench$Form" "letters" "[B") (by decide +kernel)
  have hL137 := hts (.fieldLink RX3 137 "JoinBench$Form" "kind" "I") (by decide +kernel)
  have hL36 := hts (.fieldLink RX3 36 "JoinBench$Lattice" "ruledWays" "[[J") (by decide +kernel)
  have hL39 := hts (.fieldLink RX3 39 "JoinBench$Lattice" "ruledCheapest" "[[I") (by decide +kernel)
  have hL140 := hts (.fieldLink RX3 140 "JoinBench$Rule" "cost" "I") (by decide +kernel)
  have hinX2 : ∀ w ∈ u_ws RX2 TX2 8, w ∈ wsX3_addRuledEnds := by decide +kernel
  have hinX3 : ∀ w ∈ u_ws RX3 TX3 11, w ∈ wsX3_addRuledEnds := by decide +kernel
  have hinX7 : ∀ w ∈ u_ws RX7 TX7 9, w ∈ wsX3_addRuledEnds := by decide +kernel
  have hinX9 : ∀ w ∈ u_ws RX9 TX9 5, w ∈ wsX3_addRuledEnds := by decide +kernel
  obtain ⟨H, hH⟩ : ∃ H : Heap, H = s.heap := ⟨_, rfl⟩
  have hS : va_S A s.heap H [] := by rw [hH]; exact va_S.rf
  have hF : kfm X [220, 232] Hp H := by rw [hH, hHp]; exact fm_rf _ _ _
  rw [← hH] at hI ⊢
  clear hH
  have hl := lv_entry ([.ref a0, .int (kz pl1), .ref fm, .int (kz ct), .int (kz sh)]) (n := 10) (Nat.le_of_ble_eq_true rfl)
  rw [lg_entry_eq]
  generalize (lg_sl ([.ref a0, .int (kz pl1), .ref fm, .int (kz ct), .int (kz sh)]) ++ List.replicate (10 - (lg_sl ([.ref a0, .int (kz pl1), .ref fm, .int (kz ct), .int (kz sh)])).length) Slot.unset).toArray = ls at hl ⊢
  have hl : lv_has ls 10 [(0, .ref a0), (1, .int (kz pl1)), (2, .ref fm), (3, .int (kz ct)), (4, .int (kz sh))] := hl
  refine lv_aload_n hx hb dX3_addRuledEnds_0 rfl (lv_at hl 2 rfl) ?_
  obtain ⟨fs9, co_1, jo9⟩ := jv_o2 hI g_fm
  obtain ⟨ln_1, letters_1, kind_1, stem_1, kept_1, cost_1, number_1, ends_1, begins_1, rfl, g_letters_1, ⟨kind_1a, kind_1b⟩, ⟨stem_1a, stem_1b⟩, ⟨kept_1a, kept_1b⟩, ⟨cost_1a, cost_1b⟩, ⟨number_1a, number_1b⟩, ⟨ends_1a, ends_1b⟩, ⟨begins_1a, begins_1b⟩, x_1_0, x_1_1, x_1_2, x_1_3⟩ := jo9
  refine iz_get (D := (dC, dI)) (ci := 2) (v := .int (kz ends_1)) (C := RX2) (T := TX2) (N := 8) hx hb hts hinX2 hown hK co_1 rfl 6 (by decide) hL119 (fun _ h9 => h9) rfl dX3_addRuledEnds_1 ?_
  refine lv_aload_n hx hb dX3_addRuledEnds_4 rfl (lv_at hl 0 rfl) ?_
  obtain ⟨fs9, co_2, jo9⟩ := jv_o3 hI g_a0
  obtain ⟨cheapest_2, size_2, tongue_2, line_2, ways_2, plainWays_2, plainCheapest_2, ruledWays_2, ruledCheapest_2, inForce_2, barred_2, rfl, g_cheapest_2, ⟨size_2a, size_2b⟩, g_tongue_2, g_line_2, g_ways_2, g_plainWays_2, g_plainCheapest_2, g_ruledWays_2, g_ruledCheapest_2, ⟨inForce_2a, inForce_2b⟩, g_barred_2⟩ := jo9
  refine iz_get (D := (dC, dI)) (ci := 3) (v := .int (kz inForce_2)) (C := RX3) (T := TX3) (N := 11) hx hb hts hinX3 hown hK co_2 rfl 9 (by decide) hL42 (fun _ h9 => h9) rfl dX3_addRuledEnds_5 ?_
  refine lv_iand hx hb dX3_addRuledEnds_8 ?_
  refine iz_any (fun z_3 z_3a z_3b z_3e => ?_)
  refine lv_istore (lv' := [(5, .int (kz z_3)), (0, .ref a0), (1, .int (kz pl1)), (2, .ref fm), (3, .int (kz ct)), (4, .int (kz sh))]) hx hb dX3_addRuledEnds_9 hl (by decide) rfl (fun ls hl => ?_)
  refine lv_iconst (v := kz 0) hx hb dX3_addRuledEnds_11 rfl ?_
  refine lv_istore (lv' := [(6, .int (kz 0)), (5, .int (kz z_3)), (0, .ref a0), (1, .int (kz pl1)), (2, .ref fm), (3, .int (kz ct)), (4, .int (kz sh))]) hx hb dX3_addRuledEnds_12 hl (by decide) rfl (fun ls hl => ?_)
  refine iz_loopA1 (α := Unit) (P := fun N9 _u9 k H locs ls => (0 ≤ k) ∧ (k ≤ 24) ∧ 24 - k ≤ (N9 : Int) ∧ lv_has ls 10 [(6, .int (kz k)), (5, .int (kz z_3)), (0, .ref a0), (1, .int (kz pl1)), (2, .ref fm), (3, .int (kz ct)), (4, .int (kz sh))] ∧ jv (dC, dI) ca A X H ∧ va_S A s.heap H locs ∧ kfm X [220, 232] Hp H) 100000 () (x0 := 0) ?_ ⟨by omega, by omega, by omega, lv_sub hl [0, 1, 2, 3, 4, 5, 6] rfl, hI, hS, hF⟩
  intro n_4 _u9 k H locs ls ⟨n_4f0, n_4f1, n_4f2, hl, hI, hS, hF⟩ ihn_4
  refine lv_iload hx hb dX3_addRuledEnds_14 (lv_at hl 1 rfl) ?_
  refine iz_eqz (tgt := 131) hx hb dX3_addRuledEnds_16 (by decide) (by unfold rg2; omega) (fun br_5 => ?_) (fun br_5 => ?_)
  · exact W.vret hx hb hr (fun t9 ht hW => ⟨⟨(), rfl, trivial, jK_warm hW ⟨hK, hN⟩, by rw [ht]; exact ⟨hI, hF⟩⟩, hS.F ht⟩) hS.2.2 dX3_addRuledEnds_131
  · refine lv_iload hx hb dX3_addRuledEnds_19 (lv_at hl 0 rfl) ?_
    refine lv_aload_n hx hb dX3_addRuledEnds_21 rfl (lv_at hl 2 rfl) ?_
    obtain ⟨fs9, co_6, jo9⟩ := jv_o3 hI g_a0
    obtain ⟨cheapest_6, size_6, tongue_6, line_6, ways_6, plainWays_6, plainCheapest_6, ruledWays_6, ruledCheapest_6, inForce_6, barred_6, rfl, g_cheapest_6, ⟨size_6a, size_6b⟩, g_tongue_6, g_line_6, g_ways_6, g_plainWays_6, g_plainCheapest_6, g_ruledWays_6, g_ruledCheapest_6, ⟨inForce_6a, inForce_6b⟩, g_barred_6⟩ := jo9
    have e9 : cheapest_2 = cheapest_6 := jU_eq hU g_cheapest_2 g_cheapest_6 (show (27 : Nat) ≠ 0 by decide) (show uq 219 = true by decide)
    subst e9
    have e9 : tongue_2 = tongue_6 := jU_eq hU g_tongue_2 g_tongue_6 (show (30 : Nat) ≠ 0 by decide) (show uq 9 = true by decide)
    subst e9
    have e9 : line_2 = line_6 := jU_eq hU g_line_2 g_line_6 (show (21 : Nat) ≠ 0 by decide) (show uq 204 = true by decide)
    subst e9
    have e9 : ways_2 = ways_6 := jU_eq hU g_ways_2 g_ways_6 (show (23 : Nat) ≠ 0 by decide) (show uq 220 = true by decide)
    subst e9
    have e9 : plainWays_2 = plainWays_6 := jU_eq hU g_plainWays_2 g_plainWays_6 (show (28 : Nat) ≠ 0 by decide) (show uq 221 = true by decide)
    subst e9
    have e9 : plainCheapest_2 = plainCheapest_6 := jU_eq hU g_plainCheapest_2 g_plainCheapest_6 (show (27 : Nat) ≠ 0 by decide) (show uq 222 = true by decide)
    subst e9
    have e9 : ruledWays_2 = ruledWays_6 := jU_eq hU g_ruledWays_2 g_ruledWays_6 (show (28 : Nat) ≠ 0 by decide) (show uq 223 = true by decide)
    subst e9
    have e9 : ruledCheapest_2 = ruledCheapest_6 := jU_eq hU g_ruledCheapest_2 g_ruledCheapest_6 (show (27 : Nat) ≠ 0 by decide) (show uq 224 = true by decide)
    subst e9
    have e9 : barred_2 = barred_6 := jU_eq hU g_barred_2 g_barred_6 (show (22 : Nat) ≠ 0 by decide) (show uq 225 = true by decide)
    subst e9
    refine iz_get (D := (dC, dI)) (ci := 3) (v := .ref tongue_2) (C := RX3) (T := TX3) (N := 11) hx hb hts hinX3 hown hK co_6 rfl 2 (by decide) hL49 (fun _ h9 => h9) rfl dX3_addRuledEnds_22 ?_
    obtain ⟨fs9, co_7, jo9⟩ := jv_o9 hI g_tongue_6
    obtain ⟨forms_7, rules_7, formCount_7, ruleCount_7, forbidden_7, rfl, g_forms_7, g_rules_7, ⟨formCount_7a, formCount_7b⟩, ⟨ruleCount_7a, ruleCount_7b⟩, g_forbidden_7, x_7_0, x_7_1, x_7_2⟩ := jo9
    refine iz_get (D := (dC, dI)) (ci := 9) (v := .int (kz ruleCount_7)) (C := RX9) (T := TX9) (N := 5) hx hb hts hinX9 hown hK co_7 rfl 3 (by decide) hL122 (fun _ h9 => h9) rfl dX3_addRuledEnds_25 ?_
    refine iz_ge (tgt := 131) hx hb dX3_addRuledEnds_28 (by decide) (by unfold rg2; omega) (fun br_8 => ?_) (fun br_8 => ?_)
    · exact W.vret hx hb hr (fun t9 ht hW => ⟨⟨(), rfl, trivial, jK_warm hW ⟨hK, hN⟩, by rw [ht]; exact ⟨hI, hF⟩⟩, hS.F ht⟩) hS.2.2 dX3_addRuledEnds_131
    · refine lv_iload hx hb dX3_addRuledEnds_31 (lv_at hl 1 rfl) ?_
      refine lv_iload hx hb dX3_addRuledEnds_33 (lv_at hl 0 rfl) ?_
      refine vp_callSi (va_Run.run (va_runSN (As := [.int (kz z_3), .int (kz k)]) (rest := []) ⟨hx, hb, hml, hown, hts⟩ (c_hasRule l z_3 k (by omega) (by omega)) ⟨va_cnB 2 hts gX3_addRuledEnds_X11_hasRule_n125 rfl rfl rfl (jN_X3_125 hN) (hts (.initialized RX11) (by decide +kernel)) (by decide +kernel) ⟨Nat.le_of_ble_eq_true rfl, Nat.le_of_ble_eq_true rfl⟩, hts (.static yX11_hasRule) (by decide +kernel), trivial⟩ ⟨fun a U g mk q => q, fun U hU hW => ⟨rfl, trivial⟩⟩ rfl rfl hl.1 rfl (lv_room (Nat.le_of_ble_eq_true rfl)) dX3_addRuledEnds_35 ⟨Nat.le_of_ble_eq_true rfl, Nat.le_of_ble_eq_true rfl⟩)) (fun r_10 hw_9 => ?_)
      rcases hw_9 with rfl | rfl
      · refine iz_nez (tgt := 44) hx hb dX3_addRuledEnds_38 (by decide) (by unfold rg2; omega) (fun _ => ?_) (fun q9 => absurd q9 (by decide))
        refine lv_aload_n hx hb dX3_addRuledEnds_44 rfl (lv_at hl 2 rfl) ?_
        refine iz_get (D := (dC, dI)) (ci := 3) (v := .ref tongue_2) (C := RX3) (T := TX3) (N := 11) hx hb hts hinX3 hown hK co_6 rfl 2 (by decide) hL49 (fun _ h9 => h9) rfl dX3_addRuledEnds_45 ?_
        refine iz_get (D := (dC, dI)) (ci := 9) (v := .ref rules_7) (C := RX9) (T := TX9) (N := 5) hx hb hts hinX9 hown hK co_7 rfl 1 (by decide) hL129 (fun _ h9 => h9) rfl dX3_addRuledEnds_48 ?_
        refine lv_iload hx hb dX3_addRuledEnds_51 (lv_at hl 0 rfl) ?_
        obtain ⟨f_11, c_f_11, k_f_11⟩ := jv_q29 hI g_rules_7
        refine jz_aald hx hb hK 5 c_f_11 rfl rfl (by omega) (by decide) dX3_addRuledEnds_53 ?_
        obtain ⟨b_12, eb_12⟩ : ∃ b9 : Nat, f_11 (Int.toNat k) = some b9 := Option.ne_none_iff_exists'.mp ((k_f_11 (Int.toNat k) (by omega)).2 (by omega))
        have g_b_12 := (k_f_11 (Int.toNat k) (by omega)).1 b_12 eb_12
        rw [eb_12]
        refine W.eq (g2 := F0 m 54 ls [.ref b_12]) rfl ?_
        refine lv_astore (lv' := [(7, .ref b_12), (6, .int (kz k)), (5, .int (kz z_3)), (0, .ref a0), (1, .int (kz pl1)), (2, .ref fm), (3, .int (kz ct)), (4, .int (kz sh))]) hx hb dX3_addRuledEnds_54 hl (by decide) rfl (fun ls hl => ?_)
        refine lv_aload_n hx hb dX3_addRuledEnds_56 rfl (lv_at hl 3 rfl) ?_
        refine lv_iload_n hx hb dX3_addRuledEnds_57 rfl (lv_at hl 4 rfl) ?_
        refine lv_aload_n hx hb dX3_addRuledEnds_58 rfl (lv_at hl 5 rfl) ?_
        obtain ⟨fs9, co_13, jo9⟩ := jv_o2 hI g_fm
        obtain ⟨ln_13, letters_13, kind_13, stem_13, kept_13, cost_13, number_13, ends_13, begins_13, rfl, g_letters_13, ⟨kind_13a, kind_13b⟩, ⟨stem_13a, stem_13b⟩, ⟨kept_13a, kept_13b⟩, ⟨cost_13a, cost_13b⟩, ⟨number_13a, number_13b⟩, ⟨ends_13a, ends_13b⟩, ⟨begins_13a, begins_13b⟩, x_13_0, x_13_1, x_13_2, x_13_3⟩ := jo9
        refine iz_get (D := (dC, dI)) (ci := 2) (v := .ref letters_13) (C := RX2) (T := TX2) (N := 8) hx hb hts hinX2 hown hK co_13 rfl 0 (by decide) hL112 (fun _ h9 => h9) rfl dX3_addRuledEnds_59 ?_
        obtain ⟨f_14, c_f_14⟩ := iv_o21 (jv_iv hI) g_letters_13
        refine va_alen hx hb hK (at_P c_f_14) 0 1 rfl rfl (v := kz (ln_13 : Int)) rfl dX3_addRuledEnds_62 ?_
        refine lv_iload_n hx hb dX3_addRuledEnds_63 rfl (lv_at hl 6 rfl) ?_
        refine iz_isub hx hb dX3_addRuledEnds_64 ?_
        refine lv_iload hx hb dX3_addRuledEnds_65 (lv_at hl 7 rfl) ?_
        refine lv_aload hx hb dX3_addRuledEnds_67 (lv_at hl 0 rfl) ?_
        obtain ⟨fs9, co_15, jo9⟩ := jv_o7 hI g_b_12
        obtain ⟨ln_15, letters_15, endSize_15, beginningSize_15, comesFrom_15, comesSize_15, cost_15, firstDay_15, lastDay_15, number_15, rfl, g_letters_15, ⟨endSize_15a, endSize_15b⟩, ⟨beginningSize_15a, beginningSize_15b⟩, ⟨comesFrom_15a, comesFrom_15b⟩, ⟨comesSize_15a, comesSize_15b⟩, ⟨cost_15a, cost_15b⟩, ⟨firstDay_15a, firstDay_15b⟩, ⟨lastDay_15a, lastDay_15b⟩, ⟨number_15a, number_15b⟩, x_15_0, x_15_1, x_15_2, x_15_3, x_15_4, x_15_5⟩ := jo9
        refine vp_callSi (va_Run.run (va_runV (As := [.int (kz pl1), .int (kz ((ln_13 : Int) - ct)), .int (kz sh), .ref b_12]) (rest := []) ⟨hx, hb, hml, hown, hts⟩ (c_placeBehind l dC dI ca A X hU a0 pl1 ((ln_13 : Int) - ct) sh b_12 (Int.toNat k) cheapest_2 size_6 tongue_2 line_2 ways_2 plainWays_2 plainCheapest_2 ruledWays_2 ruledCheapest_2 inForce_6 barred_2 ln_15 letters_15 endSize_15 beginningSize_15 comesFrom_15 comesSize_15 cost_15 firstDay_15 lastDay_15 number_15 g_a0 g_b_12 g_cheapest_6 (by omega) g_tongue_6 g_line_6 g_ways_6 g_plainWays_6 g_plainCheapest_6 g_ruledWays_6 g_ruledCheapest_6 (by omega) g_barred_6 g_letters_15 (by omega) (by omega) (by omega) (by omega) (by omega) (by omega) (by omega) (by omega) (by omega) (by omega) x_15_2 x_15_3 (by omega) x_15_5 (by omega) (by omega) (by omega)) (cwV 4 hts gX3_addRuledEnds_X3_placeBehind rfl rfl rfl (by decide +kernel) ⟨Nat.le_of_ble_eq_true rfl, Nat.le_of_ble_eq_true rfl⟩) ⟨fun a U g mk q => by obtain ⟨q0, ⟨qK, qN⟩, qI⟩ := q; exact ⟨q0, ⟨va_K.moved (u := U) (U := U.calling g mk a) (Vm.Alike.refl U.vm) qK, jN_same (U := U.calling g mk a) rfl qN⟩, qI⟩, va_recv hK (at_P co_6) (ci := 3) (q0 := 0) rfl rfl, fun U hU hW => ⟨rfl, jK_warm hW ⟨hK, hN⟩, by rw [hU]; exact ⟨hI, co_6, co_15⟩⟩⟩ rfl rfl hl.1 rfl (lv_room (Nat.le_of_ble_eq_true rfl)) dX3_addRuledEnds_69 ⟨Nat.le_of_ble_eq_true rfl, Nat.le_of_ble_eq_true rfl⟩)) (fun r_17 hw_16 => ?_)
        rcases hw_16 with ⟨z_18, rfl, z_181, z_182, z_183⟩ | rfl
        · refine lv_istore (lv' := [(8, .int (kz z_18)), (7, .ref b_12), (6, .int (kz k)), (5, .int (kz z_3)), (0, .ref a0), (1, .int (kz pl1)), (2, .ref fm), (3, .int (kz ct)), (4, .int (kz sh))]) hx hb dX3_addRuledEnds_72 hl (by decide) rfl (fun ls hl => ?_)
          refine lv_iload hx hb dX3_addRuledEnds_74 (lv_at hl 0 rfl) ?_
          refine lv_iconst (v := kz (-1)) hx hb dX3_addRuledEnds_76 rfl ?_
          refine iz_eq (tgt := 125) hx hb dX3_addRuledEnds_77 (by decide) (by unfold rg2; omega) (fun br_19 => ?_) (fun br_19 => ?_)
          · refine lv_iinc (v := kz (k + 1)) (lv' := [(6, .int (kz (k + 1))), (8, .int (kz z_18)), (7, .ref b_12), (5, .int (kz z_3)), (0, .ref a0), (1, .int (kz pl1)), (2, .ref fm), (3, .int (kz ct)), (4, .int (kz sh))]) hx hb dX3_addRuledEnds_125 hl (k := 2) rfl (kz_add k 1) (by decide) rfl (fun ls hl => ?_)
            refine lv_goto (tgt := 14) hx hb dX3_addRuledEnds_128 (by decide) ?_
            exact ihn_4 (n_4 - 1) (by omega) () (k + 1) _ _ _ ⟨by omega, by omega, by omega, lv_sub hl [0, 3, 4, 5, 6, 7, 8] rfl, hI, hS, hF⟩
          · refine lv_iload hx hb dX3_addRuledEnds_80 (lv_at hl 2 rfl) ?_
            refine lv_bipush (v := kz 6) hx hb dX3_addRuledEnds_82 (by decide) ?_
            refine iz_imul hx hb dX3_addRuledEnds_84 ?_
            refine lv_aload_n hx hb dX3_addRuledEnds_85 rfl (lv_at hl 6 rfl) ?_
            refine iz_get (D := (dC, dI)) (ci := 2) (v := .int (kz kind_13)) (C := RX2) (T := TX2) (N := 8) hx hb hts hinX2 hown hK co_13 rfl 1 (by decide) hL137 (fun _ h9 => h9) rfl dX3_addRuledEnds_86 ?_
            refine iz_iadd hx hb dX3_addRuledEnds_89 ?_
            refine lv_istore (lv' := [(9, .int (kz ((k * 6) + kind_13))), (8, .int (kz z_18)), (7, .ref b_12), (6, .int (kz k)), (5, .int (kz z_3)), (0, .ref a0), (1, .int (kz pl1)), (2, .ref fm), (3, .int (kz ct)), (4, .int (kz sh))]) hx hb dX3_addRuledEnds_90 hl (by decide) rfl (fun ls hl => ?_)
            refine lv_aload_n hx hb dX3_addRuledEnds_92 rfl (lv_at hl 5 rfl) ?_
            refine lv_iload_n hx hb dX3_addRuledEnds_93 rfl (lv_at hl 6 rfl) ?_
            refine lv_aload_n hx hb dX3_addRuledEnds_94 rfl (lv_at hl 7 rfl) ?_
            refine lv_iload_n hx hb dX3_addRuledEnds_95 rfl (lv_at hl 8 rfl) ?_
            refine lv_aload_n hx hb dX3_addRuledEnds_96 rfl (lv_at hl 5 rfl) ?_
            refine iz_get (D := (dC, dI)) (ci := 3) (v := .ref ruledWays_2) (C := RX3) (T := TX3) (N := 11) hx hb hts hinX3 hown hK co_6 rfl 7 (by decide) hL36 (fun _ h9 => h9) rfl dX3_addRuledEnds_97 ?_
            refine lv_iload hx hb dX3_addRuledEnds_100 (lv_at hl 1 rfl) ?_
            obtain ⟨f_20, c_f_20, k_f_20⟩ := jv_q28 hI g_ruledWays_6
            refine jz_aald hx hb hK 8 c_f_20 rfl rfl (by omega) (by decide) dX3_addRuledEnds_102 ?_
            obtain ⟨b_21, eb_21, g_b_21⟩ := k_f_20 (Int.toNat z_18) (by omega)
            rw [eb_21]
            have g_b_21 : X.1 b_21 = (235, 23, 144, 0, 0) := g_b_21
            refine W.eq (g2 := F0 m 103 ls [.ref b_21, .int (kz ct), .ref fm, .int (kz pl1), .ref a0]) rfl ?_
            refine lv_iload hx hb dX3_addRuledEnds_103 (lv_at hl 0 rfl) ?_
            obtain ⟨f_22, c_f_22⟩ := iv_o23 (jv_iv hI) g_b_21
            refine iz_lald hx hb hK 3 c_f_22 rfl (by omega) (by decide) dX3_addRuledEnds_105 ?_
            refine lv_topl (fun y_23 ey_23 => ?_)
            refine lv_aload_n hx hb dX3_addRuledEnds_106 rfl (lv_at hl 5 rfl) ?_
            refine iz_get (D := (dC, dI)) (ci := 3) (v := .ref ruledCheapest_2) (C := RX3) (T := TX3) (N := 11) hx hb hts hinX3 hown hK co_6 rfl 8 (by decide) hL39 (fun _ h9 => h9) rfl dX3_addRuledEnds_107 ?_
            refine lv_iload hx hb dX3_addRuledEnds_110 (lv_at hl 1 rfl) ?_
            obtain ⟨f_24, c_f_24, k_f_24⟩ := jv_q27 hI g_ruledCheapest_6
            refine jz_aald hx hb hK 7 c_f_24 rfl rfl (by omega) (by decide) dX3_addRuledEnds_112 ?_
            obtain ⟨b_25, eb_25, g_b_25⟩ := k_f_24 (Int.toNat z_18) (by omega)
            rw [eb_25]
            have g_b_25 : X.1 b_25 = (236, 20, 144, -2147483648, 2147483647) := g_b_25
            refine W.eq (g2 := F0 m 113 ls [.ref b_25, .long y_23, .int (kz ct), .ref fm, .int (kz pl1), .ref a0]) rfl ?_
            refine lv_iload hx hb dX3_addRuledEnds_113 (lv_at hl 0 rfl) ?_
            obtain ⟨f_26, c_f_26, k_f_26⟩ := iv_o20 (jv_iv hI) g_b_25
            refine iz_iald hx hb hK 0 c_f_26 rfl (by omega) (by decide) dX3_addRuledEnds_115 ?_
            obtain ⟨v_27a, v_27b, -⟩ := k_f_26 ((k * 6) + kind_13) (by omega)
            obtain ⟨v_27, ev_27⟩ : ∃ z9 : Int, ge1 f_26 ((k * 6) + kind_13) = z9 := ⟨_, rfl⟩
            rw [ev_27] at v_27a v_27b ⊢
            refine lv_aload hx hb dX3_addRuledEnds_116 (lv_at hl 2 rfl) ?_
            refine iz_get (D := (dC, dI)) (ci := 7) (v := .int (kz cost_15)) (C := RX7) (T := TX7) (N := 9) hx hb hts hinX7 hown hK co_15 rfl 5 (by decide) hL140 (fun _ h9 => h9) rfl dX3_addRuledEnds_118 ?_
            refine iz_iadd hx hb dX3_addRuledEnds_121 ?_
            refine va_callv (va_runV (As := [.int (kz pl1), .ref fm, .int (kz ct), .long y_23, .int (kz (v_27 + cost_15))]) (rest := []) ⟨hx, hb, hml, hown, hts⟩ (c_addToState l dC dI ca A X hU H a0 pl1 fm ct y_23 (v_27 + cost_15) g_a0 g_fm (by omega) (by omega)) (cwV 5 hts gX3_addRuledEnds_X3_addToState rfl rfl rfl (by decide +kernel) ⟨Nat.le_of_ble_eq_true rfl, Nat.le_of_ble_eq_true rfl⟩) ⟨fun a U g mk q => by obtain ⟨q0, qH, ⟨qK, qN⟩, qI⟩ := q; exact ⟨q0, qH, ⟨va_K.moved (u := U) (U := U.calling g mk a) (Vm.Alike.refl U.vm) qK, jN_same (U := U.calling g mk a) rfl qN⟩, qI⟩, va_recv hK (at_P co_6) (ci := 3) (q0 := 0) rfl rfl, fun U hU hW => ⟨rfl, hU, jK_warm hW ⟨hK, hN⟩, by rw [hU]; exact hI⟩⟩ rfl rfl hl.1 rfl (lv_room (Nat.le_of_ble_eq_true rfl)) dX3_addRuledEnds_122 ⟨Nat.le_of_ble_eq_true rfl, Nat.le_of_ble_eq_true rfl⟩) hS (fun q _ h => h) (fun q h => h) (fun u t9 H locs ht hvm hw_28 hB hz1 hk1 hS => ?_)
            obtain ⟨-, hI, hf9⟩ := hB
            rw [ht] at hI hf9
            clear ht hvm hz1
            have co_6 := fm_at hf9 g_a0 (show (3 : Nat) ∉ ([220, 232] : List Nat) by decide) co_6
            have co_7 := fm_at hf9 g_tongue_6 (show (9 : Nat) ∉ ([220, 232] : List Nat) by decide) co_7
            have co_13 := fm_at hf9 g_fm (show (2 : Nat) ∉ ([220, 232] : List Nat) by decide) co_13
            have co_15 := fm_at hf9 g_b_12 (show (7 : Nat) ∉ ([220, 232] : List Nat) by decide) co_15
            have c_f_11 := fm_at hf9 g_rules_7 (show (213 : Nat) ∉ ([220, 232] : List Nat) by decide) c_f_11
            have c_f_14 := fm_at hf9 g_letters_13 (show (201 : Nat) ∉ ([220, 232] : List Nat) by decide) c_f_14
            have c_f_20 := fm_at hf9 g_ruledWays_6 (show (223 : Nat) ∉ ([220, 232] : List Nat) by decide) c_f_20
            have c_f_22 := fm_at hf9 g_b_21 (show (235 : Nat) ∉ ([220, 232] : List Nat) by decide) c_f_22
            have c_f_24 := fm_at hf9 g_ruledCheapest_6 (show (224 : Nat) ∉ ([220, 232] : List Nat) by decide) c_f_24
            have c_f_26 := fm_at hf9 g_b_25 (show (236 : Nat) ∉ ([220, 232] : List Nat) by decide) c_f_26
            have hF := fm_tr hF hf9 (by decide)
            clear hk1 hf9
            refine lv_iinc (v := kz (k + 1)) (lv' := [(6, .int (kz (k + 1))), (9, .int (kz ((k * 6) + kind_13))), (8, .int (kz z_18)), (7, .ref b_12), (5, .int (kz z_3)), (0, .ref a0), (1, .int (kz pl1)), (2, .ref fm), (3, .int (kz ct)), (4, .int (kz sh))]) hx hb dX3_addRuledEnds_125 hl (k := 3) rfl (kz_add k 1) (by decide) rfl (fun ls hl => ?_)
            refine lv_goto (tgt := 14) hx hb dX3_addRuledEnds_128 (by decide) ?_
            exact ihn_4 (n_4 - 1) (by omega) () (k + 1) _ _ _ ⟨by omega, by omega, by omega, lv_sub hl [0, 4, 5, 6, 7, 8, 9] rfl, hI, hS, hF⟩
        · refine lv_istore (lv' := [(8, .int (kz (-1))), (7, .ref b_12), (6, .int (kz k)), (5, .int (kz z_3)), (0, .ref a0), (1, .int (kz pl1)), (2, .ref fm), (3, .int (kz ct)), (4, .int (kz sh))]) hx hb dX3_addRuledEnds_72 hl (by decide) rfl (fun ls hl => ?_)
          refine lv_iload hx hb dX3_addRuledEnds_74 (lv_at hl 0 rfl) ?_
          refine lv_iconst (v := kz (-1)) hx hb dX3_addRuledEnds_76 rfl ?_
          refine iz_eq (tgt := 125) hx hb dX3_addRuledEnds_77 (by decide) (by unfold rg2; omega) (fun _ => ?_) (fun q9 => absurd q9 (by decide))
          refine lv_iinc (v := kz (k + 1)) (lv' := [(6, .int (kz (k + 1))), (8, .int (kz (-1))), (7, .ref b_12), (5, .int (kz z_3)), (0, .ref a0), (1, .int (kz pl1)), (2, .ref fm), (3, .int (kz ct)), (4, .int (kz sh))]) hx hb dX3_addRuledEnds_125 hl (k := 2) rfl (kz_add k 1) (by decide) rfl (fun ls hl => ?_)
          refine lv_goto (tgt := 14) hx hb dX3_addRuledEnds_128 (by decide) ?_
          exact ihn_4 (n_4 - 1) (by omega) () (k + 1) _ _ _ ⟨by omega, by omega, by omega, lv_sub hl [0, 3, 4, 5, 6, 7, 8] rfl, hI, hS, hF⟩
      · refine iz_nez (tgt := 44) hx hb dX3_addRuledEnds_38 (by decide) (by unfold rg2; omega) (fun q9 => absurd q9 (by decide)) (fun _ => ?_)
        refine lv_goto (tgt := 125) hx hb dX3_addRuledEnds_41 (by decide) ?_
        refine lv_iinc (v := kz (k + 1)) (lv' := [(6, .int (kz (k + 1))), (5, .int (kz z_3)), (0, .ref a0), (1, .int (kz pl1)), (2, .ref fm), (3, .int (kz ct)), (4, .int (kz sh))]) hx hb dX3_addRuledEnds_125 hl (k := 0) rfl (kz_add k 1) (by decide) rfl (fun ls hl => ?_)
        refine lv_goto (tgt := 14) hx hb dX3_addRuledEnds_128 (by decide) ?_
        exact ihn_4 (n_4 - 1) (by omega) () (k + 1) _ _ _ ⟨by omega, by omega, by omega, lv_sub hl [0, 1, 2, 3, 4, 5, 6] rfl, hI, hS, hF⟩
set_option maxHeartbeats 4000000 in
set_option maxRecDepth 100000 in
/-- X3_setForm -/
theorem c_setForm (l : Launch) (dC : Nat → ClassId) (dI : Nat → Nat → Nat) (ca : Nat → ClassId) (A : Nat → Prop) (X : jG) (hU : jU X) (Hp : Heap) (a0 : Nat) (pl1 : Int) (fm : Nat) (g_a0 : X.1 a0 = (3, 30, 0, 0, 0)) (g_fm : X.1 fm = (2, 30, 0, 0, 0)) (pl1i : 0 ≤ pl1 ∧ pl1 ≤ 39) : Met l yX3_setForm wsX3_setForm ({ frames := 4, cells := 0, slots := 0, locals := 92 }) (va_Pc [.ref a0, .int (kz pl1), .ref fm] (fun U => U.heap = Hp ∧ jK (dC, dI) ca U ∧ jv (dC, dI) ca A X U.heap)) (va_Qv (fun (u : Unit) => True) (fun u U => jK (dC, dI) ca U ∧ jv (dC, dI) ca A X U.heap ∧ kfm X [220, 232] Hp U.heap) A) 0 0 A := by
  refine Met.ofW (cc := cX3_setForm) (maxL := 6) (ret := none) (by decide) rfl ?_
  intro p e s m args below meth c s₁ B hml hv
  obtain ⟨rfl, hHp, ⟨hK, hN⟩, hI⟩ := hv
  have hx := B.exec
  have hb := B.bytes
  have hr := B.returns
  have hts := atoms_spec (ws := wsX3_setForm) B.pre
  have hown : s.vm.findClass RX3 = some m.cls := findClass_of_methodNamed B.named
  have hL96 := hts (.fieldLink RX3 96 "JoinBench$Form" "number" "I") (by decide +kernel)
  have hL24 := hts (.fieldLink RX3 24 "JoinBench$Lattice" "ways" "[J") (by decide +kernel)
  have hL11 := hts (.fieldLink RX3 11 "JoinBench$Lattice" "cheapest" "[[I") (by decide +kernel)
  have hinX2 : ∀ w ∈ u_ws RX2 TX2 8, w ∈ wsX3_setForm := by decide +kernel
  have hinX3 : ∀ w ∈ u_ws RX3 TX3 11, w ∈ wsX3_setForm := by decide +kernel
  obtain ⟨H, hH⟩ : ∃ H : Heap, H = s.heap := ⟨_, rfl⟩
  have hS : va_S A s.heap H [] := by rw [hH]; exact va_S.rf
  have hF : kfm X [220, 232] Hp H := by rw [hH, hHp]; exact fm_rf _ _ _
  rw [← hH] at hI ⊢
  clear hH
  have hl := lv_entry ([.ref a0, .int (kz pl1), .ref fm]) (n := 6) (Nat.le_of_ble_eq_true rfl)
  rw [lg_entry_eq]
  generalize (lg_sl ([.ref a0, .int (kz pl1), .ref fm]) ++ List.replicate (6 - (lg_sl ([.ref a0, .int (kz pl1), .ref fm])).length) Slot.unset).toArray = ls at hl ⊢
  have hl : lv_has ls 6 [(0, .ref a0), (1, .int (kz pl1)), (2, .ref fm)] := hl
  refine lv_iconst (v := kz 0) hx hb dX3_setForm_0 rfl ?_
  refine lv_istore_n (lv' := [(3, .int (kz 0)), (0, .ref a0), (1, .int (kz pl1)), (2, .ref fm)]) hx hb dX3_setForm_1 rfl hl (by decide) rfl (fun ls hl => ?_)
  refine iz_loopA1 (α := Unit) (P := fun N9 _u9 ct H locs ls => (0 ≤ ct) ∧ (ct ≤ 4) ∧ 4 - ct ≤ (N9 : Int) ∧ lv_has ls 6 [(3, .int (kz ct)), (0, .ref a0), (1, .int (kz pl1)), (2, .ref fm)] ∧ jv (dC, dI) ca A X H ∧ va_S A s.heap H locs ∧ kfm X [220, 232] Hp H) 100000 () (x0 := 0) ?_ ⟨by omega, by omega, by omega, lv_sub hl [0, 1, 2, 3] rfl, hI, hS, hF⟩
  intro n_1 _u9 ct H locs ls ⟨n_1f0, n_1f1, n_1f2, hl, hI, hS, hF⟩ ihn_1
  refine lv_iload_n hx hb dX3_setForm_2 rfl (lv_at hl 0 rfl) ?_
  refine lv_iconst (v := kz 4) hx hb dX3_setForm_3 rfl ?_
  refine iz_ge (tgt := 74) hx hb dX3_setForm_4 (by decide) (by unfold rg2; omega) (fun br_2 => ?_) (fun br_2 => ?_)
  · exact W.vret hx hb hr (fun t9 ht hW => ⟨⟨(), rfl, trivial, jK_warm hW ⟨hK, hN⟩, by rw [ht]; exact ⟨hI, hF⟩⟩, hS.F ht⟩) hS.2.2 dX3_setForm_74
  · refine lv_aload_n hx hb dX3_setForm_7 rfl (lv_at hl 3 rfl) ?_
    obtain ⟨fs9, co_3, jo9⟩ := jv_o2 hI g_fm
    obtain ⟨ln_3, letters_3, kind_3, stem_3, kept_3, cost_3, number_3, ends_3, begins_3, rfl, g_letters_3, ⟨kind_3a, kind_3b⟩, ⟨stem_3a, stem_3b⟩, ⟨kept_3a, kept_3b⟩, ⟨cost_3a, cost_3b⟩, ⟨number_3a, number_3b⟩, ⟨ends_3a, ends_3b⟩, ⟨begins_3a, begins_3b⟩, x_3_0, x_3_1, x_3_2, x_3_3⟩ := jo9
    refine iz_get (D := (dC, dI)) (ci := 2) (v := .int (kz number_3)) (C := RX2) (T := TX2) (N := 8) hx hb hts hinX2 hown hK co_3 rfl 5 (by decide) hL96 (fun _ h9 => h9) rfl dX3_setForm_8 ?_
    refine lv_iconst (v := kz 4) hx hb dX3_setForm_11 rfl ?_
    refine iz_imul hx hb dX3_setForm_12 ?_
    refine lv_iload_n hx hb dX3_setForm_13 rfl (lv_at hl 0 rfl) ?_
    refine iz_iadd hx hb dX3_setForm_14 ?_
    refine lv_istore (lv' := [(4, .int (kz ((number_3 * 4) + ct))), (3, .int (kz ct)), (0, .ref a0), (1, .int (kz pl1)), (2, .ref fm)]) hx hb dX3_setForm_15 hl (by decide) rfl (fun ls hl => ?_)
    refine lv_aload_n hx hb dX3_setForm_17 rfl (lv_at hl 2 rfl) ?_
    obtain ⟨fs9, co_4, jo9⟩ := jv_o3 hI g_a0
    obtain ⟨cheapest_4, size_4, tongue_4, line_4, ways_4, plainWays_4, plainCheapest_4, ruledWays_4, ruledCheapest_4, inForce_4, barred_4, rfl, g_cheapest_4, ⟨size_4a, size_4b⟩, g_tongue_4, g_line_4, g_ways_4, g_plainWays_4, g_plainCheapest_4, g_ruledWays_4, g_ruledCheapest_4, ⟨inForce_4a, inForce_4b⟩, g_barred_4⟩ := jo9
    refine iz_get (D := (dC, dI)) (ci := 3) (v := .ref ways_4) (C := RX3) (T := TX3) (N := 11) hx hb hts hinX3 hown hK co_4 rfl 4 (by decide) hL24 (fun _ h9 => h9) rfl dX3_setForm_18 ?_
    refine lv_iload hx hb dX3_setForm_21 (lv_at hl 0 rfl) ?_
    refine lv_lconst (v := 0) hx hb dX3_setForm_23 (by decide) ?_
    obtain ⟨f_5, c_f_5⟩ := iv_o23 (jv_iv hI) g_ways_4
    refine iz_last hx hb hK 3 c_f_5 hS (jv_A hI g_ways_4 (show (23 : Nat) ≠ 0 by decide)) rfl (by omega) (by decide) dX3_setForm_24 (fun H locs c9 oq hS => ?_)
    have hI := jv_s23 hI g_ways_4 c9 oq
    have hF := fm_put hF g_ways_4 (show (220 : Nat) ∈ [220, 232] by decide) oq
    have co_3 := co_3.kept (oq _ (kn_ne g_fm g_ways_4 (show (2 : Nat) ≠ 220 by decide)))
    have co_4 := co_4.kept (oq _ (kn_ne g_a0 g_ways_4 (show (3 : Nat) ≠ 220 by decide)))
    clear oq c9
    refine lv_aload_n hx hb dX3_setForm_25 rfl (lv_at hl 2 rfl) ?_
    refine iz_get (D := (dC, dI)) (ci := 3) (v := .ref cheapest_4) (C := RX3) (T := TX3) (N := 11) hx hb hts hinX3 hown hK co_4 rfl 0 (by decide) hL11 (fun _ h9 => h9) rfl dX3_setForm_26 ?_
    refine lv_iload_n hx hb dX3_setForm_29 rfl (lv_at hl 3 rfl) ?_
    obtain ⟨f_6, c_f_6, k_f_6⟩ := jv_q27 hI g_cheapest_4
    refine jz_aald hx hb hK 7 c_f_6 rfl rfl (by omega) (by decide) dX3_setForm_30 ?_
    obtain ⟨b_7, eb_7, g_b_7⟩ := k_f_6 (Int.toNat pl1) (by omega)
    rw [eb_7]
    have g_b_7 : X.1 b_7 = (232, 20, 160, -2147483648, 2147483647) := g_b_7
    refine W.eq (g2 := F0 m 31 ls [.ref b_7]) rfl ?_
    refine lv_iload hx hb dX3_setForm_31 (lv_at hl 0 rfl) ?_
    refine lv_ldc (own := RX3) (v := kz 1048576) hx hb hown (hts (.constant RX3 74 (kz 1048576)) (by decide +kernel)) dX3_setForm_33 ?_
    obtain ⟨f_8, c_f_8, k_f_8⟩ := iv_o20 (jv_iv hI) g_b_7
    refine iz_iast hx hb hK 0 c_f_8 hS (jv_A hI g_b_7 (show (20 : Nat) ≠ 0 by decide)) rfl (by omega) (by decide) dX3_setForm_35 (fun H locs c9 oq hS => ?_)
    have hI := jv_s20 hI g_b_7 k_f_8 c9 oq (by omega) (by omega) (by decide)
    have hF := fm_put hF g_b_7 (show (232 : Nat) ∈ [220, 232] by decide) oq
    have c_f_6 := c_f_6.kept (oq _ (kn_ne g_cheapest_4 g_b_7 (show (219 : Nat) ≠ 232 by decide)))
    have co_3 := co_3.kept (oq _ (kn_ne g_fm g_b_7 (show (2 : Nat) ≠ 232 by decide)))
    have co_4 := co_4.kept (oq _ (kn_ne g_a0 g_b_7 (show (3 : Nat) ≠ 232 by decide)))
    clear oq c9
    refine lv_aload_n hx hb dX3_setForm_36 rfl (lv_at hl 2 rfl) ?_
    refine lv_iload_n hx hb dX3_setForm_37 rfl (lv_at hl 3 rfl) ?_
    refine lv_aload_n hx hb dX3_setForm_38 rfl (lv_at hl 4 rfl) ?_
    refine lv_iload_n hx hb dX3_setForm_39 rfl (lv_at hl 1 rfl) ?_
    refine vp_callSi (va_Run.run (va_runV (As := [.int (kz pl1), .ref fm, .int (kz ct)]) (rest := []) ⟨hx, hb, hml, hown, hts⟩ (c_sharedLetters l dC dI ca A X hU a0 pl1 fm ct g_a0 g_fm (by omega) (by omega)) (cwV 3 hts gX3_setForm_X3_sharedLetters rfl rfl rfl (by decide +kernel) ⟨Nat.le_of_ble_eq_true rfl, Nat.le_of_ble_eq_true rfl⟩) ⟨fun a U g mk q => by obtain ⟨q0, ⟨qK, qN⟩, qI⟩ := q; exact ⟨q0, ⟨va_K.moved (u := U) (U := U.calling g mk a) (Vm.Alike.refl U.vm) qK, jN_same (U := U.calling g mk a) rfl qN⟩, qI⟩, va_recv hK (at_P co_4) (ci := 3) (q0 := 0) rfl rfl, fun U hU hW => ⟨rfl, jK_warm hW ⟨hK, hN⟩, by rw [hU]; exact hI⟩⟩ rfl rfl hl.1 rfl (lv_room (Nat.le_of_ble_eq_true rfl)) dX3_setForm_40 ⟨Nat.le_of_ble_eq_true rfl, Nat.le_of_ble_eq_true rfl⟩)) (fun r_10 hw_9 => ?_)
    obtain ⟨z_11, rfl, z_11h⟩ := hw_9
    refine lv_istore (lv' := [(5, .int (kz z_11)), (4, .int (kz ((number_3 * 4) + ct))), (3, .int (kz ct)), (0, .ref a0), (1, .int (kz pl1)), (2, .ref fm)]) hx hb dX3_setForm_43 hl (by decide) rfl (fun ls hl => ?_)
    refine lv_iload hx hb dX3_setForm_45 (lv_at hl 0 rfl) ?_
    refine iz_lez (tgt := 68) hx hb dX3_setForm_47 (by decide) (by unfold rg2; omega) (fun br_12 => ?_) (fun br_12 => ?_)
    · refine lv_iinc (v := kz (ct + 1)) (lv' := [(3, .int (kz (ct + 1))), (5, .int (kz z_11)), (4, .int (kz ((number_3 * 4) + ct))), (0, .ref a0), (1, .int (kz pl1)), (2, .ref fm)]) hx hb dX3_setForm_68 hl (k := 2) rfl (kz_add ct 1) (by decide) rfl (fun ls hl => ?_)
      refine lv_goto (tgt := 2) hx hb dX3_setForm_71 (by decide) ?_
      exact ihn_1 (n_1 - 1) (by omega) () (ct + 1) _ _ _ ⟨by omega, by omega, by omega, lv_sub hl [0, 3, 4, 5] rfl, hI, hS, hF⟩
    · refine lv_aload_n hx hb dX3_setForm_50 rfl (lv_at hl 3 rfl) ?_
      refine lv_iload_n hx hb dX3_setForm_51 rfl (lv_at hl 4 rfl) ?_
      refine lv_aload_n hx hb dX3_setForm_52 rfl (lv_at hl 5 rfl) ?_
      refine lv_iload_n hx hb dX3_setForm_53 rfl (lv_at hl 2 rfl) ?_
      refine lv_iload hx hb dX3_setForm_54 (lv_at hl 0 rfl) ?_
      refine va_callv (va_runV (As := [.int (kz pl1), .ref fm, .int (kz ct), .int (kz z_11)]) (rest := []) ⟨hx, hb, hml, hown, hts⟩ (c_addPlainEnd l dC dI ca A X hU H a0 pl1 fm ct z_11 g_a0 g_fm (by omega) (by omega) (by omega)) (cwV 4 hts gX3_setForm_X3_addPlainEnd rfl rfl rfl (by decide +kernel) ⟨Nat.le_of_ble_eq_true rfl, Nat.le_of_ble_eq_true rfl⟩) ⟨fun a U g mk q => by obtain ⟨q0, qH, ⟨qK, qN⟩, qI⟩ := q; exact ⟨q0, qH, ⟨va_K.moved (u := U) (U := U.calling g mk a) (Vm.Alike.refl U.vm) qK, jN_same (U := U.calling g mk a) rfl qN⟩, qI⟩, va_recv hK (at_P co_4) (ci := 3) (q0 := 0) rfl rfl, fun U hU hW => ⟨rfl, hU, jK_warm hW ⟨hK, hN⟩, by rw [hU]; exact hI⟩⟩ rfl rfl hl.1 rfl (lv_room (Nat.le_of_ble_eq_true rfl)) dX3_setForm_56 ⟨Nat.le_of_ble_eq_true rfl, Nat.le_of_ble_eq_true rfl⟩) hS (fun q _ h => h) (fun q h => h) (fun u t9 H locs ht hvm hw_13 hB hz1 hk1 hS => ?_)
      obtain ⟨-, hI, hf9⟩ := hB
      rw [ht] at hI hf9
      clear ht hvm hz1
      have co_3 := fm_at hf9 g_fm (show (2 : Nat) ∉ ([220, 232] : List Nat) by decide) co_3
      have co_4 := fm_at hf9 g_a0 (show (3 : Nat) ∉ ([220, 232] : List Nat) by decide) co_4
      have c_f_6 := fm_at hf9 g_cheapest_4 (show (219 : Nat) ∉ ([220, 232] : List Nat) by decide) c_f_6
      have hF := fm_tr hF hf9 (by decide)
      clear hk1 hf9
      refine lv_aload_n hx hb dX3_setForm_59 rfl (lv_at hl 3 rfl) ?_
      refine lv_iload_n hx hb dX3_setForm_60 rfl (lv_at hl 4 rfl) ?_
      refine lv_aload_n hx hb dX3_setForm_61 rfl (lv_at hl 5 rfl) ?_
      refine lv_iload_n hx hb dX3_setForm_62 rfl (lv_at hl 2 rfl) ?_
      refine lv_iload hx hb dX3_setForm_63 (lv_at hl 0 rfl) ?_
      refine va_callv (va_runV (As := [.int (kz pl1), .ref fm, .int (kz ct), .int (kz z_11)]) (rest := []) ⟨hx, hb, hml, hown, hts⟩ (c_addRuledEnds l dC dI ca A X hU H a0 pl1 fm ct z_11 g_a0 g_fm (by omega) (by omega) (by omega)) (cwV 4 hts gX3_setForm_X3_addRuledEnds rfl rfl rfl (by decide +kernel) ⟨Nat.le_of_ble_eq_true rfl, Nat.le_of_ble_eq_true rfl⟩) ⟨fun a U g mk q => by obtain ⟨q0, qH, ⟨qK, qN⟩, qI⟩ := q; exact ⟨q0, qH, ⟨va_K.moved (u := U) (U := U.calling g mk a) (Vm.Alike.refl U.vm) qK, jN_same (U := U.calling g mk a) rfl qN⟩, qI⟩, va_recv hK (at_P co_4) (ci := 3) (q0 := 0) rfl rfl, fun U hU hW => ⟨rfl, hU, jK_warm hW ⟨hK, hN⟩, by rw [hU]; exact hI⟩⟩ rfl rfl hl.1 rfl (lv_room (Nat.le_of_ble_eq_true rfl)) dX3_setForm_65 ⟨Nat.le_of_ble_eq_true rfl, Nat.le_of_ble_eq_true rfl⟩) hS (fun q _ h => h) (fun q h => h) (fun u t9 H locs ht hvm hw_15 hB hz1 hk1 hS => ?_)
      obtain ⟨-, hI, hf9⟩ := hB
      rw [ht] at hI hf9
      clear ht hvm hz1
      have co_3 := fm_at hf9 g_fm (show (2 : Nat) ∉ ([220, 232] : List Nat) by decide) co_3
      have co_4 := fm_at hf9 g_a0 (show (3 : Nat) ∉ ([220, 232] : List Nat) by decide) co_4
      have c_f_6 := fm_at hf9 g_cheapest_4 (show (219 : Nat) ∉ ([220, 232] : List Nat) by decide) c_f_6
      have hF := fm_tr hF hf9 (by decide)
      clear hk1 hf9
      refine lv_iinc (v := kz (ct + 1)) (lv' := [(3, .int (kz (ct + 1))), (5, .int (kz z_11)), (4, .int (kz ((number_3 * 4) + ct))), (0, .ref a0), (1, .int (kz pl1)), (2, .ref fm)]) hx hb dX3_setForm_68 hl (k := 2) rfl (kz_add ct 1) (by decide) rfl (fun ls hl => ?_)
      refine lv_goto (tgt := 2) hx hb dX3_setForm_71 (by decide) ?_
      exact ihn_1 (n_1 - 1) (by omega) () (ct + 1) _ _ _ ⟨by omega, by omega, by omega, lv_sub hl [0, 3, 4, 5] rfl, hI, hS, hF⟩
set_option maxHeartbeats 4000000 in
set_option maxRecDepth 100000 in
/-- X3_gatherBehindRule -/
theorem c_gatherBehindRule (l : Launch) (dC : Nat → ClassId) (dI : Nat → Nat → Nat) (ca : Nat → ClassId) (A : Nat → Prop) (X : jG) (hU : jU X) (Hp : Heap) (a0 : Nat) (pl1 : Int) (fm : Nat) (ru : Int) (g_a0 : X.1 a0 = (3, 30, 0, 0, 0)) (g_fm : X.1 fm = (2, 30, 0, 0, 0)) (pl1i : 0 ≤ pl1 ∧ pl1 ≤ 39) (rui : 0 ≤ ru ∧ ru < (X.2.2.2 : Int)) : Met l yX3_gatherBehindRule wsX3_gatherBehindRule ({ frames := 2, cells := 0, slots := 0, locals := 36 }) (va_Pc [.ref a0, .int (kz pl1), .ref fm, .int (kz ru)] (fun U => U.heap = Hp ∧ jK (dC, dI) ca U ∧ jv (dC, dI) ca A X U.heap)) (va_Qv (fun (u : Unit) => True) (fun u U => jK (dC, dI) ca U ∧ jv (dC, dI) ca A X U.heap ∧ kfm X [235, 236] Hp U.heap) A) 0 0 A := by
  refine Met.ofW (cc := cX3_gatherBehindRule) (maxL := 7) (ret := none) (by decide) rfl ?_
  intro p e s m args below meth c s₁ B hml hv
  obtain ⟨rfl, hHp, ⟨hK, hN⟩, hI⟩ := hv
  have hx := B.exec
  have hb := B.bytes
  have hr := B.returns
  have hts := atoms_spec (ws := wsX3_gatherBehindRule) B.pre
  have hown : s.vm.findClass RX3 = some m.cls := findClass_of_methodNamed B.named
  have hL96 := hts (.fieldLink RX3 96 "JoinBench$Form" "number" "I") (by decide +kernel)
  have hL49 := hts (.fieldLink RX3 49 "JoinBench$Lattice" "tongue" "LJoinBench$Tongue;") (by decide +kernel)
  have hL129 := hts (.fieldLink RX3 129 "JoinBench$Tongue" "rules" "[LJoinBench$Rule;") (by decide +kernel)
  have hL160 := hts (.fieldLink RX3 160 "JoinBench$Rule" "beginningSize" "I") (by decide +kernel)
  have hL45 := hts (.fieldLink RX3 45 "JoinBench$Lattice" "barred" "[Z") (by decide +kernel)
  have hL137 := hts (.fieldLink RX3 137 "JoinBench$Form" "kind" "I") (by decide +kernel)
  have hL36 := hts (.fieldLink RX3 36 "JoinBench$Lattice" "ruledWays" "[[J") (by decide +kernel)
  have hL24 := hts (.fieldLink RX3 24 "JoinBench$Lattice" "ways" "[J") (by decide +kernel)
  have hL39 := hts (.fieldLink RX3 39 "JoinBench$Lattice" "ruledCheapest" "[[I") (by decide +kernel)
  have hL11 := hts (.fieldLink RX3 11 "JoinBench$Lattice" "cheapest" "[[I") (by decide +kernel)
  have hinX2 : ∀ w ∈ u_ws RX2 TX2 8, w ∈ wsX3_gatherBehindRule := by decide +kernel
  have hinX3 : ∀ w ∈ u_ws RX3 TX3 11, w ∈ wsX3_gatherBehindRule := by decide +kernel
  have hinX7 : ∀ w ∈ u_ws RX7 TX7 9, w ∈ wsX3_gatherBehindRule := by decide +kernel
  have hinX9 : ∀ w ∈ u_ws RX9 TX9 5, w ∈ wsX3_gatherBehindRule := by decide +kernel
  obtain ⟨H, hH⟩ : ∃ H : Heap, H = s.heap := ⟨_, rfl⟩
  have hS : va_S A s.heap H [] := by rw [hH]; exact va_S.rf
  have hF : kfm X [235, 236] Hp H := by rw [hH, hHp]; exact fm_rf _ _ _
  rw [← hH] at hI ⊢
  clear hH
  have hl := lv_entry ([.ref a0, .int (kz pl1), .ref fm, .int (kz ru)]) (n := 7) (Nat.le_of_ble_eq_true rfl)
  rw [lg_entry_eq]
  generalize (lg_sl ([.ref a0, .int (kz pl1), .ref fm, .int (kz ru)]) ++ List.replicate (7 - (lg_sl ([.ref a0, .int (kz pl1), .ref fm, .int (kz ru)])).length) Slot.unset).toArray = ls at hl ⊢
  have hl : lv_has ls 7 [(0, .ref a0), (1, .int (kz pl1)), (2, .ref fm), (3, .int (kz ru))] := hl
  refine lv_aload_n hx hb dX3_gatherBehindRule_0 rfl (lv_at hl 2 rfl) ?_
  obtain ⟨fs9, co_1, jo9⟩ := jv_o2 hI g_fm
  obtain ⟨ln_1, letters_1, kind_1, stem_1, kept_1, cost_1, number_1, ends_1, begins_1, rfl, g_letters_1, ⟨kind_1a, kind_1b⟩, ⟨stem_1a, stem_1b⟩, ⟨kept_1a, kept_1b⟩, ⟨cost_1a, cost_1b⟩, ⟨number_1a, number_1b⟩, ⟨ends_1a, ends_1b⟩, ⟨begins_1a, begins_1b⟩, x_1_0, x_1_1, x_1_2, x_1_3⟩ := jo9
  refine iz_get (D := (dC, dI)) (ci := 2) (v := .int (kz number_1)) (C := RX2) (T := TX2) (N := 8) hx hb hts hinX2 hown hK co_1 rfl 5 (by decide) hL96 (fun _ h9 => h9) rfl dX3_gatherBehindRule_1 ?_
  refine lv_iconst (v := kz 4) hx hb dX3_gatherBehindRule_4 rfl ?_
  refine iz_imul hx hb dX3_gatherBehindRule_5 ?_
  refine lv_aload_n hx hb dX3_gatherBehindRule_6 rfl (lv_at hl 0 rfl) ?_
  obtain ⟨fs9, co_2, jo9⟩ := jv_o3 hI g_a0
  obtain ⟨cheapest_2, size_2, tongue_2, line_2, ways_2, plainWays_2, plainCheapest_2, ruledWays_2, ruledCheapest_2, inForce_2, barred_2, rfl, g_cheapest_2, ⟨size_2a, size_2b⟩, g_tongue_2, g_line_2, g_ways_2, g_plainWays_2, g_plainCheapest_2, g_ruledWays_2, g_ruledCheapest_2, ⟨inForce_2a, inForce_2b⟩, g_barred_2⟩ := jo9
  refine iz_get (D := (dC, dI)) (ci := 3) (v := .ref tongue_2) (C := RX3) (T := TX3) (N := 11) hx hb hts hinX3 hown hK co_2 rfl 2 (by decide) hL49 (fun _ h9 => h9) rfl dX3_gatherBehindRule_7 ?_
  obtain ⟨fs9, co_3, jo9⟩ := jv_o9 hI g_tongue_2
  obtain ⟨forms_3, rules_3, formCount_3, ruleCount_3, forbidden_3, rfl, g_forms_3, g_rules_3, ⟨formCount_3a, formCount_3b⟩, ⟨ruleCount_3a, ruleCount_3b⟩, g_forbidden_3, x_3_0, x_3_1, x_3_2⟩ := jo9
  refine iz_get (D := (dC, dI)) (ci := 9) (v := .ref rules_3) (C := RX9) (T := TX9) (N := 5) hx hb hts hinX9 hown hK co_3 rfl 1 (by decide) hL129 (fun _ h9 => h9) rfl dX3_gatherBehindRule_10 ?_
  refine lv_iload_n hx hb dX3_gatherBehindRule_13 rfl (lv_at hl 3 rfl) ?_
  obtain ⟨f_4, c_f_4, k_f_4⟩ := jv_q29 hI g_rules_3
  refine jz_aald hx hb hK 5 c_f_4 rfl rfl (by omega) (by decide) dX3_gatherBehindRule_14 ?_
  obtain ⟨b_5, eb_5⟩ : ∃ b9 : Nat, f_4 (Int.toNat ru) = some b9 := Option.ne_none_iff_exists'.mp ((k_f_4 (Int.toNat ru) (by omega)).2 (by omega))
  have g_b_5 := (k_f_4 (Int.toNat ru) (by omega)).1 b_5 eb_5
  rw [eb_5]
  refine W.eq (g2 := F0 m 15 ls [.ref b_5, .int (kz (number_1 * 4))]) rfl ?_
  obtain ⟨fs9, co_6, jo9⟩ := jv_o7 hI g_b_5
  obtain ⟨ln_6, letters_6, endSize_6, beginningSize_6, comesFrom_6, comesSize_6, cost_6, firstDay_6, lastDay_6, number_6, rfl, g_letters_6, ⟨endSize_6a, endSize_6b⟩, ⟨beginningSize_6a, beginningSize_6b⟩, ⟨comesFrom_6a, comesFrom_6b⟩, ⟨comesSize_6a, comesSize_6b⟩, ⟨cost_6a, cost_6b⟩, ⟨firstDay_6a, firstDay_6b⟩, ⟨lastDay_6a, lastDay_6b⟩, ⟨number_6a, number_6b⟩, x_6_0, x_6_1, x_6_2, x_6_3, x_6_4, x_6_5⟩ := jo9
  refine iz_get (D := (dC, dI)) (ci := 7) (v := .int (kz beginningSize_6)) (C := RX7) (T := TX7) (N := 9) hx hb hts hinX7 hown hK co_6 rfl 2 (by decide) hL160 (fun _ h9 => h9) rfl dX3_gatherBehindRule_15 ?_
  refine iz_iadd hx hb dX3_gatherBehindRule_18 ?_
  obtain ⟨z_7, ez_7⟩ : ∃ z9 : Int, z9 = ((number_1 * 4) + beginningSize_6) := ⟨_, rfl⟩
  rw [← ez_7]
  refine lv_istore (lv' := [(4, .int (kz z_7)), (0, .ref a0), (1, .int (kz pl1)), (2, .ref fm), (3, .int (kz ru))]) hx hb dX3_gatherBehindRule_19 hl (by decide) rfl (fun ls hl => ?_)
  refine lv_iconst (v := kz 0) hx hb dX3_gatherBehindRule_21 rfl ?_
  refine lv_istore (lv' := [(5, .int (kz 0)), (4, .int (kz z_7)), (0, .ref a0), (1, .int (kz pl1)), (2, .ref fm), (3, .int (kz ru))]) hx hb dX3_gatherBehindRule_22 hl (by decide) rfl (fun ls hl => ?_)
  refine iz_loopA1 (α := Unit) (P := fun N9 _u9 k H locs ls => (0 ≤ k) ∧ (k ≤ 6) ∧ 6 - k ≤ (N9 : Int) ∧ lv_has ls 7 [(5, .int (kz k)), (4, .int (kz z_7)), (0, .ref a0), (1, .int (kz pl1)), (2, .ref fm), (3, .int (kz ru))] ∧ jv (dC, dI) ca A X H ∧ va_S A s.heap H locs ∧ kfm X [235, 236] Hp H) 100000 () (x0 := 0) ?_ ⟨by omega, by omega, by omega, lv_sub hl [0, 1, 2, 3, 4, 5] rfl, hI, hS, hF⟩
  intro n_8 _u9 k H locs ls ⟨n_8f0, n_8f1, n_8f2, hl, hI, hS, hF⟩ ihn_8
  refine lv_iload hx hb dX3_gatherBehindRule_24 (lv_at hl 0 rfl) ?_
  refine lv_bipush (v := kz 6) hx hb dX3_gatherBehindRule_26 (by decide) ?_
  refine iz_ge (tgt := 123) hx hb dX3_gatherBehindRule_28 (by decide) (by unfold rg2; omega) (fun br_9 => ?_) (fun br_9 => ?_)
  · exact W.vret hx hb hr (fun t9 ht hW => ⟨⟨(), rfl, trivial, jK_warm hW ⟨hK, hN⟩, by rw [ht]; exact ⟨hI, hF⟩⟩, hS.F ht⟩) hS.2.2 dX3_gatherBehindRule_123
  · refine lv_iload_n hx hb dX3_gatherBehindRule_31 rfl (lv_at hl 5 rfl) ?_
    refine lv_bipush (v := kz 6) hx hb dX3_gatherBehindRule_32 (by decide) ?_
    refine iz_imul hx hb dX3_gatherBehindRule_34 ?_
    refine lv_iload hx hb dX3_gatherBehindRule_35 (lv_at hl 0 rfl) ?_
    refine iz_iadd hx hb dX3_gatherBehindRule_37 ?_
    refine lv_istore (lv' := [(6, .int (kz ((ru * 6) + k))), (5, .int (kz k)), (4, .int (kz z_7)), (0, .ref a0), (1, .int (kz pl1)), (2, .ref fm), (3, .int (kz ru))]) hx hb dX3_gatherBehindRule_38 hl (by decide) rfl (fun ls hl => ?_)
    refine lv_aload_n hx hb dX3_gatherBehindRule_40 rfl (lv_at hl 3 rfl) ?_
    obtain ⟨fs9, co_10, jo9⟩ := jv_o3 hI g_a0
    obtain ⟨cheapest_10, size_10, tongue_10, line_10, ways_10, plainWays_10, plainCheapest_10, ruledWays_10, ruledCheapest_10, inForce_10, barred_10, rfl, g_cheapest_10, ⟨size_10a, size_10b⟩, g_tongue_10, g_line_10, g_ways_10, g_plainWays_10, g_plainCheapest_10, g_ruledWays_10, g_ruledCheapest_10, ⟨inForce_10a, inForce_10b⟩, g_barred_10⟩ := jo9
    have e9 : cheapest_2 = cheapest_10 := jU_eq hU g_cheapest_2 g_cheapest_10 (show (27 : Nat) ≠ 0 by decide) (show uq 219 = true by decide)
    subst e9
    have e9 : tongue_2 = tongue_10 := jU_eq hU g_tongue_2 g_tongue_10 (show (30 : Nat) ≠ 0 by decide) (show uq 9 = true by decide)
    subst e9
    have e9 : line_2 = line_10 := jU_eq hU g_line_2 g_line_10 (show (21 : Nat) ≠ 0 by decide) (show uq 204 = true by decide)
    subst e9
    have e9 : ways_2 = ways_10 := jU_eq hU g_ways_2 g_ways_10 (show (23 : Nat) ≠ 0 by decide) (show uq 220 = true by decide)
    subst e9
    have e9 : plainWays_2 = plainWays_10 := jU_eq hU g_plainWays_2 g_plainWays_10 (show (28 : Nat) ≠ 0 by decide) (show uq 221 = true by decide)
    subst e9
    have e9 : plainCheapest_2 = plainCheapest_10 := jU_eq hU g_plainCheapest_2 g_plainCheapest_10 (show (27 : Nat) ≠ 0 by decide) (show uq 222 = true by decide)
    subst e9
    have e9 : ruledWays_2 = ruledWays_10 := jU_eq hU g_ruledWays_2 g_ruledWays_10 (show (28 : Nat) ≠ 0 by decide) (show uq 223 = true by decide)
    subst e9
    have e9 : ruledCheapest_2 = ruledCheapest_10 := jU_eq hU g_ruledCheapest_2 g_ruledCheapest_10 (show (27 : Nat) ≠ 0 by decide) (show uq 224 = true by decide)
    subst e9
    have e9 : barred_2 = barred_10 := jU_eq hU g_barred_2 g_barred_10 (show (22 : Nat) ≠ 0 by decide) (show uq 225 = true by decide)
    subst e9
    refine iz_get (D := (dC, dI)) (ci := 3) (v := .ref barred_2) (C := RX3) (T := TX3) (N := 11) hx hb hts hinX3 hown hK co_10 rfl 10 (by decide) hL45 (fun _ h9 => h9) rfl dX3_gatherBehindRule_41 ?_
    refine lv_iload hx hb dX3_gatherBehindRule_44 (lv_at hl 1 rfl) ?_
    refine lv_bipush (v := kz 6) hx hb dX3_gatherBehindRule_46 (by decide) ?_
    refine iz_imul hx hb dX3_gatherBehindRule_48 ?_
    refine lv_aload_n hx hb dX3_gatherBehindRule_49 rfl (lv_at hl 5 rfl) ?_
    obtain ⟨fs9, co_11, jo9⟩ := jv_o2 hI g_fm
    obtain ⟨ln_11, letters_11, kind_11, stem_11, kept_11, cost_11, number_11, ends_11, begins_11, rfl, g_letters_11, ⟨kind_11a, kind_11b⟩, ⟨stem_11a, stem_11b⟩, ⟨kept_11a, kept_11b⟩, ⟨cost_11a, cost_11b⟩, ⟨number_11a, number_11b⟩, ⟨ends_11a, ends_11b⟩, ⟨begins_11a, begins_11b⟩, x_11_0, x_11_1, x_11_2, x_11_3⟩ := jo9
    refine iz_get (D := (dC, dI)) (ci := 2) (v := .int (kz kind_11)) (C := RX2) (T := TX2) (N := 8) hx hb hts hinX2 hown hK co_11 rfl 1 (by decide) hL137 (fun _ h9 => h9) rfl dX3_gatherBehindRule_50 ?_
    refine iz_iadd hx hb dX3_gatherBehindRule_53 ?_
    obtain ⟨f_12, c_f_12⟩ := iv_o22 (jv_iv hI) g_barred_10
    refine iz_zald hx hb hK 2 c_f_12 rfl (by omega) (by decide) dX3_gatherBehindRule_54 ?_
    have v_13a := kz_lo (f_12 (Int.toNat ((k * 6) + kind_11)))
    have v_13b := kz_hi (f_12 (Int.toNat ((k * 6) + kind_11)))
    change _ ≤ ge1 f_12 ((k * 6) + kind_11) at v_13a
    change ge1 f_12 ((k * 6) + kind_11) ≤ _ at v_13b
    obtain ⟨v_13, ev_13⟩ : ∃ z9 : Int, ge1 f_12 ((k * 6) + kind_11) = z9 := ⟨_, rfl⟩
    rw [ev_13] at v_13a v_13b ⊢
    refine iz_nez (tgt := 117) hx hb dX3_gatherBehindRule_55 (by decide) (by unfold rg2; omega) (fun br_14 => ?_) (fun br_14 => ?_)
    · refine lv_iinc (v := kz (k + 1)) (lv' := [(5, .int (kz (k + 1))), (6, .int (kz ((ru * 6) + k))), (4, .int (kz z_7)), (0, .ref a0), (1, .int (kz pl1)), (2, .ref fm), (3, .int (kz ru))]) hx hb dX3_gatherBehindRule_117 hl (k := 1) rfl (kz_add k 1) (by decide) rfl (fun ls hl => ?_)
      refine lv_goto (tgt := 24) hx hb dX3_gatherBehindRule_120 (by decide) ?_
      exact ihn_8 (n_8 - 1) (by omega) () (k + 1) _ _ _ ⟨by omega, by omega, by omega, lv_sub hl [0, 2, 3, 4, 5, 6] rfl, hI, hS, hF⟩
    · refine lv_aload_n hx hb dX3_gatherBehindRule_58 rfl (lv_at hl 3 rfl) ?_
      refine iz_get (D := (dC, dI)) (ci := 3) (v := .ref ruledWays_2) (C := RX3) (T := TX3) (N := 11) hx hb hts hinX3 hown hK co_10 rfl 7 (by decide) hL36 (fun _ h9 => h9) rfl dX3_gatherBehindRule_59 ?_
      refine lv_iload_n hx hb dX3_gatherBehindRule_62 rfl (lv_at hl 4 rfl) ?_
      obtain ⟨f_15, c_f_15, k_f_15⟩ := jv_q28 hI g_ruledWays_10
      refine jz_aald hx hb hK 8 c_f_15 rfl rfl (by omega) (by decide) dX3_gatherBehindRule_63 ?_
      obtain ⟨b_16, eb_16, g_b_16⟩ := k_f_15 (Int.toNat pl1) (by omega)
      rw [eb_16]
      have g_b_16 : X.1 b_16 = (235, 23, 144, 0, 0) := g_b_16
      refine W.eq (g2 := F0 m 64 ls [.ref b_16]) rfl ?_
      refine lv_iload hx hb dX3_gatherBehindRule_64 (lv_at hl 0 rfl) ?_
      refine lv_aload_n hx hb dX3_gatherBehindRule_66 rfl (lv_at hl 3 rfl) ?_
      refine iz_get (D := (dC, dI)) (ci := 3) (v := .ref ruledWays_2) (C := RX3) (T := TX3) (N := 11) hx hb hts hinX3 hown hK co_10 rfl 7 (by decide) hL36 (fun _ h9 => h9) rfl dX3_gatherBehindRule_67 ?_
      refine lv_iload_n hx hb dX3_gatherBehindRule_70 rfl (lv_at hl 4 rfl) ?_
      refine jz_aald hx hb hK 8 c_f_15 rfl rfl (by omega) (by decide) dX3_gatherBehindRule_71 ?_
      rw [eb_16]
      refine W.eq (g2 := F0 m 72 ls [.ref b_16, .int (kz ((ru * 6) + k)), .ref b_16]) rfl ?_
      refine lv_iload hx hb dX3_gatherBehindRule_72 (lv_at hl 0 rfl) ?_
      obtain ⟨f_18, c_f_18⟩ := iv_o23 (jv_iv hI) g_b_16
      refine iz_lald hx hb hK 3 c_f_18 rfl (by omega) (by decide) dX3_gatherBehindRule_74 ?_
      refine lv_topl (fun y_19 ey_19 => ?_)
      refine lv_aload_n hx hb dX3_gatherBehindRule_75 rfl (lv_at hl 3 rfl) ?_
      refine iz_get (D := (dC, dI)) (ci := 3) (v := .ref ways_2) (C := RX3) (T := TX3) (N := 11) hx hb hts hinX3 hown hK co_10 rfl 4 (by decide) hL24 (fun _ h9 => h9) rfl dX3_gatherBehindRule_76 ?_
      refine lv_iload hx hb dX3_gatherBehindRule_79 (lv_at hl 2 rfl) ?_
      obtain ⟨f_20, c_f_20⟩ := iv_o23 (jv_iv hI) g_ways_10
      refine iz_lald hx hb hK 3 c_f_20 rfl (by omega) (by decide) dX3_gatherBehindRule_81 ?_
      refine lv_topl (fun y_21 ey_21 => ?_)
      refine lv_ladd hx hb dX3_gatherBehindRule_82 ?_
      refine lv_topl (fun y_22 ey_22 => ?_)
      refine vp_callSl (va_Run.run (va_runSN (As := [.long y_22]) (rest := [.int (kz ((ru * 6) + k)), .ref b_16]) ⟨hx, hb, hml, hown, hts⟩ (c_capped l y_22) ⟨va_cnB 1 hts gX3_gatherBehindRule_X11_capped_n92 rfl rfl rfl (jN_X3_92 hN) (hts (.initialized RX11) (by decide +kernel)) (by decide +kernel) ⟨Nat.le_of_ble_eq_true rfl, Nat.le_of_ble_eq_true rfl⟩, hts (.static yX11_capped) (by decide +kernel), trivial⟩ ⟨fun a U g mk q => q, fun U hU hW => ⟨rfl, trivial⟩⟩ rfl rfl hl.1 rfl (lv_room (Nat.le_of_ble_eq_true rfl)) dX3_gatherBehindRule_83 ⟨Nat.le_of_ble_eq_true rfl, Nat.le_of_ble_eq_true rfl⟩)) (fun r_24 hw_23 => ?_)
      refine iz_last hx hb hK 3 c_f_18 hS (jv_A hI g_b_16 (show (23 : Nat) ≠ 0 by decide)) rfl (by omega) (by decide) dX3_gatherBehindRule_86 (fun H locs c9 oq hS => ?_)
      have hI := jv_s23 hI g_b_16 c9 oq
      have hF := fm_put hF g_b_16 (show (235 : Nat) ∈ [235, 236] by decide) oq
      have c_f_12 := c_f_12.kept (oq _ (kn_ne g_barred_10 g_b_16 (show (225 : Nat) ≠ 235 by decide)))
      have c_f_15 := c_f_15.kept (oq _ (kn_ne g_ruledWays_10 g_b_16 (show (223 : Nat) ≠ 235 by decide)))
      have c_f_20 := c_f_20.kept (oq _ (kn_ne g_ways_10 g_b_16 (show (220 : Nat) ≠ 235 by decide)))
      have co_10 := co_10.kept (oq _ (kn_ne g_a0 g_b_16 (show (3 : Nat) ≠ 235 by decide)))
      have co_11 := co_11.kept (oq _ (kn_ne g_fm g_b_16 (show (2 : Nat) ≠ 235 by decide)))
      clear oq c9
      refine lv_aload_n hx hb dX3_gatherBehindRule_87 rfl (lv_at hl 3 rfl) ?_
      refine iz_get (D := (dC, dI)) (ci := 3) (v := .ref ruledCheapest_2) (C := RX3) (T := TX3) (N := 11) hx hb hts hinX3 hown hK co_10 rfl 8 (by decide) hL39 (fun _ h9 => h9) rfl dX3_gatherBehindRule_88 ?_
      refine lv_iload_n hx hb dX3_gatherBehindRule_91 rfl (lv_at hl 4 rfl) ?_
      obtain ⟨f_25, c_f_25, k_f_25⟩ := jv_q27 hI g_ruledCheapest_10
      refine jz_aald hx hb hK 7 c_f_25 rfl rfl (by omega) (by decide) dX3_gatherBehindRule_92 ?_
      obtain ⟨b_26, eb_26, g_b_26⟩ := k_f_25 (Int.toNat pl1) (by omega)
      rw [eb_26]
      have g_b_26 : X.1 b_26 = (236, 20, 144, -2147483648, 2147483647) := g_b_26
      refine W.eq (g2 := F0 m 93 ls [.ref b_26]) rfl ?_
      refine lv_iload hx hb dX3_gatherBehindRule_93 (lv_at hl 0 rfl) ?_
      refine lv_aload_n hx hb dX3_gatherBehindRule_95 rfl (lv_at hl 3 rfl) ?_
      refine iz_get (D := (dC, dI)) (ci := 3) (v := .ref ruledCheapest_2) (C := RX3) (T := TX3) (N := 11) hx hb hts hinX3 hown hK co_10 rfl 8 (by decide) hL39 (fun _ h9 => h9) rfl dX3_gatherBehindRule_96 ?_
      refine lv_iload_n hx hb dX3_gatherBehindRule_99 rfl (lv_at hl 4 rfl) ?_
      refine jz_aald hx hb hK 7 c_f_25 rfl rfl (by omega) (by decide) dX3_gatherBehindRule_100 ?_
      rw [eb_26]
      refine W.eq (g2 := F0 m 101 ls [.ref b_26, .int (kz ((ru * 6) + k)), .ref b_26]) rfl ?_
      refine lv_iload hx hb dX3_gatherBehindRule_101 (lv_at hl 0 rfl) ?_
      obtain ⟨f_28, c_f_28, k_f_28⟩ := iv_o20 (jv_iv hI) g_b_26
      refine iz_iald hx hb hK 0 c_f_28 rfl (by omega) (by decide) dX3_gatherBehindRule_103 ?_
      obtain ⟨v_29a, v_29b, -⟩ := k_f_28 ((ru * 6) + k) (by omega)
      obtain ⟨v_29, ev_29⟩ : ∃ z9 : Int, ge1 f_28 ((ru * 6) + k) = z9 := ⟨_, rfl⟩
      rw [ev_29] at v_29a v_29b ⊢
      refine lv_aload_n hx hb dX3_gatherBehindRule_104 rfl (lv_at hl 3 rfl) ?_
      refine iz_get (D := (dC, dI)) (ci := 3) (v := .ref cheapest_2) (C := RX3) (T := TX3) (N := 11) hx hb hts hinX3 hown hK co_10 rfl 0 (by decide) hL11 (fun _ h9 => h9) rfl dX3_gatherBehindRule_105 ?_
      refine lv_iload_n hx hb dX3_gatherBehindRule_108 rfl (lv_at hl 4 rfl) ?_
      obtain ⟨f_30, c_f_30, k_f_30⟩ := jv_q27 hI g_cheapest_10
      refine jz_aald hx hb hK 7 c_f_30 rfl rfl (by omega) (by decide) dX3_gatherBehindRule_109 ?_
      obtain ⟨b_31, eb_31, g_b_31⟩ := k_f_30 (Int.toNat pl1) (by omega)
      rw [eb_31]
      have g_b_31 : X.1 b_31 = (232, 20, 160, -2147483648, 2147483647) := g_b_31
      refine W.eq (g2 := F0 m 110 ls [.ref b_31, .int (kz v_29), .int (kz ((ru * 6) + k)), .ref b_26]) rfl ?_
      refine lv_iload hx hb dX3_gatherBehindRule_110 (lv_at hl 2 rfl) ?_
      obtain ⟨f_32, c_f_32, k_f_32⟩ := iv_o20 (jv_iv hI) g_b_31
      refine iz_iald hx hb hK 0 c_f_32 rfl (by omega) (by decide) dX3_gatherBehindRule_112 ?_
      obtain ⟨v_33a, v_33b, -⟩ := k_f_32 z_7 (by omega)
      obtain ⟨v_33, ev_33⟩ : ∃ z9 : Int, ge1 f_32 z_7 = z9 := ⟨_, rfl⟩
      rw [ev_33] at v_33a v_33b ⊢
      refine va_mmin hx hb (by rw [hml]; exact hl.1.symm) hown (hts (.methodLink RX3 53 Lib.Math.min.name) (by decide +kernel)) (hts (.static Lib.Math.min.name) (by decide +kernel)) (hts (.initialized "java/lang/Math") (by decide +kernel)) (hts (.code Lib.Math.min.name Lib.Math.min.code 2 (some .int)) (by decide +kernel)) (Nat.le_of_ble_eq_true rfl) (Nat.le_of_ble_eq_true rfl) (Nat.zero_le _) (Nat.zero_le _) dX3_gatherBehindRule_113 ?_
      refine iz_any (fun z_34 z_34a z_34b z_34e => ?_)
      refine iz_any (fun z_35 z_35a z_35b z_35e => ?_)
      refine iz_iast hx hb hK 0 c_f_28 hS (jv_A hI g_b_26 (show (20 : Nat) ≠ 0 by decide)) rfl (by omega) (by decide) dX3_gatherBehindRule_116 (fun H locs c9 oq hS => ?_)
      have hI := jv_s20 hI g_b_26 k_f_28 c9 oq (by omega) (by omega) (by decide)
      have hF := fm_put hF g_b_26 (show (236 : Nat) ∈ [235, 236] by decide) oq
      have c_f_12 := c_f_12.kept (oq _ (kn_ne g_barred_10 g_b_26 (show (225 : Nat) ≠ 236 by decide)))
      have c_f_15 := c_f_15.kept (oq _ (kn_ne g_ruledWays_10 g_b_26 (show (223 : Nat) ≠ 236 by decide)))
      have c_f_20 := c_f_20.kept (oq _ (kn_ne g_ways_10 g_b_26 (show (220 : Nat) ≠ 236 by decide)))
      have c_f_25 := c_f_25.kept (oq _ (kn_ne g_ruledCheapest_10 g_b_26 (show (224 : Nat) ≠ 236 by decide)))
      have c_f_30 := c_f_30.kept (oq _ (kn_ne g_cheapest_10 g_b_26 (show (219 : Nat) ≠ 236 by decide)))
      have c_f_32 := c_f_32.kept (oq _ (kn_ne g_b_31 g_b_26 (show (232 : Nat) ≠ 236 by decide)))
      have co_10 := co_10.kept (oq _ (kn_ne g_a0 g_b_26 (show (3 : Nat) ≠ 236 by decide)))
      have co_11 := co_11.kept (oq _ (kn_ne g_fm g_b_26 (show (2 : Nat) ≠ 236 by decide)))
      clear oq c9
      refine lv_iinc (v := kz (k + 1)) (lv' := [(5, .int (kz (k + 1))), (6, .int (kz ((ru * 6) + k))), (4, .int (kz z_7)), (0, .ref a0), (1, .int (kz pl1)), (2, .ref fm), (3, .int (kz ru))]) hx hb dX3_gatherBehindRule_117 hl (k := 1) rfl (kz_add k 1) (by decide) rfl (fun ls hl => ?_)
      refine lv_goto (tgt := 24) hx hb dX3_gatherBehindRule_120 (by decide) ?_
      exact ihn_8 (n_8 - 1) (by omega) () (k + 1) _ _ _ ⟨by omega, by omega, by omega, lv_sub hl [0, 2, 3, 4, 5, 6] rfl, hI, hS, hF⟩
set_option maxHeartbeats 4000000 in
set_option maxRecDepth 100000 in
/-- X3_gatherPlain -/
theorem c_gatherPlain (l : Launch) (dC : Nat → ClassId) (dI : Nat → Nat → Nat) (ca : Nat → ClassId) (A : Nat → Prop) (X : jG) (hU : jU X) (Hp : Heap) (a0 : Nat) (pl1 : Int) (fm : Nat) (g_a0 : X.1 a0 = (3, 30, 0, 0, 0)) (g_fm : X.1 fm = (2, 30, 0, 0, 0)) (pl1i : 0 ≤ pl1 ∧ pl1 ≤ 39) : Met l yX3_gatherPlain wsX3_gatherPlain ({ frames := 2, cells := 0, slots := 0, locals := 36 }) (va_Pc [.ref a0, .int (kz pl1), .ref fm] (fun U => U.heap = Hp ∧ jK (dC, dI) ca U ∧ jv (dC, dI) ca A X U.heap)) (va_Qv (fun (u : Unit) => True) (fun u U => jK (dC, dI) ca U ∧ jv (dC, dI) ca A X U.heap ∧ kfm X [233, 234] Hp U.heap) A) 0 0 A := by
  refine Met.ofW (cc := cX3_gatherPlain) (maxL := 5) (ret := none) (by decide) rfl ?_
  intro p e s m args below meth c s₁ B hml hv
  obtain ⟨rfl, hHp, ⟨hK, hN⟩, hI⟩ := hv
  have hx := B.exec
  have hb := B.bytes
  have hr := B.returns
  have hts := atoms_spec (ws := wsX3_gatherPlain) B.pre
  have hown : s.vm.findClass RX3 = some m.cls := findClass_of_methodNamed B.named
  have hL96 := hts (.fieldLink RX3 96 "JoinBench$Form" "number" "I") (by decide +kernel)
  have hL49 := hts (.fieldLink RX3 49 "JoinBench$Lattice" "tongue" "LJoinBench$Tongue;") (by decide +kernel)
  have hL78 := hts (.fieldLink RX3 78 "JoinBench$Tongue" "formCount" "I") (by decide +kernel)
  have hL81 := hts (.fieldLink RX3 81 "JoinBench$Tongue" "forms" "[LJoinBench$Form;") (by decide +kernel)
  have hL30 := hts (.fieldLink RX3 30 "JoinBench$Lattice" "plainWays" "[[J") (by decide +kernel)
  have hL24 := hts (.fieldLink RX3 24 "JoinBench$Lattice" "ways" "[J") (by decide +kernel)
  have hL33 := hts (.fieldLink RX3 33 "JoinBench$Lattice" "plainCheapest" "[[I") (by decide +kernel)
  have hL11 := hts (.fieldLink RX3 11 "JoinBench$Lattice" "cheapest" "[[I") (by decide +kernel)
  have hinX2 : ∀ w ∈ u_ws RX2 TX2 8, w ∈ wsX3_gatherPlain := by decide +kernel
  have hinX3 : ∀ w ∈ u_ws RX3 TX3 11, w ∈ wsX3_gatherPlain := by decide +kernel
  have hinX9 : ∀ w ∈ u_ws RX9 TX9 5, w ∈ wsX3_gatherPlain := by decide +kernel
  obtain ⟨H, hH⟩ : ∃ H : Heap, H = s.heap := ⟨_, rfl⟩
  have hS : va_S A s.heap H [] := by rw [hH]; exact va_S.rf
  have hF : kfm X [233, 234] Hp H := by rw [hH, hHp]; exact fm_rf _ _ _
  rw [← hH] at hI ⊢
  clear hH
  have hl := lv_entry ([.ref a0, .int (kz pl1), .ref fm]) (n := 5) (Nat.le_of_ble_eq_true rfl)
  rw [lg_entry_eq]
  generalize (lg_sl ([.ref a0, .int (kz pl1), .ref fm]) ++ List.replicate (5 - (lg_sl ([.ref a0, .int (kz pl1), .ref fm])).length) Slot.unset).toArray = ls at hl ⊢
  have hl : lv_has ls 5 [(0, .ref a0), (1, .int (kz pl1)), (2, .ref fm)] := hl
  refine lv_aload_n hx hb dX3_gatherPlain_0 rfl (lv_at hl 2 rfl) ?_
  obtain ⟨fs9, co_1, jo9⟩ := jv_o2 hI g_fm
  obtain ⟨ln_1, letters_1, kind_1, stem_1, kept_1, cost_1, number_1, ends_1, begins_1, rfl, g_letters_1, ⟨kind_1a, kind_1b⟩, ⟨stem_1a, stem_1b⟩, ⟨kept_1a, kept_1b⟩, ⟨cost_1a, cost_1b⟩, ⟨number_1a, number_1b⟩, ⟨ends_1a, ends_1b⟩, ⟨begins_1a, begins_1b⟩, x_1_0, x_1_1, x_1_2, x_1_3⟩ := jo9
  refine iz_get (D := (dC, dI)) (ci := 2) (v := .int (kz number_1)) (C := RX2) (T := TX2) (N := 8) hx hb hts hinX2 hown hK co_1 rfl 5 (by decide) hL96 (fun _ h9 => h9) rfl dX3_gatherPlain_1 ?_
  refine lv_iconst (v := kz 4) hx hb dX3_gatherPlain_4 rfl ?_
  refine iz_imul hx hb dX3_gatherPlain_5 ?_
  refine lv_istore_n (lv' := [(3, .int (kz (number_1 * 4))), (0, .ref a0), (1, .int (kz pl1)), (2, .ref fm)]) hx hb dX3_gatherPlain_6 rfl hl (by decide) rfl (fun ls hl => ?_)
  refine lv_iconst (v := kz 0) hx hb dX3_gatherPlain_7 rfl ?_
  refine lv_istore (lv' := [(4, .int (kz 0)), (3, .int (kz (number_1 * 4))), (0, .ref a0), (1, .int (kz pl1)), (2, .ref fm)]) hx hb dX3_gatherPlain_8 hl (by decide) rfl (fun ls hl => ?_)
  refine iz_loopA1 (α := Unit) (P := fun N9 _u9 k H locs ls => (0 ≤ k) ∧ (k ≤ 40) ∧ 40 - k ≤ (N9 : Int) ∧ lv_has ls 5 [(4, .int (kz k)), (3, .int (kz (number_1 * 4))), (0, .ref a0), (1, .int (kz pl1)), (2, .ref fm)] ∧ jv (dC, dI) ca A X H ∧ va_S A s.heap H locs ∧ kfm X [233, 234] Hp H) 100000 () (x0 := 0) ?_ ⟨by omega, by omega, by omega, lv_sub hl [0, 1, 2, 3, 4] rfl, hI, hS, hF⟩
  intro n_2 _u9 k H locs ls ⟨n_2f0, n_2f1, n_2f2, hl, hI, hS, hF⟩ ihn_2
  refine lv_iload hx hb dX3_gatherPlain_10 (lv_at hl 0 rfl) ?_
  refine lv_aload_n hx hb dX3_gatherPlain_12 rfl (lv_at hl 2 rfl) ?_
  obtain ⟨fs9, co_3, jo9⟩ := jv_o3 hI g_a0
  obtain ⟨cheapest_3, size_3, tongue_3, line_3, ways_3, plainWays_3, plainCheapest_3, ruledWays_3, ruledCheapest_3, inForce_3, barred_3, rfl, g_cheapest_3, ⟨size_3a, size_3b⟩, g_tongue_3, g_line_3, g_ways_3, g_plainWays_3, g_plainCheapest_3, g_ruledWays_3, g_ruledCheapest_3, ⟨inForce_3a, inForce_3b⟩, g_barred_3⟩ := jo9
  refine iz_get (D := (dC, dI)) (ci := 3) (v := .ref tongue_3) (C := RX3) (T := TX3) (N := 11) hx hb hts hinX3 hown hK co_3 rfl 2 (by decide) hL49 (fun _ h9 => h9) rfl dX3_gatherPlain_13 ?_
  obtain ⟨fs9, co_4, jo9⟩ := jv_o9 hI g_tongue_3
  obtain ⟨forms_4, rules_4, formCount_4, ruleCount_4, forbidden_4, rfl, g_forms_4, g_rules_4, ⟨formCount_4a, formCount_4b⟩, ⟨ruleCount_4a, ruleCount_4b⟩, g_forbidden_4, x_4_0, x_4_1, x_4_2⟩ := jo9
  refine iz_get (D := (dC, dI)) (ci := 9) (v := .int (kz formCount_4)) (C := RX9) (T := TX9) (N := 5) hx hb hts hinX9 hown hK co_4 rfl 2 (by decide) hL78 (fun _ h9 => h9) rfl dX3_gatherPlain_16 ?_
  refine iz_ge (tgt := 103) hx hb dX3_gatherPlain_19 (by decide) (by unfold rg2; omega) (fun br_5 => ?_) (fun br_5 => ?_)
  · exact W.vret hx hb hr (fun t9 ht hW => ⟨⟨(), rfl, trivial, jK_warm hW ⟨hK, hN⟩, by rw [ht]; exact ⟨hI, hF⟩⟩, hS.F ht⟩) hS.2.2 dX3_gatherPlain_103
  · refine lv_aload_n hx hb dX3_gatherPlain_22 rfl (lv_at hl 2 rfl) ?_
    refine lv_aload_n hx hb dX3_gatherPlain_23 rfl (lv_at hl 2 rfl) ?_
    refine iz_get (D := (dC, dI)) (ci := 3) (v := .ref tongue_3) (C := RX3) (T := TX3) (N := 11) hx hb hts hinX3 hown hK co_3 rfl 2 (by decide) hL49 (fun _ h9 => h9) rfl dX3_gatherPlain_24 ?_
    refine iz_get (D := (dC, dI)) (ci := 9) (v := .ref forms_4) (C := RX9) (T := TX9) (N := 5) hx hb hts hinX9 hown hK co_4 rfl 0 (by decide) hL81 (fun _ h9 => h9) rfl dX3_gatherPlain_27 ?_
    refine lv_iload hx hb dX3_gatherPlain_30 (lv_at hl 0 rfl) ?_
    obtain ⟨f_6, c_f_6, k_f_6⟩ := jv_q24 hI g_forms_4
    refine jz_aald hx hb hK 4 c_f_6 rfl rfl (by omega) (by decide) dX3_gatherPlain_32 ?_
    obtain ⟨b_7, eb_7⟩ : ∃ b9 : Nat, f_6 (Int.toNat k) = some b9 := Option.ne_none_iff_exists'.mp ((k_f_6 (Int.toNat k) (by omega)).2 (by omega))
    have g_b_7 := (k_f_6 (Int.toNat k) (by omega)).1 b_7 eb_7
    rw [eb_7]
    refine W.eq (g2 := F0 m 33 ls [.ref b_7, .ref a0]) rfl ?_
    refine lv_aload_n hx hb dX3_gatherPlain_33 rfl (lv_at hl 4 rfl) ?_
    refine vp_callSi (va_Run.run (va_runV (As := [.ref b_7, .ref fm]) (rest := []) ⟨hx, hb, hml, hown, hts⟩ (c_canMeetPlain l dC dI ca A X hU a0 b_7 fm g_a0 g_b_7 g_fm) (cwV 2 hts gX3_gatherPlain_X3_canMeetPlain rfl rfl rfl (by decide +kernel) ⟨Nat.le_of_ble_eq_true rfl, Nat.le_of_ble_eq_true rfl⟩) ⟨fun a U g mk q => by obtain ⟨q0, ⟨qK, qN⟩, qI⟩ := q; exact ⟨q0, ⟨va_K.moved (u := U) (U := U.calling g mk a) (Vm.Alike.refl U.vm) qK, jN_same (U := U.calling g mk a) rfl qN⟩, qI⟩, va_recv hK (at_P co_3) (ci := 3) (q0 := 0) rfl rfl, fun U hU hW => ⟨rfl, jK_warm hW ⟨hK, hN⟩, by rw [hU]; exact hI⟩⟩ rfl rfl hl.1 rfl (lv_room (Nat.le_of_ble_eq_true rfl)) dX3_gatherPlain_34 ⟨Nat.le_of_ble_eq_true rfl, Nat.le_of_ble_eq_true rfl⟩)) (fun r_9 hw_8 => ?_)
    rcases hw_8 with rfl | rfl
    · refine iz_eqz (tgt := 97) hx hb dX3_gatherPlain_37 (by decide) (by unfold rg2; omega) (fun q9 => absurd q9 (by decide)) (fun _ => ?_)
      refine lv_aload_n hx hb dX3_gatherPlain_40 rfl (lv_at hl 2 rfl) ?_
      refine iz_get (D := (dC, dI)) (ci := 3) (v := .ref plainWays_3) (C := RX3) (T := TX3) (N := 11) hx hb hts hinX3 hown hK co_3 rfl 5 (by decide) hL30 (fun _ h9 => h9) rfl dX3_gatherPlain_41 ?_
      refine lv_iload_n hx hb dX3_gatherPlain_44 rfl (lv_at hl 3 rfl) ?_
      obtain ⟨f_10, c_f_10, k_f_10⟩ := jv_q28 hI g_plainWays_3
      refine jz_aald hx hb hK 8 c_f_10 rfl rfl (by omega) (by decide) dX3_gatherPlain_45 ?_
      obtain ⟨b_11, eb_11, g_b_11⟩ := k_f_10 (Int.toNat pl1) (by omega)
      rw [eb_11]
      have g_b_11 : X.1 b_11 = (233, 23, 40, 0, 0) := g_b_11
      refine W.eq (g2 := F0 m 46 ls [.ref b_11]) rfl ?_
      refine lv_iload hx hb dX3_gatherPlain_46 (lv_at hl 0 rfl) ?_
      refine lv_aload_n hx hb dX3_gatherPlain_48 rfl (lv_at hl 2 rfl) ?_
      refine iz_get (D := (dC, dI)) (ci := 3) (v := .ref plainWays_3) (C := RX3) (T := TX3) (N := 11) hx hb hts hinX3 hown hK co_3 rfl 5 (by decide) hL30 (fun _ h9 => h9) rfl dX3_gatherPlain_49 ?_
      refine lv_iload_n hx hb dX3_gatherPlain_52 rfl (lv_at hl 3 rfl) ?_
      refine jz_aald hx hb hK 8 c_f_10 rfl rfl (by omega) (by decide) dX3_gatherPlain_53 ?_
      rw [eb_11]
      refine W.eq (g2 := F0 m 54 ls [.ref b_11, .int (kz k), .ref b_11]) rfl ?_
      refine lv_iload hx hb dX3_gatherPlain_54 (lv_at hl 0 rfl) ?_
      obtain ⟨f_13, c_f_13⟩ := iv_o23 (jv_iv hI) g_b_11
      refine iz_lald hx hb hK 3 c_f_13 rfl (by omega) (by decide) dX3_gatherPlain_56 ?_
      refine lv_topl (fun y_14 ey_14 => ?_)
      refine lv_aload_n hx hb dX3_gatherPlain_57 rfl (lv_at hl 2 rfl) ?_
      refine iz_get (D := (dC, dI)) (ci := 3) (v := .ref ways_3) (C := RX3) (T := TX3) (N := 11) hx hb hts hinX3 hown hK co_3 rfl 4 (by decide) hL24 (fun _ h9 => h9) rfl dX3_gatherPlain_58 ?_
      refine lv_iload_n hx hb dX3_gatherPlain_61 rfl (lv_at hl 1 rfl) ?_
      obtain ⟨f_15, c_f_15⟩ := iv_o23 (jv_iv hI) g_ways_3
      refine iz_lald hx hb hK 3 c_f_15 rfl (by omega) (by decide) dX3_gatherPlain_62 ?_
      refine lv_topl (fun y_16 ey_16 => ?_)
      refine lv_ladd hx hb dX3_gatherPlain_63 ?_
      refine lv_topl (fun y_17 ey_17 => ?_)
      refine vp_callSl (va_Run.run (va_runSN (As := [.long y_17]) (rest := [.int (kz k), .ref b_11]) ⟨hx, hb, hml, hown, hts⟩ (c_capped l y_17) ⟨va_cnB 1 hts gX3_gatherPlain_X11_capped_n92 rfl rfl rfl (jN_X3_92 hN) (hts (.initialized RX11) (by decide +kernel)) (by decide +kernel) ⟨Nat.le_of_ble_eq_true rfl, Nat.le_of_ble_eq_true rfl⟩, hts (.static yX11_capped) (by decide +kernel), trivial⟩ ⟨fun a U g mk q => q, fun U hU hW => ⟨rfl, trivial⟩⟩ rfl rfl hl.1 rfl (lv_room (Nat.le_of_ble_eq_true rfl)) dX3_gatherPlain_64 ⟨Nat.le_of_ble_eq_true rfl, Nat.le_of_ble_eq_true rfl⟩)) (fun r_19 hw_18 => ?_)
      refine iz_last hx hb hK 3 c_f_13 hS (jv_A hI g_b_11 (show (23 : Nat) ≠ 0 by decide)) rfl (by omega) (by decide) dX3_gatherPlain_67 (fun H locs c9 oq hS => ?_)
      have hI := jv_s23 hI g_b_11 c9 oq
      have hF := fm_put hF g_b_11 (show (233 : Nat) ∈ [233, 234] by decide) oq
      have c_f_6 := c_f_6.kept (oq _ (kn_ne g_forms_4 g_b_11 (show (212 : Nat) ≠ 233 by decide)))
      have c_f_10 := c_f_10.kept (oq _ (kn_ne g_plainWays_3 g_b_11 (show (221 : Nat) ≠ 233 by decide)))
      have c_f_15 := c_f_15.kept (oq _ (kn_ne g_ways_3 g_b_11 (show (220 : Nat) ≠ 233 by decide)))
      have co_3 := co_3.kept (oq _ (kn_ne g_a0 g_b_11 (show (3 : Nat) ≠ 233 by decide)))
      have co_4 := co_4.kept (oq _ (kn_ne g_tongue_3 g_b_11 (show (9 : Nat) ≠ 233 by decide)))
      clear oq c9
      refine lv_aload_n hx hb dX3_gatherPlain_68 rfl (lv_at hl 2 rfl) ?_
      refine iz_get (D := (dC, dI)) (ci := 3) (v := .ref plainCheapest_3) (C := RX3) (T := TX3) (N := 11) hx hb hts hinX3 hown hK co_3 rfl 6 (by decide) hL33 (fun _ h9 => h9) rfl dX3_gatherPlain_69 ?_
      refine lv_iload_n hx hb dX3_gatherPlain_72 rfl (lv_at hl 3 rfl) ?_
      obtain ⟨f_20, c_f_20, k_f_20⟩ := jv_q27 hI g_plainCheapest_3
      refine jz_aald hx hb hK 7 c_f_20 rfl rfl (by omega) (by decide) dX3_gatherPlain_73 ?_
      obtain ⟨b_21, eb_21, g_b_21⟩ := k_f_20 (Int.toNat pl1) (by omega)
      rw [eb_21]
      have g_b_21 : X.1 b_21 = (234, 20, 40, -2147483648, 2147483647) := g_b_21
      refine W.eq (g2 := F0 m 74 ls [.ref b_21]) rfl ?_
      refine lv_iload hx hb dX3_gatherPlain_74 (lv_at hl 0 rfl) ?_
      refine lv_aload_n hx hb dX3_gatherPlain_76 rfl (lv_at hl 2 rfl) ?_
      refine iz_get (D := (dC, dI)) (ci := 3) (v := .ref plainCheapest_3) (C := RX3) (T := TX3) (N := 11) hx hb hts hinX3 hown hK co_3 rfl 6 (by decide) hL33 (fun _ h9 => h9) rfl dX3_gatherPlain_77 ?_
      refine lv_iload_n hx hb dX3_gatherPlain_80 rfl (lv_at hl 3 rfl) ?_
      refine jz_aald hx hb hK 7 c_f_20 rfl rfl (by omega) (by decide) dX3_gatherPlain_81 ?_
      rw [eb_21]
      refine W.eq (g2 := F0 m 82 ls [.ref b_21, .int (kz k), .ref b_21]) rfl ?_
      refine lv_iload hx hb dX3_gatherPlain_82 (lv_at hl 0 rfl) ?_
      obtain ⟨f_23, c_f_23, k_f_23⟩ := iv_o20 (jv_iv hI) g_b_21
      refine iz_iald hx hb hK 0 c_f_23 rfl (by omega) (by decide) dX3_gatherPlain_84 ?_
      obtain ⟨v_24a, v_24b, -⟩ := k_f_23 k (by omega)
      obtain ⟨v_24, ev_24⟩ : ∃ z9 : Int, ge1 f_23 k = z9 := ⟨_, rfl⟩
      rw [ev_24] at v_24a v_24b ⊢
      refine lv_aload_n hx hb dX3_gatherPlain_85 rfl (lv_at hl 2 rfl) ?_
      refine iz_get (D := (dC, dI)) (ci := 3) (v := .ref cheapest_3) (C := RX3) (T := TX3) (N := 11) hx hb hts hinX3 hown hK co_3 rfl 0 (by decide) hL11 (fun _ h9 => h9) rfl dX3_gatherPlain_86 ?_
      refine lv_iload_n hx hb dX3_gatherPlain_89 rfl (lv_at hl 3 rfl) ?_
      obtain ⟨f_25, c_f_25, k_f_25⟩ := jv_q27 hI g_cheapest_3
      refine jz_aald hx hb hK 7 c_f_25 rfl rfl (by omega) (by decide) dX3_gatherPlain_90 ?_
      obtain ⟨b_26, eb_26, g_b_26⟩ := k_f_25 (Int.toNat pl1) (by omega)
      rw [eb_26]
      have g_b_26 : X.1 b_26 = (232, 20, 160, -2147483648, 2147483647) := g_b_26
      refine W.eq (g2 := F0 m 91 ls [.ref b_26, .int (kz v_24), .int (kz k), .ref b_21]) rfl ?_
      refine lv_iload_n hx hb dX3_gatherPlain_91 rfl (lv_at hl 1 rfl) ?_
      obtain ⟨f_27, c_f_27, k_f_27⟩ := iv_o20 (jv_iv hI) g_b_26
      refine iz_iald hx hb hK 0 c_f_27 rfl (by omega) (by decide) dX3_gatherPlain_92 ?_
      obtain ⟨v_28a, v_28b, -⟩ := k_f_27 (number_1 * 4) (by omega)
      obtain ⟨v_28, ev_28⟩ : ∃ z9 : Int, ge1 f_27 (number_1 * 4) = z9 := ⟨_, rfl⟩
      rw [ev_28] at v_28a v_28b ⊢
      refine va_mmin hx hb (by rw [hml]; exact hl.1.symm) hown (hts (.methodLink RX3 53 Lib.Math.min.name) (by decide +kernel)) (hts (.static Lib.Math.min.name) (by decide +kernel)) (hts (.initialized "java/lang/Math") (by decide +kernel)) (hts (.code Lib.Math.min.name Lib.Math.min.code 2 (some .int)) (by decide +kernel)) (Nat.le_of_ble_eq_true rfl) (Nat.le_of_ble_eq_true rfl) (Nat.zero_le _) (Nat.zero_le _) dX3_gatherPlain_93 ?_
      refine iz_any (fun z_29 z_29a z_29b z_29e => ?_)
      refine iz_any (fun z_30 z_30a z_30b z_30e => ?_)
      refine iz_iast hx hb hK 0 c_f_23 hS (jv_A hI g_b_21 (show (20 : Nat) ≠ 0 by decide)) rfl (by omega) (by decide) dX3_gatherPlain_96 (fun H locs c9 oq hS => ?_)
      have hI := jv_s20 hI g_b_21 k_f_23 c9 oq (by omega) (by omega) (by decide)
      have hF := fm_put hF g_b_21 (show (234 : Nat) ∈ [233, 234] by decide) oq
      have c_f_6 := c_f_6.kept (oq _ (kn_ne g_forms_4 g_b_21 (show (212 : Nat) ≠ 234 by decide)))
      have c_f_10 := c_f_10.kept (oq _ (kn_ne g_plainWays_3 g_b_21 (show (221 : Nat) ≠ 234 by decide)))
      have c_f_15 := c_f_15.kept (oq _ (kn_ne g_ways_3 g_b_21 (show (220 : Nat) ≠ 234 by decide)))
      have c_f_20 := c_f_20.kept (oq _ (kn_ne g_plainCheapest_3 g_b_21 (show (222 : Nat) ≠ 234 by decide)))
      have c_f_25 := c_f_25.kept (oq _ (kn_ne g_cheapest_3 g_b_21 (show (219 : Nat) ≠ 234 by decide)))
      have c_f_27 := c_f_27.kept (oq _ (kn_ne g_b_26 g_b_21 (show (232 : Nat) ≠ 234 by decide)))
      have co_3 := co_3.kept (oq _ (kn_ne g_a0 g_b_21 (show (3 : Nat) ≠ 234 by decide)))
      have co_4 := co_4.kept (oq _ (kn_ne g_tongue_3 g_b_21 (show (9 : Nat) ≠ 234 by decide)))
      clear oq c9
      refine lv_iinc (v := kz (k + 1)) (lv' := [(4, .int (kz (k + 1))), (3, .int (kz (number_1 * 4))), (0, .ref a0), (1, .int (kz pl1)), (2, .ref fm)]) hx hb dX3_gatherPlain_97 hl (k := 0) rfl (kz_add k 1) (by decide) rfl (fun ls hl => ?_)
      refine lv_goto (tgt := 10) hx hb dX3_gatherPlain_100 (by decide) ?_
      exact ihn_2 (n_2 - 1) (by omega) () (k + 1) _ _ _ ⟨by omega, by omega, by omega, lv_sub hl [0, 1, 2, 3, 4] rfl, hI, hS, hF⟩
    · refine iz_eqz (tgt := 97) hx hb dX3_gatherPlain_37 (by decide) (by unfold rg2; omega) (fun _ => ?_) (fun q9 => absurd q9 (by decide))
      refine lv_iinc (v := kz (k + 1)) (lv' := [(4, .int (kz (k + 1))), (3, .int (kz (number_1 * 4))), (0, .ref a0), (1, .int (kz pl1)), (2, .ref fm)]) hx hb dX3_gatherPlain_97 hl (k := 0) rfl (kz_add k 1) (by decide) rfl (fun ls hl => ?_)
      refine lv_goto (tgt := 10) hx hb dX3_gatherPlain_100 (by decide) ?_
      exact ihn_2 (n_2 - 1) (by omega) () (k + 1) _ _ _ ⟨by omega, by omega, by omega, lv_sub hl [0, 1, 2, 3, 4] rfl, hI, hS, hF⟩
set_option maxHeartbeats 4000000 in
set_option maxRecDepth 100000 in
/-- X3_setLine -/
theorem c_setLine (l : Launch) (dC : Nat → ClassId) (dI : Nat → Nat → Nat) (ca : Nat → ClassId) (A : Nat → Prop) (X : jG) (hU : jU X) (Hp : Heap) (a0 : Nat) (lt : Nat) (n1 : Int) (day : Int) (g_a0 : X.1 a0 = (3, 30, 0, 0, 0)) (g_lt : X.1 lt = (200, 21, 60, 0, 0)) (n1i : 0 ≤ n1 ∧ n1 ≤ 60) (dayr : -2147483648 ≤ day ∧ day ≤ 2147483647) : Met l yX3_setLine wsX3_setLine ({ frames := 1, cells := 0, slots := 0, locals := 23 }) (va_Pc [.ref a0, .ref lt, .int (kz n1), .int (kz day)] (fun U => U.heap = Hp ∧ jK (dC, dI) ca U ∧ jv (dC, dI) ca A X U.heap)) (va_Qv (fun (u : Unit) => True) (fun u U => jK (dC, dI) ca U ∧ jv (dC, dI) ca A X U.heap ∧ kfm X [3, 204] Hp U.heap) A) 0 0 A := by
  refine Met.ofW (cc := cX3_setLine) (maxL := 5) (ret := none) (by decide) rfl ?_
  intro p e s m args below meth c s₁ B hml hv
  obtain ⟨rfl, hHp, ⟨hK, hN⟩, hI⟩ := hv
  have hx := B.exec
  have hb := B.bytes
  have hr := B.returns
  have hts := atoms_spec (ws := wsX3_setLine) B.pre
  have hown : s.vm.findClass RX3 = some m.cls := findClass_of_methodNamed B.named
  have hL16 := hts (.fieldLink RX3 16 "JoinBench$Lattice" "size" "I") (by decide +kernel)
  have hL20 := hts (.fieldLink RX3 20 "JoinBench$Lattice" "line" "[B") (by decide +kernel)
  have hL49 := hts (.fieldLink RX3 49 "JoinBench$Lattice" "tongue" "LJoinBench$Tongue;") (by decide +kernel)
  have hL42 := hts (.fieldLink RX3 42 "JoinBench$Lattice" "inForce" "I") (by decide +kernel)
  have hinX3 : ∀ w ∈ u_ws RX3 TX3 11, w ∈ wsX3_setLine := by decide +kernel
  obtain ⟨H, hH⟩ : ∃ H : Heap, H = s.heap := ⟨_, rfl⟩
  have hS : va_S A s.heap H [] := by rw [hH]; exact va_S.rf
  have hF : kfm X [3, 204] Hp H := by rw [hH, hHp]; exact fm_rf _ _ _
  rw [← hH] at hI ⊢
  clear hH
  have hl := lv_entry ([.ref a0, .ref lt, .int (kz n1), .int (kz day)]) (n := 5) (Nat.le_of_ble_eq_true rfl)
  rw [lg_entry_eq]
  generalize (lg_sl ([.ref a0, .ref lt, .int (kz n1), .int (kz day)]) ++ List.replicate (5 - (lg_sl ([.ref a0, .ref lt, .int (kz n1), .int (kz day)])).length) Slot.unset).toArray = ls at hl ⊢
  have hl : lv_has ls 5 [(0, .ref a0), (1, .ref lt), (2, .int (kz n1)), (3, .int (kz day))] := hl
  refine lv_aload_n hx hb dX3_setLine_0 rfl (lv_at hl 0 rfl) ?_
  refine lv_iload_n hx hb dX3_setLine_1 rfl (lv_at hl 2 rfl) ?_
  refine lv_bipush (v := kz 40) hx hb dX3_setLine_2 (by decide) ?_
  refine va_mmin hx hb (by rw [hml]; exact hl.1.symm) hown (hts (.methodLink RX3 53 Lib.Math.min.name) (by decide +kernel)) (hts (.static Lib.Math.min.name) (by decide +kernel)) (hts (.initialized "java/lang/Math") (by decide +kernel)) (hts (.code Lib.Math.min.name Lib.Math.min.code 2 (some .int)) (by decide +kernel)) (Nat.le_of_ble_eq_true rfl) (Nat.le_of_ble_eq_true rfl) (Nat.zero_le _) (Nat.zero_le _) dX3_setLine_4 ?_
  refine iz_any (fun z_1 z_1a z_1b z_1e => ?_)
  have z_1m := kz_min (x := n1) (y := 40) z_1e (by unfold rg2; omega) (by omega)
  obtain ⟨fs9, co_2, jo9⟩ := jv_o3 hI g_a0
  obtain ⟨cheapest_2, size_2, tongue_2, line_2, ways_2, plainWays_2, plainCheapest_2, ruledWays_2, ruledCheapest_2, inForce_2, barred_2, rfl, g_cheapest_2, ⟨size_2a, size_2b⟩, g_tongue_2, g_line_2, g_ways_2, g_plainWays_2, g_plainCheapest_2, g_ruledWays_2, g_ruledCheapest_2, ⟨inForce_2a, inForce_2b⟩, g_barred_2⟩ := jo9
  refine iz_put (D := (dC, dI)) (ci := 3) (v := .int (kz z_1)) (ty := .int) (C := RX3) (T := TX3) (N := 11) hx hb hts hinX3 tyX3 tyX3_ok nmX3 hown hK co_2 hS (jv_A hI g_a0 (show (30 : Nat) ≠ 0 by decide)) rfl 1 (by decide) hL16 (fun _ h9 => h9) rfl (by decide +kernel) rfl rfl (Nat.le_of_ble_eq_true rfl) dX3_setLine_7 (fun H locs c9 oq hS => ?_)
  have hI := jv_set hI c9 oq (by rw [g_a0]; exact jv_c3 ⟨cheapest_2, z_1, tongue_2, line_2, ways_2, plainWays_2, plainCheapest_2, ruledWays_2, ruledCheapest_2, inForce_2, barred_2, rfl, g_cheapest_2, ⟨by omega, by omega⟩, g_tongue_2, g_line_2, g_ways_2, g_plainWays_2, g_plainCheapest_2, g_ruledWays_2, g_ruledCheapest_2, ⟨by omega, by omega⟩, g_barred_2⟩)
  have hF := fm_put hF g_a0 (show (3 : Nat) ∈ [3, 204] by decide) oq
  have co_2 := c9
  clear oq c9
  refine lv_iconst (v := kz 0) hx hb dX3_setLine_10 rfl ?_
  refine lv_istore (lv' := [(4, .int (kz 0)), (0, .ref a0), (1, .ref lt), (2, .int (kz n1)), (3, .int (kz day))]) hx hb dX3_setLine_11 hl (by decide) rfl (fun ls hl => ?_)
  refine iz_loopA1 (α := Unit) (P := fun N9 _u9 k H locs ls => (0 ≤ k) ∧ (k ≤ 40) ∧ 40 - k ≤ (N9 : Int) ∧ lv_has ls 5 [(4, .int (kz k)), (0, .ref a0), (1, .ref lt), (2, .int (kz n1)), (3, .int (kz day))] ∧ jv (dC, dI) ca A X H ∧ va_S A s.heap H locs ∧ kfm X [3, 204] Hp H) 100000 () (x0 := 0) ?_ ⟨by omega, by omega, by omega, lv_sub hl [0, 1, 2, 3, 4] rfl, hI, hS, hF⟩
  intro n_3 _u9 k H locs ls ⟨n_3f0, n_3f1, n_3f2, hl, hI, hS, hF⟩ ihn_3
  refine lv_iload hx hb dX3_setLine_13 (lv_at hl 0 rfl) ?_
  refine lv_aload_n hx hb dX3_setLine_15 rfl (lv_at hl 1 rfl) ?_
  obtain ⟨fs9, co_4, jo9⟩ := jv_o3 hI g_a0
  obtain ⟨cheapest_4, size_4, tongue_4, line_4, ways_4, plainWays_4, plainCheapest_4, ruledWays_4, ruledCheapest_4, inForce_4, barred_4, rfl, g_cheapest_4, ⟨size_4a, size_4b⟩, g_tongue_4, g_line_4, g_ways_4, g_plainWays_4, g_plainCheapest_4, g_ruledWays_4, g_ruledCheapest_4, ⟨inForce_4a, inForce_4b⟩, g_barred_4⟩ := jo9
  have e9 : cheapest_2 = cheapest_4 := jU_eq hU g_cheapest_2 g_cheapest_4 (show (27 : Nat) ≠ 0 by decide) (show uq 219 = true by decide)
  subst e9
  have e9 : tongue_2 = tongue_4 := jU_eq hU g_tongue_2 g_tongue_4 (show (30 : Nat) ≠ 0 by decide) (show uq 9 = true by decide)
  subst e9
  have e9 : line_2 = line_4 := jU_eq hU g_line_2 g_line_4 (show (21 : Nat) ≠ 0 by decide) (show uq 204 = true by decide)
  subst e9
  have e9 : ways_2 = ways_4 := jU_eq hU g_ways_2 g_ways_4 (show (23 : Nat) ≠ 0 by decide) (show uq 220 = true by decide)
  subst e9
  have e9 : plainWays_2 = plainWays_4 := jU_eq hU g_plainWays_2 g_plainWays_4 (show (28 : Nat) ≠ 0 by decide) (show uq 221 = true by decide)
  subst e9
  have e9 : plainCheapest_2 = plainCheapest_4 := jU_eq hU g_plainCheapest_2 g_plainCheapest_4 (show (27 : Nat) ≠ 0 by decide) (show uq 222 = true by decide)
  subst e9
  have e9 : ruledWays_2 = ruledWays_4 := jU_eq hU g_ruledWays_2 g_ruledWays_4 (show (28 : Nat) ≠ 0 by decide) (show uq 223 = true by decide)
  subst e9
  have e9 : ruledCheapest_2 = ruledCheapest_4 := jU_eq hU g_ruledCheapest_2 g_ruledCheapest_4 (show (27 : Nat) ≠ 0 by decide) (show uq 224 = true by decide)
  subst e9
  have e9 : barred_2 = barred_4 := jU_eq hU g_barred_2 g_barred_4 (show (22 : Nat) ≠ 0 by decide) (show uq 225 = true by decide)
  subst e9
  refine iz_get (D := (dC, dI)) (ci := 3) (v := .int (kz size_4)) (C := RX3) (T := TX3) (N := 11) hx hb hts hinX3 hown hK co_4 rfl 1 (by decide) hL16 (fun _ h9 => h9) rfl dX3_setLine_16 ?_
  refine iz_ge (tgt := 39) hx hb dX3_setLine_19 (by decide) (by unfold rg2; omega) (fun br_5 => ?_) (fun br_5 => ?_)
  · refine lv_aload_n hx hb dX3_setLine_39 rfl (lv_at hl 1 rfl) ?_
    refine lv_aload_n hx hb dX3_setLine_40 rfl (lv_at hl 1 rfl) ?_
    refine iz_get (D := (dC, dI)) (ci := 3) (v := .ref tongue_2) (C := RX3) (T := TX3) (N := 11) hx hb hts hinX3 hown hK co_4 rfl 2 (by decide) hL49 (fun _ h9 => h9) rfl dX3_setLine_41 ?_
    refine lv_iload_n hx hb dX3_setLine_44 rfl (lv_at hl 4 rfl) ?_
    obtain ⟨fs9, co_6, jo9⟩ := jv_o9 hI g_tongue_4
    obtain ⟨forms_6, rules_6, formCount_6, ruleCount_6, forbidden_6, rfl, g_forms_6, g_rules_6, ⟨formCount_6a, formCount_6b⟩, ⟨ruleCount_6a, ruleCount_6b⟩, g_forbidden_6, x_6_0, x_6_1, x_6_2⟩ := jo9
    refine vp_callSi (va_Run.run (va_runV (As := [.int (kz day)]) (rest := [.ref a0]) ⟨hx, hb, hml, hown, hts⟩ (c_rulesInForce l dC dI ca A X hU tongue_2 day g_tongue_4 (by omega)) (cwV 1 hts gX3_setLine_X9_rulesInForce rfl rfl rfl (by decide +kernel) ⟨Nat.le_of_ble_eq_true rfl, Nat.le_of_ble_eq_true rfl⟩) ⟨fun a U g mk q => by obtain ⟨q0, ⟨qK, qN⟩, qI⟩ := q; exact ⟨q0, ⟨va_K.moved (u := U) (U := U.calling g mk a) (Vm.Alike.refl U.vm) qK, jN_same (U := U.calling g mk a) rfl qN⟩, qI⟩, va_recv hK (at_P co_6) (ci := 9) (q0 := 0) rfl rfl, fun U hU hW => ⟨rfl, jK_warm hW ⟨hK, hN⟩, by rw [hU]; exact hI⟩⟩ rfl rfl hl.1 rfl (lv_room (Nat.le_of_ble_eq_true rfl)) dX3_setLine_45 ⟨Nat.le_of_ble_eq_true rfl, Nat.le_of_ble_eq_true rfl⟩)) (fun r_8 hw_7 => ?_)
    obtain ⟨z_9, z_9a, z_9b, rfl⟩ := kz_ex r_8
    refine iz_put (D := (dC, dI)) (ci := 3) (v := .int (kz z_9)) (ty := .int) (C := RX3) (T := TX3) (N := 11) hx hb hts hinX3 tyX3 tyX3_ok nmX3 hown hK co_4 hS (jv_A hI g_a0 (show (30 : Nat) ≠ 0 by decide)) rfl 9 (by decide) hL42 (fun _ h9 => h9) rfl (by decide +kernel) rfl rfl (Nat.le_of_ble_eq_true rfl) dX3_setLine_48 (fun H locs c9 oq hS => ?_)
    have hI := jv_set hI c9 oq (by rw [g_a0]; exact jv_c3 ⟨cheapest_2, size_4, tongue_2, line_2, ways_2, plainWays_2, plainCheapest_2, ruledWays_2, ruledCheapest_2, z_9, barred_2, rfl, g_cheapest_4, ⟨by omega, by omega⟩, g_tongue_4, g_line_4, g_ways_4, g_plainWays_4, g_plainCheapest_4, g_ruledWays_4, g_ruledCheapest_4, ⟨by omega, by omega⟩, g_barred_4⟩)
    have hF := fm_put hF g_a0 (show (3 : Nat) ∈ [3, 204] by decide) oq
    have co_6 := co_6.kept (oq _ (kn_ne g_tongue_4 g_a0 (show (9 : Nat) ≠ 3 by decide)))
    have co_4 := c9
    clear oq c9
    exact W.vret hx hb hr (fun t9 ht hW => ⟨⟨(), rfl, trivial, jK_warm hW ⟨hK, hN⟩, by rw [ht]; exact ⟨hI, hF⟩⟩, hS.F ht⟩) hS.2.2 dX3_setLine_51
  · refine lv_aload_n hx hb dX3_setLine_22 rfl (lv_at hl 1 rfl) ?_
    refine iz_get (D := (dC, dI)) (ci := 3) (v := .ref line_2) (C := RX3) (T := TX3) (N := 11) hx hb hts hinX3 hown hK co_4 rfl 3 (by decide) hL20 (fun _ h9 => h9) rfl dX3_setLine_23 ?_
    refine lv_iload hx hb dX3_setLine_26 (lv_at hl 0 rfl) ?_
    refine lv_aload_n hx hb dX3_setLine_28 rfl (lv_at hl 2 rfl) ?_
    refine lv_iload hx hb dX3_setLine_29 (lv_at hl 0 rfl) ?_
    obtain ⟨f_10, c_f_10, k_f_10⟩ := jv_o200 hI g_lt
    refine iz_bald hx hb hK 1 c_f_10 rfl (by omega) (by decide) dX3_setLine_31 ?_
    have v_11a := kz_lo (f_10 (Int.toNat k))
    have v_11b := kz_hi (f_10 (Int.toNat k))
    change _ ≤ ge1 f_10 k at v_11a
    change ge1 f_10 k ≤ _ at v_11b
    obtain ⟨v_11, ev_11⟩ : ∃ z9 : Int, ge1 f_10 k = z9 := ⟨_, rfl⟩
    rw [ev_11] at v_11a v_11b ⊢
    obtain ⟨f_12, c_f_12⟩ := iv_o21 (jv_iv hI) g_line_4
    refine iz_bast hx hb hK 1 c_f_12 hS (jv_A hI g_line_4 (show (21 : Nat) ≠ 0 by decide)) rfl (by omega) (by decide) dX3_setLine_32 (fun H locs c9 oq hS => ?_)
    have hI := jv_s21 hI g_line_4 c9 oq (show (204 : Nat) ≠ 200 by decide)
    have hF := fm_put hF g_line_4 (show (204 : Nat) ∈ [3, 204] by decide) oq
    have c_f_10 := c_f_10.kept (oq _ (kn_ne g_lt g_line_4 (show (200 : Nat) ≠ 204 by decide)))
    have co_4 := co_4.kept (oq _ (kn_ne g_a0 g_line_4 (show (3 : Nat) ≠ 204 by decide)))
    clear oq c9
    refine lv_iinc (v := kz (k + 1)) (lv' := [(4, .int (kz (k + 1))), (0, .ref a0), (1, .ref lt), (2, .int (kz n1)), (3, .int (kz day))]) hx hb dX3_setLine_33 hl (k := 0) rfl (kz_add k 1) (by decide) rfl (fun ls hl => ?_)
    refine lv_goto (tgt := 13) hx hb dX3_setLine_36 (by decide) ?_
    exact ihn_3 (n_3 - 1) (by omega) () (k + 1) _ _ _ ⟨by omega, by omega, by omega, lv_sub hl [0, 1, 2, 3, 4] rfl, hI, hS, hF⟩
set_option maxHeartbeats 4000000 in
set_option maxRecDepth 100000 in
/-- X3_gatherRuled -/
theorem c_gatherRuled (l : Launch) (dC : Nat → ClassId) (dI : Nat → Nat → Nat) (ca : Nat → ClassId) (A : Nat → Prop) (X : jG) (hU : jU X) (Hp : Heap) (a0 : Nat) (pl1 : Int) (fm : Nat) (ct : Int) (g_a0 : X.1 a0 = (3, 30, 0, 0, 0)) (g_fm : X.1 fm = (2, 30, 0, 0, 0)) (pl1i : 0 ≤ pl1 ∧ pl1 ≤ 39) (ctr : -2147483648 ≤ ct ∧ ct ≤ 2147483647) : Met l yX3_gatherRuled wsX3_gatherRuled ({ frames := 3, cells := 0, slots := 0, locals := 62 }) (va_Pc [.ref a0, .int (kz pl1), .ref fm, .int (kz ct)] (fun U => U.heap = Hp ∧ jK (dC, dI) ca U ∧ jv (dC, dI) ca A X U.heap)) (va_Qv (fun (u : Unit) => True) (fun u U => jK (dC, dI) ca U ∧ jv (dC, dI) ca A X U.heap ∧ kfm X [235, 236] Hp U.heap) A) 0 0 A := by
  refine Met.ofW (cc := cX3_gatherRuled) (maxL := 6) (ret := none) (by decide) rfl ?_
  intro p e s m args below meth c s₁ B hml hv
  obtain ⟨rfl, hHp, ⟨hK, hN⟩, hI⟩ := hv
  have hx := B.exec
  have hb := B.bytes
  have hr := B.returns
  have hts := atoms_spec (ws := wsX3_gatherRuled) B.pre
  have hown : s.vm.findClass RX3 = some m.cls := findClass_of_methodNamed B.named
  have hL157 := hts (.fieldLink RX3 157 "JoinBench$Form" "begins" "I") (by decide +kernel)
  have hL42 := hts (.fieldLink RX3 42 "JoinBench$Lattice" "inForce" "I") (by decide +kernel)
  have hL49 := hts (.fieldLink RX3 49 "JoinBench$Lattice" "tongue" "LJoinBench$Tongue;") (by decide +kernel)
  have hL122 := hts (.fieldLink RX3 122 "JoinBench$Tongue" "ruleCount" "I") (by decide +kernel)
  have hL129 := hts (.fieldLink RX3 129 "JoinBench$Tongue" "rules" "[LJoinBench$Rule;") (by decide +kernel)
  have hL160 := hts (.fieldLink RX3 160 "JoinBench$Rule" "beginningSize" "I") (by decide +kernel)
  have hinX2 : ∀ w ∈ u_ws RX2 TX2 8, w ∈ wsX3_gatherRuled := by decide +kernel
  have hinX3 : ∀ w ∈ u_ws RX3 TX3 11, w ∈ wsX3_gatherRuled := by decide +kernel
  have hinX7 : ∀ w ∈ u_ws RX7 TX7 9, w ∈ wsX3_gatherRuled := by decide +kernel
  have hinX9 : ∀ w ∈ u_ws RX9 TX9 5, w ∈ wsX3_gatherRuled := by decide +kernel
  obtain ⟨H, hH⟩ : ∃ H : Heap, H = s.heap := ⟨_, rfl⟩
  have hS : va_S A s.heap H [] := by rw [hH]; exact va_S.rf
  have hF : kfm X [235, 236] Hp H := by rw [hH, hHp]; exact fm_rf _ _ _
  rw [← hH] at hI ⊢
  clear hH
  have hl := lv_entry ([.ref a0, .int (kz pl1), .ref fm, .int (kz ct)]) (n := 6) (Nat.le_of_ble_eq_true rfl)
  rw [lg_entry_eq]
  generalize (lg_sl ([.ref a0, .int (kz pl1), .ref fm, .int (kz ct)]) ++ List.replicate (6 - (lg_sl ([.ref a0, .int (kz pl1), .ref fm, .int (kz ct)])).length) Slot.unset).toArray = ls at hl ⊢
  have hl : lv_has ls 6 [(0, .ref a0), (1, .int (kz pl1)), (2, .ref fm), (3, .int (kz ct))] := hl
  refine lv_aload_n hx hb dX3_gatherRuled_0 rfl (lv_at hl 2 rfl) ?_
  obtain ⟨fs9, co_1, jo9⟩ := jv_o2 hI g_fm
  obtain ⟨ln_1, letters_1, kind_1, stem_1, kept_1, cost_1, number_1, ends_1, begins_1, rfl, g_letters_1, ⟨kind_1a, kind_1b⟩, ⟨stem_1a, stem_1b⟩, ⟨kept_1a, kept_1b⟩, ⟨cost_1a, cost_1b⟩, ⟨number_1a, number_1b⟩, ⟨ends_1a, ends_1b⟩, ⟨begins_1a, begins_1b⟩, x_1_0, x_1_1, x_1_2, x_1_3⟩ := jo9
  refine iz_get (D := (dC, dI)) (ci := 2) (v := .int (kz begins_1)) (C := RX2) (T := TX2) (N := 8) hx hb hts hinX2 hown hK co_1 rfl 7 (by decide) hL157 (fun _ h9 => h9) rfl dX3_gatherRuled_1 ?_
  refine lv_aload_n hx hb dX3_gatherRuled_4 rfl (lv_at hl 0 rfl) ?_
  obtain ⟨fs9, co_2, jo9⟩ := jv_o3 hI g_a0
  obtain ⟨cheapest_2, size_2, tongue_2, line_2, ways_2, plainWays_2, plainCheapest_2, ruledWays_2, ruledCheapest_2, inForce_2, barred_2, rfl, g_cheapest_2, ⟨size_2a, size_2b⟩, g_tongue_2, g_line_2, g_ways_2, g_plainWays_2, g_plainCheapest_2, g_ruledWays_2, g_ruledCheapest_2, ⟨inForce_2a, inForce_2b⟩, g_barred_2⟩ := jo9
  refine iz_get (D := (dC, dI)) (ci := 3) (v := .int (kz inForce_2)) (C := RX3) (T := TX3) (N := 11) hx hb hts hinX3 hown hK co_2 rfl 9 (by decide) hL42 (fun _ h9 => h9) rfl dX3_gatherRuled_5 ?_
  refine lv_iand hx hb dX3_gatherRuled_8 ?_
  refine iz_any (fun z_3 z_3a z_3b z_3e => ?_)
  refine lv_istore (lv' := [(4, .int (kz z_3)), (0, .ref a0), (1, .int (kz pl1)), (2, .ref fm), (3, .int (kz ct))]) hx hb dX3_gatherRuled_9 hl (by decide) rfl (fun ls hl => ?_)
  refine lv_iconst (v := kz 0) hx hb dX3_gatherRuled_11 rfl ?_
  refine lv_istore (lv' := [(5, .int (kz 0)), (4, .int (kz z_3)), (0, .ref a0), (1, .int (kz pl1)), (2, .ref fm), (3, .int (kz ct))]) hx hb dX3_gatherRuled_12 hl (by decide) rfl (fun ls hl => ?_)
  refine iz_loopA1 (α := Unit) (P := fun N9 _u9 k H locs ls => (0 ≤ k) ∧ (k ≤ 24) ∧ 24 - k ≤ (N9 : Int) ∧ lv_has ls 6 [(5, .int (kz k)), (4, .int (kz z_3)), (0, .ref a0), (1, .int (kz pl1)), (2, .ref fm), (3, .int (kz ct))] ∧ jv (dC, dI) ca A X H ∧ va_S A s.heap H locs ∧ kfm X [235, 236] Hp H) 100000 () (x0 := 0) ?_ ⟨by omega, by omega, by omega, lv_sub hl [0, 1, 2, 3, 4, 5] rfl, hI, hS, hF⟩
  intro n_4 _u9 k H locs ls ⟨n_4f0, n_4f1, n_4f2, hl, hI, hS, hF⟩ ihn_4
  refine lv_iload hx hb dX3_gatherRuled_14 (lv_at hl 1 rfl) ?_
  refine iz_eqz (tgt := 72) hx hb dX3_gatherRuled_16 (by decide) (by unfold rg2; omega) (fun br_5 => ?_) (fun br_5 => ?_)
  · exact W.vret hx hb hr (fun t9 ht hW => ⟨⟨(), rfl, trivial, jK_warm hW ⟨hK, hN⟩, by rw [ht]; exact ⟨hI, hF⟩⟩, hS.F ht⟩) hS.2.2 dX3_gatherRuled_72
  · refine lv_iload hx hb dX3_gatherRuled_19 (lv_at hl 0 rfl) ?_
    refine lv_aload_n hx hb dX3_gatherRuled_21 rfl (lv_at hl 2 rfl) ?_
    obtain ⟨fs9, co_6, jo9⟩ := jv_o3 hI g_a0
    obtain ⟨cheapest_6, size_6, tongue_6, line_6, ways_6, plainWays_6, plainCheapest_6, ruledWays_6, ruledCheapest_6, inForce_6, barred_6, rfl, g_cheapest_6, ⟨size_6a, size_6b⟩, g_tongue_6, g_line_6, g_ways_6, g_plainWays_6, g_plainCheapest_6, g_ruledWays_6, g_ruledCheapest_6, ⟨inForce_6a, inForce_6b⟩, g_barred_6⟩ := jo9
    have e9 : cheapest_2 = cheapest_6 := jU_eq hU g_cheapest_2 g_cheapest_6 (show (27 : Nat) ≠ 0 by decide) (show uq 219 = true by decide)
    subst e9
    have e9 : tongue_2 = tongue_6 := jU_eq hU g_tongue_2 g_tongue_6 (show (30 : Nat) ≠ 0 by decide) (show uq 9 = true by decide)
    subst e9
    have e9 : line_2 = line_6 := jU_eq hU g_line_2 g_line_6 (show (21 : Nat) ≠ 0 by decide) (show uq 204 = true by decide)
    subst e9
    have e9 : ways_2 = ways_6 := jU_eq hU g_ways_2 g_ways_6 (show (23 : Nat) ≠ 0 by decide) (show uq 220 = true by decide)
    subst e9
    have e9 : plainWays_2 = plainWays_6 := jU_eq hU g_plainWays_2 g_plainWays_6 (show (28 : Nat) ≠ 0 by decide) (show uq 221 = true by decide)
    subst e9
    have e9 : plainCheapest_2 = plainCheapest_6 := jU_eq hU g_plainCheapest_2 g_plainCheapest_6 (show (27 : Nat) ≠ 0 by decide) (show uq 222 = true by decide)
    subst e9
    have e9 : ruledWays_2 = ruledWays_6 := jU_eq hU g_ruledWays_2 g_ruledWays_6 (show (28 : Nat) ≠ 0 by decide) (show uq 223 = true by decide)
    subst e9
    have e9 : ruledCheapest_2 = ruledCheapest_6 := jU_eq hU g_ruledCheapest_2 g_ruledCheapest_6 (show (27 : Nat) ≠ 0 by decide) (show uq 224 = true by decide)
    subst e9
    have e9 : barred_2 = barred_6 := jU_eq hU g_barred_2 g_barred_6 (show (22 : Nat) ≠ 0 by decide) (show uq 225 = true by decide)
    subst e9
    refine iz_get (D := (dC, dI)) (ci := 3) (v := .ref tongue_2) (C := RX3) (T := TX3) (N := 11) hx hb hts hinX3 hown hK co_6 rfl 2 (by decide) hL49 (fun _ h9 => h9) rfl dX3_gatherRuled_22 ?_
    obtain ⟨fs9, co_7, jo9⟩ := jv_o9 hI g_tongue_6
    obtain ⟨forms_7, rules_7, formCount_7, ruleCount_7, forbidden_7, rfl, g_forms_7, g_rules_7, ⟨formCount_7a, formCount_7b⟩, ⟨ruleCount_7a, ruleCount_7b⟩, g_forbidden_7, x_7_0, x_7_1, x_7_2⟩ := jo9
    refine iz_get (D := (dC, dI)) (ci := 9) (v := .int (kz ruleCount_7)) (C := RX9) (T := TX9) (N := 5) hx hb hts hinX9 hown hK co_7 rfl 3 (by decide) hL122 (fun _ h9 => h9) rfl dX3_gatherRuled_25 ?_
    refine iz_ge (tgt := 72) hx hb dX3_gatherRuled_28 (by decide) (by unfold rg2; omega) (fun br_8 => ?_) (fun br_8 => ?_)
    · exact W.vret hx hb hr (fun t9 ht hW => ⟨⟨(), rfl, trivial, jK_warm hW ⟨hK, hN⟩, by rw [ht]; exact ⟨hI, hF⟩⟩, hS.F ht⟩) hS.2.2 dX3_gatherRuled_72
    · refine lv_iload hx hb dX3_gatherRuled_31 (lv_at hl 1 rfl) ?_
      refine lv_iload hx hb dX3_gatherRuled_33 (lv_at hl 0 rfl) ?_
      refine vp_callSi (va_Run.run (va_runSN (As := [.int (kz z_3), .int (kz k)]) (rest := []) ⟨hx, hb, hml, hown, hts⟩ (c_hasRule l z_3 k (by omega) (by omega)) ⟨va_cnB 2 hts gX3_gatherRuled_X11_hasRule_n125 rfl rfl rfl (jN_X3_125 hN) (hts (.initialized RX11) (by decide +kernel)) (by decide +kernel) ⟨Nat.le_of_ble_eq_true rfl, Nat.le_of_ble_eq_true rfl⟩, hts (.static yX11_hasRule) (by decide +kernel), trivial⟩ ⟨fun a U g mk q => q, fun U hU hW => ⟨rfl, trivial⟩⟩ rfl rfl hl.1 rfl (lv_room (Nat.le_of_ble_eq_true rfl)) dX3_gatherRuled_35 ⟨Nat.le_of_ble_eq_true rfl, Nat.le_of_ble_eq_true rfl⟩)) (fun r_10 hw_9 => ?_)
      rcases hw_9 with rfl | rfl
      · refine iz_eqz (tgt := 66) hx hb dX3_gatherRuled_38 (by decide) (by unfold rg2; omega) (fun q9 => absurd q9 (by decide)) (fun _ => ?_)
        refine lv_aload_n hx hb dX3_gatherRuled_41 rfl (lv_at hl 2 rfl) ?_
        refine iz_get (D := (dC, dI)) (ci := 3) (v := .ref tongue_2) (C := RX3) (T := TX3) (N := 11) hx hb hts hinX3 hown hK co_6 rfl 2 (by decide) hL49 (fun _ h9 => h9) rfl dX3_gatherRuled_42 ?_
        refine iz_get (D := (dC, dI)) (ci := 9) (v := .ref rules_7) (C := RX9) (T := TX9) (N := 5) hx hb hts hinX9 hown hK co_7 rfl 1 (by decide) hL129 (fun _ h9 => h9) rfl dX3_gatherRuled_45 ?_
        refine lv_iload hx hb dX3_gatherRuled_48 (lv_at hl 0 rfl) ?_
        obtain ⟨f_11, c_f_11, k_f_11⟩ := jv_q29 hI g_rules_7
        refine jz_aald hx hb hK 5 c_f_11 rfl rfl (by omega) (by decide) dX3_gatherRuled_50 ?_
        obtain ⟨b_12, eb_12⟩ : ∃ b9 : Nat, f_11 (Int.toNat k) = some b9 := Option.ne_none_iff_exists'.mp ((k_f_11 (Int.toNat k) (by omega)).2 (by omega))
        have g_b_12 := (k_f_11 (Int.toNat k) (by omega)).1 b_12 eb_12
        rw [eb_12]
        refine W.eq (g2 := F0 m 51 ls [.ref b_12]) rfl ?_
        obtain ⟨fs9, co_13, jo9⟩ := jv_o7 hI g_b_12
        obtain ⟨ln_13, letters_13, endSize_13, beginningSize_13, comesFrom_13, comesSize_13, cost_13, firstDay_13, lastDay_13, number_13, rfl, g_letters_13, ⟨endSize_13a, endSize_13b⟩, ⟨beginningSize_13a, beginningSize_13b⟩, ⟨comesFrom_13a, comesFrom_13b⟩, ⟨comesSize_13a, comesSize_13b⟩, ⟨cost_13a, cost_13b⟩, ⟨firstDay_13a, firstDay_13b⟩, ⟨lastDay_13a, lastDay_13b⟩, ⟨number_13a, number_13b⟩, x_13_0, x_13_1, x_13_2, x_13_3, x_13_4, x_13_5⟩ := jo9
        refine iz_get (D := (dC, dI)) (ci := 7) (v := .int (kz beginningSize_13)) (C := RX7) (T := TX7) (N := 9) hx hb hts hinX7 hown hK co_13 rfl 2 (by decide) hL160 (fun _ h9 => h9) rfl dX3_gatherRuled_51 ?_
        refine lv_iload_n hx hb dX3_gatherRuled_54 rfl (lv_at hl 5 rfl) ?_
        refine iz_ne (tgt := 66) hx hb dX3_gatherRuled_55 (by decide) (by unfold rg2; omega) (fun br_14 => ?_) (fun br_14 => ?_)
        · refine lv_iinc (v := kz (k + 1)) (lv' := [(5, .int (kz (k + 1))), (4, .int (kz z_3)), (0, .ref a0), (1, .int (kz pl1)), (2, .ref fm), (3, .int (kz ct))]) hx hb dX3_gatherRuled_66 hl (k := 0) rfl (kz_add k 1) (by decide) rfl (fun ls hl => ?_)
          refine lv_goto (tgt := 14) hx hb dX3_gatherRuled_69 (by decide) ?_
          exact ihn_4 (n_4 - 1) (by omega) () (k + 1) _ _ _ ⟨by omega, by omega, by omega, lv_sub hl [0, 1, 2, 3, 4, 5] rfl, hI, hS, hF⟩
        · refine lv_aload_n hx hb dX3_gatherRuled_58 rfl (lv_at hl 2 rfl) ?_
          refine lv_iload_n hx hb dX3_gatherRuled_59 rfl (lv_at hl 3 rfl) ?_
          refine lv_aload_n hx hb dX3_gatherRuled_60 rfl (lv_at hl 4 rfl) ?_
          refine lv_iload hx hb dX3_gatherRuled_61 (lv_at hl 0 rfl) ?_
          refine va_callv (va_runV (As := [.int (kz pl1), .ref fm, .int (kz k)]) (rest := []) ⟨hx, hb, hml, hown, hts⟩ (c_gatherBehindRule l dC dI ca A X hU H a0 pl1 fm k g_a0 g_fm (by omega) (by omega)) (cwV 3 hts gX3_gatherRuled_X3_gatherBehindRule rfl rfl rfl (by decide +kernel) ⟨Nat.le_of_ble_eq_true rfl, Nat.le_of_ble_eq_true rfl⟩) ⟨fun a U g mk q => by obtain ⟨q0, qH, ⟨qK, qN⟩, qI⟩ := q; exact ⟨q0, qH, ⟨va_K.moved (u := U) (U := U.calling g mk a) (Vm.Alike.refl U.vm) qK, jN_same (U := U.calling g mk a) rfl qN⟩, qI⟩, va_recv hK (at_P co_6) (ci := 3) (q0 := 0) rfl rfl, fun U hU hW => ⟨rfl, hU, jK_warm hW ⟨hK, hN⟩, by rw [hU]; exact hI⟩⟩ rfl rfl hl.1 rfl (lv_room (Nat.le_of_ble_eq_true rfl)) dX3_gatherRuled_63 ⟨Nat.le_of_ble_eq_true rfl, Nat.le_of_ble_eq_true rfl⟩) hS (fun q _ h => h) (fun q h => h) (fun u t9 H locs ht hvm hw_15 hB hz1 hk1 hS => ?_)
          obtain ⟨-, hI, hf9⟩ := hB
          rw [ht] at hI hf9
          clear ht hvm hz1
          have co_6 := fm_at hf9 g_a0 (show (3 : Nat) ∉ ([235, 236] : List Nat) by decide) co_6
          have co_7 := fm_at hf9 g_tongue_6 (show (9 : Nat) ∉ ([235, 236] : List Nat) by decide) co_7
          have co_13 := fm_at hf9 g_b_12 (show (7 : Nat) ∉ ([235, 236] : List Nat) by decide) co_13
          have c_f_11 := fm_at hf9 g_rules_7 (show (213 : Nat) ∉ ([235, 236] : List Nat) by decide) c_f_11
          have hF := fm_tr hF hf9 (by decide)
          clear hk1 hf9
          refine lv_iinc (v := kz (k + 1)) (lv' := [(5, .int (kz (k + 1))), (4, .int (kz z_3)), (0, .ref a0), (1, .int (kz pl1)), (2, .ref fm), (3, .int (kz ct))]) hx hb dX3_gatherRuled_66 hl (k := 0) rfl (kz_add k 1) (by decide) rfl (fun ls hl => ?_)
          refine lv_goto (tgt := 14) hx hb dX3_gatherRuled_69 (by decide) ?_
          exact ihn_4 (n_4 - 1) (by omega) () (k + 1) _ _ _ ⟨by omega, by omega, by omega, lv_sub hl [0, 1, 2, 3, 4, 5] rfl, hI, hS, hF⟩
      · refine iz_eqz (tgt := 66) hx hb dX3_gatherRuled_38 (by decide) (by unfold rg2; omega) (fun _ => ?_) (fun q9 => absurd q9 (by decide))
        refine lv_iinc (v := kz (k + 1)) (lv' := [(5, .int (kz (k + 1))), (4, .int (kz z_3)), (0, .ref a0), (1, .int (kz pl1)), (2, .ref fm), (3, .int (kz ct))]) hx hb dX3_gatherRuled_66 hl (k := 0) rfl (kz_add k 1) (by decide) rfl (fun ls hl => ?_)
        refine lv_goto (tgt := 14) hx hb dX3_gatherRuled_69 (by decide) ?_
        exact ihn_4 (n_4 - 1) (by omega) () (k + 1) _ _ _ ⟨by omega, by omega, by omega, lv_sub hl [0, 1, 2, 3, 4, 5] rfl, hI, hS, hF⟩
set_option maxHeartbeats 4000000 in
set_option maxRecDepth 100000 in
/-- X3_gatherForm -/
theorem c_gatherForm (l : Launch) (dC : Nat → ClassId) (dI : Nat → Nat → Nat) (ca : Nat → ClassId) (A : Nat → Prop) (X : jG) (hU : jU X) (Hp : Heap) (a0 : Nat) (pl1 : Int) (fm : Nat) (g_a0 : X.1 a0 = (3, 30, 0, 0, 0)) (g_fm : X.1 fm = (2, 30, 0, 0, 0)) (pl1i : 0 ≤ pl1 ∧ pl1 ≤ 39) : Met l yX3_gatherForm wsX3_gatherForm ({ frames := 4, cells := 0, slots := 0, locals := 87 }) (va_Pc [.ref a0, .int (kz pl1), .ref fm] (fun U => U.heap = Hp ∧ jK (dC, dI) ca U ∧ jv (dC, dI) ca A X U.heap)) (va_Qv (fun (u : Unit) => True) (fun u U => jK (dC, dI) ca U ∧ jv (dC, dI) ca A X U.heap ∧ kfm X [233, 234, 235, 236] Hp U.heap) A) 0 0 A := by
  refine Met.ofW (cc := cX3_gatherForm) (maxL := 4) (ret := none) (by decide) rfl ?_
  intro p e s m args below meth c s₁ B hml hv
  obtain ⟨rfl, hHp, ⟨hK, hN⟩, hI⟩ := hv
  have hx := B.exec
  have hb := B.bytes
  have hr := B.returns
  have hts := atoms_spec (ws := wsX3_gatherForm) B.pre
  have hown : s.vm.findClass RX3 = some m.cls := findClass_of_methodNamed B.named
  have hL24 := hts (.fieldLink RX3 24 "JoinBench$Lattice" "ways" "[J") (by decide +kernel)
  have hL96 := hts (.fieldLink RX3 96 "JoinBench$Form" "number" "I") (by decide +kernel)
  have hinX2 : ∀ w ∈ u_ws RX2 TX2 8, w ∈ wsX3_gatherForm := by decide +kernel
  have hinX3 : ∀ w ∈ u_ws RX3 TX3 11, w ∈ wsX3_gatherForm := by decide +kernel
  obtain ⟨H, hH⟩ : ∃ H : Heap, H = s.heap := ⟨_, rfl⟩
  have hS : va_S A s.heap H [] := by rw [hH]; exact va_S.rf
  have hF : kfm X [233, 234, 235, 236] Hp H := by rw [hH, hHp]; exact fm_rf _ _ _
  rw [← hH] at hI ⊢
  clear hH
  have hl := lv_entry ([.ref a0, .int (kz pl1), .ref fm]) (n := 4) (Nat.le_of_ble_eq_true rfl)
  rw [lg_entry_eq]
  generalize (lg_sl ([.ref a0, .int (kz pl1), .ref fm]) ++ List.replicate (4 - (lg_sl ([.ref a0, .int (kz pl1), .ref fm])).length) Slot.unset).toArray = ls at hl ⊢
  have hl : lv_has ls 4 [(0, .ref a0), (1, .int (kz pl1)), (2, .ref fm)] := hl
  refine lv_iconst (v := kz 0) hx hb dX3_gatherForm_0 rfl ?_
  refine lv_istore_n (lv' := [(3, .int (kz 0)), (0, .ref a0), (1, .int (kz pl1)), (2, .ref fm)]) hx hb dX3_gatherForm_1 rfl hl (by decide) rfl (fun ls hl => ?_)
  refine iz_loopA1 (α := Unit) (P := fun N9 _u9 ct H locs ls => (0 ≤ ct) ∧ (ct ≤ 4) ∧ 4 - ct ≤ (N9 : Int) ∧ lv_has ls 4 [(3, .int (kz ct)), (0, .ref a0), (1, .int (kz pl1)), (2, .ref fm)] ∧ jv (dC, dI) ca A X H ∧ va_S A s.heap H locs ∧ kfm X [233, 234, 235, 236] Hp H) 100000 () (x0 := 0) ?_ ⟨by omega, by omega, by omega, lv_sub hl [0, 1, 2, 3] rfl, hI, hS, hF⟩
  intro n_1 _u9 ct H locs ls ⟨n_1f0, n_1f1, n_1f2, hl, hI, hS, hF⟩ ihn_1
  refine lv_iload_n hx hb dX3_gatherForm_2 rfl (lv_at hl 0 rfl) ?_
  refine lv_iconst (v := kz 4) hx hb dX3_gatherForm_3 rfl ?_
  refine iz_ge (tgt := 51) hx hb dX3_gatherForm_4 (by decide) (by unfold rg2; omega) (fun br_2 => ?_) (fun br_2 => ?_)
  · exact W.vret hx hb hr (fun t9 ht hW => ⟨⟨(), rfl, trivial, jK_warm hW ⟨hK, hN⟩, by rw [ht]; exact ⟨hI, hF⟩⟩, hS.F ht⟩) hS.2.2 dX3_gatherForm_51
  · refine lv_aload_n hx hb dX3_gatherForm_7 rfl (lv_at hl 1 rfl) ?_
    obtain ⟨fs9, co_3, jo9⟩ := jv_o3 hI g_a0
    obtain ⟨cheapest_3, size_3, tongue_3, line_3, ways_3, plainWays_3, plainCheapest_3, ruledWays_3, ruledCheapest_3, inForce_3, barred_3, rfl, g_cheapest_3, ⟨size_3a, size_3b⟩, g_tongue_3, g_line_3, g_ways_3, g_plainWays_3, g_plainCheapest_3, g_ruledWays_3, g_ruledCheapest_3, ⟨inForce_3a, inForce_3b⟩, g_barred_3⟩ := jo9
    refine iz_get (D := (dC, dI)) (ci := 3) (v := .ref ways_3) (C := RX3) (T := TX3) (N := 11) hx hb hts hinX3 hown hK co_3 rfl 4 (by decide) hL24 (fun _ h9 => h9) rfl dX3_gatherForm_8 ?_
    refine lv_aload_n hx hb dX3_gatherForm_11 rfl (lv_at hl 3 rfl) ?_
    obtain ⟨fs9, co_4, jo9⟩ := jv_o2 hI g_fm
    obtain ⟨ln_4, letters_4, kind_4, stem_4, kept_4, cost_4, number_4, ends_4, begins_4, rfl, g_letters_4, ⟨kind_4a, kind_4b⟩, ⟨stem_4a, stem_4b⟩, ⟨kept_4a, kept_4b⟩, ⟨cost_4a, cost_4b⟩, ⟨number_4a, number_4b⟩, ⟨ends_4a, ends_4b⟩, ⟨begins_4a, begins_4b⟩, x_4_0, x_4_1, x_4_2, x_4_3⟩ := jo9
    refine iz_get (D := (dC, dI)) (ci := 2) (v := .int (kz number_4)) (C := RX2) (T := TX2) (N := 8) hx hb hts hinX2 hown hK co_4 rfl 5 (by decide) hL96 (fun _ h9 => h9) rfl dX3_gatherForm_12 ?_
    refine lv_iconst (v := kz 4) hx hb dX3_gatherForm_15 rfl ?_
    refine iz_imul hx hb dX3_gatherForm_16 ?_
    refine lv_iload_n hx hb dX3_gatherForm_17 rfl (lv_at hl 0 rfl) ?_
    refine iz_iadd hx hb dX3_gatherForm_18 ?_
    obtain ⟨f_5, c_f_5⟩ := iv_o23 (jv_iv hI) g_ways_3
    refine iz_lald hx hb hK 3 c_f_5 rfl (by omega) (by decide) dX3_gatherForm_19 ?_
    refine lv_topl (fun y_6 ey_6 => ?_)
    refine lv_lconst (v := 0) hx hb dX3_gatherForm_20 (by decide) ?_
    refine W.lcmp hx hb dX3_gatherForm_21 ?_
    refine iz_any (fun z_7 z_7a z_7b z_7e => ?_)
    refine iz_nez (tgt := 28) hx hb dX3_gatherForm_22 (by decide) (by unfold rg2; omega) (fun br_8 => ?_) (fun br_8 => ?_)
    · refine lv_iload_n hx hb dX3_gatherForm_28 rfl (lv_at hl 0 rfl) ?_
      refine iz_nez (tgt := 38) hx hb dX3_gatherForm_29 (by decide) (by unfold rg2; omega) (fun br_9 => ?_) (fun br_9 => ?_)
      · refine lv_aload_n hx hb dX3_gatherForm_38 rfl (lv_at hl 1 rfl) ?_
        refine lv_iload_n hx hb dX3_gatherForm_39 rfl (lv_at hl 2 rfl) ?_
        refine lv_aload_n hx hb dX3_gatherForm_40 rfl (lv_at hl 3 rfl) ?_
        refine lv_iload_n hx hb dX3_gatherForm_41 rfl (lv_at hl 0 rfl) ?_
        refine va_callv (va_runV (As := [.int (kz pl1), .ref fm, .int (kz ct)]) (rest := []) ⟨hx, hb, hml, hown, hts⟩ (c_gatherRuled l dC dI ca A X hU H a0 pl1 fm ct g_a0 g_fm (by omega) (by omega)) (cwV 3 hts gX3_gatherForm_X3_gatherRuled rfl rfl rfl (by decide +kernel) ⟨Nat.le_of_ble_eq_true rfl, Nat.le_of_ble_eq_true rfl⟩) ⟨fun a U g mk q => by obtain ⟨q0, qH, ⟨qK, qN⟩, qI⟩ := q; exact ⟨q0, qH, ⟨va_K.moved (u := U) (U := U.calling g mk a) (Vm.Alike.refl U.vm) qK, jN_same (U := U.calling g mk a) rfl qN⟩, qI⟩, va_recv hK (at_P co_3) (ci := 3) (q0 := 0) rfl rfl, fun U hU hW => ⟨rfl, hU, jK_warm hW ⟨hK, hN⟩, by rw [hU]; exact hI⟩⟩ rfl rfl hl.1 rfl (lv_room (Nat.le_of_ble_eq_true rfl)) dX3_gatherForm_42 ⟨Nat.le_of_ble_eq_true rfl, Nat.le_of_ble_eq_true rfl⟩) hS (fun q _ h => h) (fun q h => h) (fun u t9 H locs ht hvm hw_10 hB hz1 hk1 hS => ?_)
        obtain ⟨-, hI, hf9⟩ := hB
        rw [ht] at hI hf9
        clear ht hvm hz1
        have co_3 := fm_at hf9 g_a0 (show (3 : Nat) ∉ ([235, 236] : List Nat) by decide) co_3
        have co_4 := fm_at hf9 g_fm (show (2 : Nat) ∉ ([235, 236] : List Nat) by decide) co_4
        have c_f_5 := fm_at hf9 g_ways_3 (show (220 : Nat) ∉ ([235, 236] : List Nat) by decide) c_f_5
        have hF := fm_tr hF hf9 (by decide)
        clear hk1 hf9
        refine lv_iinc (v := kz (ct + 1)) (lv' := [(3, .int (kz (ct + 1))), (0, .ref a0), (1, .int (kz pl1)), (2, .ref fm)]) hx hb dX3_gatherForm_45 hl (k := 0) rfl (kz_add ct 1) (by decide) rfl (fun ls hl => ?_)
        refine lv_goto (tgt := 2) hx hb dX3_gatherForm_48 (by decide) ?_
        exact ihn_1 (n_1 - 1) (by omega) () (ct + 1) _ _ _ ⟨by omega, by omega, by omega, lv_sub hl [0, 1, 2, 3] rfl, hI, hS, hF⟩
      · refine lv_aload_n hx hb dX3_gatherForm_32 rfl (lv_at hl 1 rfl) ?_
        refine lv_iload_n hx hb dX3_gatherForm_33 rfl (lv_at hl 2 rfl) ?_
        refine lv_aload_n hx hb dX3_gatherForm_34 rfl (lv_at hl 3 rfl) ?_
        refine va_callv (va_runV (As := [.int (kz pl1), .ref fm]) (rest := []) ⟨hx, hb, hml, hown, hts⟩ (c_gatherPlain l dC dI ca A X hU H a0 pl1 fm g_a0 g_fm (by omega)) (cwV 2 hts gX3_gatherForm_X3_gatherPlain rfl rfl rfl (by decide +kernel) ⟨Nat.le_of_ble_eq_true rfl, Nat.le_of_ble_eq_true rfl⟩) ⟨fun a U g mk q => by obtain ⟨q0, qH, ⟨qK, qN⟩, qI⟩ := q; exact ⟨q0, qH, ⟨va_K.moved (u := U) (U := U.calling g mk a) (Vm.Alike.refl U.vm) qK, jN_same (U := U.calling g mk a) rfl qN⟩, qI⟩, va_recv hK (at_P co_3) (ci := 3) (q0 := 0) rfl rfl, fun U hU hW => ⟨rfl, hU, jK_warm hW ⟨hK, hN⟩, by rw [hU]; exact hI⟩⟩ rfl rfl hl.1 rfl (lv_room (Nat.le_of_ble_eq_true rfl)) dX3_gatherForm_35 ⟨Nat.le_of_ble_eq_true rfl, Nat.le_of_ble_eq_true rfl⟩) hS (fun q _ h => h) (fun q h => h) (fun u t9 H locs ht hvm hw_12 hB hz1 hk1 hS => ?_)
        obtain ⟨-, hI, hf9⟩ := hB
        rw [ht] at hI hf9
        clear ht hvm hz1
        have co_3 := fm_at hf9 g_a0 (show (3 : Nat) ∉ ([233, 234] : List Nat) by decide) co_3
        have co_4 := fm_at hf9 g_fm (show (2 : Nat) ∉ ([233, 234] : List Nat) by decide) co_4
        have c_f_5 := fm_at hf9 g_ways_3 (show (220 : Nat) ∉ ([233, 234] : List Nat) by decide) c_f_5
        have hF := fm_tr hF hf9 (by decide)
        clear hk1 hf9
        refine lv_aload_n hx hb dX3_gatherForm_38 rfl (lv_at hl 1 rfl) ?_
        refine lv_iload_n hx hb dX3_gatherForm_39 rfl (lv_at hl 2 rfl) ?_
        refine lv_aload_n hx hb dX3_gatherForm_40 rfl (lv_at hl 3 rfl) ?_
        refine lv_iload_n hx hb dX3_gatherForm_41 rfl (lv_at hl 0 rfl) ?_
        refine va_callv (va_runV (As := [.int (kz pl1), .ref fm, .int (kz ct)]) (rest := []) ⟨hx, hb, hml, hown, hts⟩ (c_gatherRuled l dC dI ca A X hU H a0 pl1 fm ct g_a0 g_fm (by omega) (by omega)) (cwV 3 hts gX3_gatherForm_X3_gatherRuled rfl rfl rfl (by decide +kernel) ⟨Nat.le_of_ble_eq_true rfl, Nat.le_of_ble_eq_true rfl⟩) ⟨fun a U g mk q => by obtain ⟨q0, qH, ⟨qK, qN⟩, qI⟩ := q; exact ⟨q0, qH, ⟨va_K.moved (u := U) (U := U.calling g mk a) (Vm.Alike.refl U.vm) qK, jN_same (U := U.calling g mk a) rfl qN⟩, qI⟩, va_recv hK (at_P co_3) (ci := 3) (q0 := 0) rfl rfl, fun U hU hW => ⟨rfl, hU, jK_warm hW ⟨hK, hN⟩, by rw [hU]; exact hI⟩⟩ rfl rfl hl.1 rfl (lv_room (Nat.le_of_ble_eq_true rfl)) dX3_gatherForm_42 ⟨Nat.le_of_ble_eq_true rfl, Nat.le_of_ble_eq_true rfl⟩) hS (fun q _ h => h) (fun q h => h) (fun u t9 H locs ht hvm hw_14 hB hz1 hk1 hS => ?_)
        obtain ⟨-, hI, hf9⟩ := hB
        rw [ht] at hI hf9
        clear ht hvm hz1
        have co_3 := fm_at hf9 g_a0 (show (3 : Nat) ∉ ([235, 236] : List Nat) by decide) co_3
        have co_4 := fm_at hf9 g_fm (show (2 : Nat) ∉ ([235, 236] : List Nat) by decide) co_4
        have c_f_5 := fm_at hf9 g_ways_3 (show (220 : Nat) ∉ ([235, 236] : List Nat) by decide) c_f_5
        have hF := fm_tr hF hf9 (by decide)
        clear hk1 hf9
        refine lv_iinc (v := kz (ct + 1)) (lv' := [(3, .int (kz (ct + 1))), (0, .ref a0), (1, .int (kz pl1)), (2, .ref fm)]) hx hb dX3_gatherForm_45 hl (k := 0) rfl (kz_add ct 1) (by decide) rfl (fun ls hl => ?_)
        refine lv_goto (tgt := 2) hx hb dX3_gatherForm_48 (by decide) ?_
        exact ihn_1 (n_1 - 1) (by omega) () (ct + 1) _ _ _ ⟨by omega, by omega, by omega, lv_sub hl [0, 1, 2, 3] rfl, hI, hS, hF⟩
    · refine lv_goto (tgt := 45) hx hb dX3_gatherForm_25 (by decide) ?_
      refine lv_iinc (v := kz (ct + 1)) (lv' := [(3, .int (kz (ct + 1))), (0, .ref a0), (1, .int (kz pl1)), (2, .ref fm)]) hx hb dX3_gatherForm_45 hl (k := 0) rfl (kz_add ct 1) (by decide) rfl (fun ls hl => ?_)
      refine lv_goto (tgt := 2) hx hb dX3_gatherForm_48 (by decide) ?_
      exact ihn_1 (n_1 - 1) (by omega) () (ct + 1) _ _ _ ⟨by omega, by omega, by omega, lv_sub hl [0, 1, 2, 3] rfl, hI, hS, hF⟩
