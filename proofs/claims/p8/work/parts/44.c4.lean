set_option maxHeartbeats 4000000 in
set_option maxRecDepth 100000 in
/-- X6_write -/
theorem c_write (l : Launch) (dC : Nat → ClassId) (dI : Nat → Nat → Nat) (ca : Nat → ClassId) (A : Nat → Prop) (X : jG) (hU : jU X) (Hp : Heap) (a0 : Nat) (tx : Nat) (fr : Int) (to : Int) (tc : Nat) (tn : Nat) (g_a0 : X.1 a0 = (6, 30, 0, 0, 0)) (g_tx : X.1 tx = (tc, 21, tn, 0, 0)) (h1 : 0 ≤ fr ∧ fr ≤ 1000) (h2 : -1000 ≤ to ∧ to ≤ (tn : Int)) (h3 : tn ≤ 480) : Met l yX6_write wsX6_write ({ frames := 0, cells := 0, slots := 0, locals := 0 }) (va_Pc [.ref a0, .ref tx, .int (kz fr), .int (kz to)] (fun U => U.heap = Hp ∧ jK (dC, dI) ca U ∧ jv (dC, dI) ca A X U.heap)) (va_Qv (fun (u : Unit) => True) (fun u U => jK (dC, dI) ca U ∧ jv (dC, dI) ca A X U.heap ∧ kfm X [6, 203] Hp U.heap) A) 0 0 A := by
  refine Met.ofW (cc := cX6_write) (maxL := 5) (ret := none) (by decide) rfl ?_
  intro p e s m args below meth c s₁ B hml hv
  obtain ⟨rfl, hHp, ⟨hK, hN⟩, hI⟩ := hv
  have hx := B.exec
  have hb := B.bytes
  have hr := B.returns
  have hts := atoms_spec (ws := wsX6_write) B.pre
  have hown : s.vm.findClass RX6 = some m.cls := findClass_of_methodNamed B.named
  have hL26 := hts (.fieldLink RX6 26 "JoinBench$Row" "outSize" "I") (by decide +kernel)
  have hL18 := hts (.fieldLink RX6 18 "JoinBench$Row" "out" "[B") (by decide +kernel)
  have hinX6 : ∀ w ∈ u_ws RX6 TX6 4, w ∈ wsX6_write := by decide +kernel
  obtain ⟨H, hH⟩ : ∃ H : Heap, H = s.heap := ⟨_, rfl⟩
  have hS : va_S A s.heap H [] := by rw [hH]; exact va_S.rf
  have hF : kfm X [6, 203] Hp H := by rw [hH, hHp]; exact fm_rf _ _ _
  rw [← hH] at hI ⊢
  clear hH
  have hl := lv_entry ([.ref a0, .ref tx, .int (kz fr), .int (kz to)]) (n := 5) (Nat.le_of_ble_eq_true rfl)
  rw [lg_entry_eq]
  generalize (lg_sl ([.ref a0, .ref tx, .int (kz fr), .int (kz to)]) ++ List.replicate (5 - (lg_sl ([.ref a0, .ref tx, .int (kz fr), .int (kz to)])).length) Slot.unset).toArray = ls at hl ⊢
  have hl : lv_has ls 5 [(0, .ref a0), (1, .ref tx), (2, .int (kz fr)), (3, .int (kz to))] := hl
  refine lv_iload_n hx hb dX6_write_0 rfl (lv_at hl 2 rfl) ?_
  refine lv_istore (lv' := [(4, .int (kz fr)), (0, .ref a0), (1, .ref tx), (2, .int (kz fr)), (3, .int (kz to))]) hx hb dX6_write_1 hl (by decide) rfl (fun ls hl => ?_)
  refine iz_loopA1 (α := Unit) (P := fun N9 _u9 k H locs ls => (0 ≤ k) ∧ (k ≤ 1000) ∧ 1000 - k ≤ (N9 : Int) ∧ lv_has ls 5 [(4, .int (kz k)), (0, .ref a0), (1, .ref tx), (2, .int (kz fr)), (3, .int (kz to))] ∧ jv (dC, dI) ca A X H ∧ va_S A s.heap H locs ∧ kfm X [6, 203] Hp H) 100000 () (x0 := fr) ?_ ⟨by omega, by omega, by omega, lv_sub hl [0, 1, 2, 3, 4] rfl, hI, hS, hF⟩
  intro n_1 _u9 k H locs ls ⟨n_1f0, n_1f1, n_1f2, hl, hI, hS, hF⟩ ihn_1
  refine lv_iload hx hb dX6_write_3 (lv_at hl 0 rfl) ?_
  refine lv_iload_n hx hb dX6_write_5 rfl (lv_at hl 4 rfl) ?_
  refine iz_ge (tgt := 48) hx hb dX6_write_6 (by decide) (by unfold rg2; omega) (fun br_2 => ?_) (fun br_2 => ?_)
  · exact W.vret hx hb hr (fun t9 ht hW => ⟨⟨(), rfl, trivial, jK_warm hW ⟨hK, hN⟩, by rw [ht]; exact ⟨hI, hF⟩⟩, hS.F ht⟩) hS.2.2 dX6_write_48
  · refine lv_aload_n hx hb dX6_write_9 rfl (lv_at hl 1 rfl) ?_
    obtain ⟨fs9, co_3, jo9⟩ := jv_o6 hI g_a0
    obtain ⟨chain_3, out_3, day_3, outSize_3, rfl, g_chain_3, g_out_3, ⟨day_3a, day_3b⟩, ⟨outSize_3a, outSize_3b⟩⟩ := jo9
    refine iz_get (D := (dC, dI)) (ci := 6) (v := .int (kz outSize_3)) (C := RX6) (T := TX6) (N := 4) hx hb hts hinX6 hown hK co_3 rfl 3 (by decide) hL26 (fun _ h9 => h9) rfl dX6_write_10 ?_
    refine lv_sipush (v := kz 480) hx hb dX6_write_13 (by decide) ?_
    refine iz_ge (tgt := 48) hx hb dX6_write_16 (by decide) (by unfold rg2; omega) (fun br_4 => ?_) (fun br_4 => ?_)
    · exact W.vret hx hb hr (fun t9 ht hW => ⟨⟨(), rfl, trivial, jK_warm hW ⟨hK, hN⟩, by rw [ht]; exact ⟨hI, hF⟩⟩, hS.F ht⟩) hS.2.2 dX6_write_48
    · refine lv_aload_n hx hb dX6_write_19 rfl (lv_at hl 1 rfl) ?_
      refine iz_get (D := (dC, dI)) (ci := 6) (v := .ref out_3) (C := RX6) (T := TX6) (N := 4) hx hb hts hinX6 hown hK co_3 rfl 1 (by decide) hL18 (fun _ h9 => h9) rfl dX6_write_20 ?_
      refine lv_aload_n hx hb dX6_write_23 rfl (lv_at hl 1 rfl) ?_
      refine iz_get (D := (dC, dI)) (ci := 6) (v := .int (kz outSize_3)) (C := RX6) (T := TX6) (N := 4) hx hb hts hinX6 hown hK co_3 rfl 3 (by decide) hL26 (fun _ h9 => h9) rfl dX6_write_24 ?_
      refine lv_aload_n hx hb dX6_write_27 rfl (lv_at hl 2 rfl) ?_
      refine lv_iload hx hb dX6_write_28 (lv_at hl 0 rfl) ?_
      obtain ⟨f_5, c_f_5⟩ := iv_o21 (jv_iv hI) g_tx
      refine iz_bald hx hb hK 1 c_f_5 rfl (by omega) (by omega) dX6_write_30 ?_
      have v_6a := kz_lo (f_5 (Int.toNat k))
      have v_6b := kz_hi (f_5 (Int.toNat k))
      change _ ≤ ge1 f_5 k at v_6a
      change ge1 f_5 k ≤ _ at v_6b
      obtain ⟨v_6, ev_6⟩ : ∃ z9 : Int, ge1 f_5 k = z9 := ⟨_, rfl⟩
      rw [ev_6] at v_6a v_6b ⊢
      obtain ⟨f_7, c_f_7⟩ := iv_o21 (jv_iv hI) g_out_3
      refine iz_bast hx hb hK 1 c_f_7 hS (jv_A hI g_out_3 (show (21 : Nat) ≠ 0 by decide)) rfl (by omega) (by decide) dX6_write_31 (fun H locs c9 oq hS => ?_)
      have hI := jv_s21 hI g_out_3 c9 oq (show (203 : Nat) ≠ 200 by decide)
      have hF := fm_put hF g_out_3 (show (203 : Nat) ∈ [6, 203] by decide) oq
      have co_3 := co_3.kept (oq _ (kn_ne g_a0 g_out_3 (show (6 : Nat) ≠ 203 by decide)))
      clear oq c9
      refine lv_aload_n hx hb dX6_write_32 rfl (lv_at hl 1 rfl) ?_
      refine lv_dup hx hb dX6_write_33 rfl ?_
      refine iz_get (D := (dC, dI)) (ci := 6) (v := .int (kz outSize_3)) (C := RX6) (T := TX6) (N := 4) hx hb hts hinX6 hown hK co_3 rfl 3 (by decide) hL26 (fun _ h9 => h9) rfl dX6_write_34 ?_
      refine lv_iconst (v := kz 1) hx hb dX6_write_37 rfl ?_
      refine iz_iadd hx hb dX6_write_38 ?_
      refine iz_put (D := (dC, dI)) (ci := 6) (v := .int (kz (outSize_3 + 1))) (ty := .int) (C := RX6) (T := TX6) (N := 4) hx hb hts hinX6 tyX6 tyX6_ok nmX6 hown hK co_3 hS (jv_A hI g_a0 (show (30 : Nat) ≠ 0 by decide)) rfl 3 (by decide) hL26 (fun _ h9 => h9) rfl (by decide +kernel) rfl rfl (Nat.le_of_ble_eq_true rfl) dX6_write_39 (fun H locs c9 oq hS => ?_)
      have hI := jv_set hI c9 oq (by rw [g_a0]; exact jv_c6 ⟨chain_3, out_3, day_3, (outSize_3 + 1), rfl, g_chain_3, g_out_3, ⟨by omega, by omega⟩, ⟨by omega, by omega⟩⟩)
      have hF := fm_put hF g_a0 (show (6 : Nat) ∈ [6, 203] by decide) oq
      have co_3 := c9
      clear oq c9
      refine lv_iinc (v := kz (k + 1)) (lv' := [(4, .int (kz (k + 1))), (0, .ref a0), (1, .ref tx), (2, .int (kz fr)), (3, .int (kz to))]) hx hb dX6_write_42 hl (k := 0) rfl (kz_add k 1) (by decide) rfl (fun ls hl => ?_)
      refine lv_goto (tgt := 3) hx hb dX6_write_45 (by decide) ?_
      exact ihn_1 (n_1 - 1) (by omega) () (k + 1) _ _ _ ⟨by omega, by omega, by omega, lv_sub hl [0, 1, 2, 3, 4] rfl, hI, hS, hF⟩
set_option maxHeartbeats 4000000 in
set_option maxRecDepth 100000 in
/-- X6_join -/
theorem c_join (l : Launch) (dC : Nat → ClassId) (dI : Nat → Nat → Nat) (ca : Nat → ClassId) (A : Nat → Prop) (X : jG) (hU : jU X) (Hp : Heap) (a0 : Nat) (g_a0 : X.1 a0 = (6, 30, 0, 0, 0)) : Met l yX6_join wsX6_join ({ frames := 2, cells := 0, slots := 0, locals := 43 }) (va_Pc [.ref a0] (fun U => U.heap = Hp ∧ jK (dC, dI) ca U ∧ jv (dC, dI) ca A X U.heap)) (va_Qv (fun (u : Unit) => True) (fun u U => jK (dC, dI) ca U ∧ jv (dC, dI) ca A X U.heap ∧ kfm X [6, 203] Hp U.heap) A) 0 0 A := by
  refine Met.ofW (cc := cX6_join) (maxL := 4) (ret := none) (by decide) rfl ?_
  intro p e s m args below meth c s₁ B hml hv
  obtain ⟨rfl, hHp, ⟨hK, hN⟩, hI⟩ := hv
  have hx := B.exec
  have hb := B.bytes
  have hr := B.returns
  have hts := atoms_spec (ws := wsX6_join) B.pre
  have hown : s.vm.findClass RX6 = some m.cls := findClass_of_methodNamed B.named
  have hL26 := hts (.fieldLink RX6 26 "JoinBench$Row" "outSize" "I") (by decide +kernel)
  have hL12 := hts (.fieldLink RX6 12 "JoinBench$Row" "chain" "LJoinBench$Chain;") (by decide +kernel)
  have hL29 := hts (.fieldLink RX6 29 "JoinBench$Chain" "size" "I") (by decide +kernel)
  have hL32 := hts (.fieldLink RX6 32 "JoinBench$Chain" "rules" "[LJoinBench$Rule;") (by decide +kernel)
  have hL36 := hts (.fieldLink RX6 36 "JoinBench$Rule" "letters" "[B") (by decide +kernel)
  have hL41 := hts (.fieldLink RX6 41 "JoinBench$Rule" "comesFrom" "I") (by decide +kernel)
  have hL48 := hts (.fieldLink RX6 48 "JoinBench$Chain" "forms" "[LJoinBench$Form;") (by decide +kernel)
  have hL52 := hts (.fieldLink RX6 52 "JoinBench$Form" "letters" "[B") (by decide +kernel)
  have hinX0 : ∀ w ∈ u_ws RX0 TX0 3, w ∈ wsX6_join := by decide +kernel
  have hinX2 : ∀ w ∈ u_ws RX2 TX2 8, w ∈ wsX6_join := by decide +kernel
  have hinX6 : ∀ w ∈ u_ws RX6 TX6 4, w ∈ wsX6_join := by decide +kernel
  have hinX7 : ∀ w ∈ u_ws RX7 TX7 9, w ∈ wsX6_join := by decide +kernel
  obtain ⟨H, hH⟩ : ∃ H : Heap, H = s.heap := ⟨_, rfl⟩
  have hS : va_S A s.heap H [] := by rw [hH]; exact va_S.rf
  have hF : kfm X [6, 203] Hp H := by rw [hH, hHp]; exact fm_rf _ _ _
  rw [← hH] at hI ⊢
  clear hH
  have hl := lv_entry ([.ref a0]) (n := 4) (Nat.le_of_ble_eq_true rfl)
  rw [lg_entry_eq]
  generalize (lg_sl ([.ref a0]) ++ List.replicate (4 - (lg_sl ([.ref a0])).length) Slot.unset).toArray = ls at hl ⊢
  have hl : lv_has ls 4 [(0, .ref a0)] := hl
  refine lv_aload_n hx hb dX6_join_0 rfl (lv_at hl 0 rfl) ?_
  refine lv_iconst (v := kz 0) hx hb dX6_join_1 rfl ?_
  obtain ⟨fs9, co_1, jo9⟩ := jv_o6 hI g_a0
  obtain ⟨chain_1, out_1, day_1, outSize_1, rfl, g_chain_1, g_out_1, ⟨day_1a, day_1b⟩, ⟨outSize_1a, outSize_1b⟩⟩ := jo9
  refine iz_put (D := (dC, dI)) (ci := 6) (v := .int (kz 0)) (ty := .int) (C := RX6) (T := TX6) (N := 4) hx hb hts hinX6 tyX6 tyX6_ok nmX6 hown hK co_1 hS (jv_A hI g_a0 (show (30 : Nat) ≠ 0 by decide)) rfl 3 (by decide) hL26 (fun _ h9 => h9) rfl (by decide +kernel) rfl rfl (Nat.le_of_ble_eq_true rfl) dX6_join_2 (fun H locs c9 oq hS => ?_)
  have hI := jv_set hI c9 oq (by rw [g_a0]; exact jv_c6 ⟨chain_1, out_1, day_1, 0, rfl, g_chain_1, g_out_1, ⟨by omega, by omega⟩, ⟨by omega, by omega⟩⟩)
  have hF := fm_put hF g_a0 (show (6 : Nat) ∈ [6, 203] by decide) oq
  have co_1 := c9
  clear oq c9
  refine lv_iconst (v := kz 0) hx hb dX6_join_5 rfl ?_
  refine lv_istore_n (lv' := [(1, .int (kz 0)), (0, .ref a0)]) hx hb dX6_join_6 rfl hl (by decide) rfl (fun ls hl => ?_)
  refine iz_loopA1 (α := Unit) (P := fun N9 _u9 k H locs ls => (0 ≤ k) ∧ (k ≤ 40) ∧ 40 - k ≤ (N9 : Int) ∧ lv_has ls 4 [(1, .int (kz k)), (0, .ref a0)] ∧ jv (dC, dI) ca A X H ∧ va_S A s.heap H locs ∧ kfm X [6, 203] Hp H) 100000 () (x0 := 0) ?_ ⟨by omega, by omega, by omega, lv_sub hl [0, 1] rfl, hI, hS, hF⟩
  intro n_2 _u9 k H locs ls ⟨n_2f0, n_2f1, n_2f2, hl, hI, hS, hF⟩ ihn_2
  refine lv_iload_n hx hb dX6_join_7 rfl (lv_at hl 0 rfl) ?_
  refine lv_aload_n hx hb dX6_join_8 rfl (lv_at hl 1 rfl) ?_
  obtain ⟨fs9, co_3, jo9⟩ := jv_o6 hI g_a0
  obtain ⟨chain_3, out_3, day_3, outSize_3, rfl, g_chain_3, g_out_3, ⟨day_3a, day_3b⟩, ⟨outSize_3a, outSize_3b⟩⟩ := jo9
  have e9 : chain_1 = chain_3 := jU_eq hU g_chain_1 g_chain_3 (show (30 : Nat) ≠ 0 by decide) (show uq 0 = true by decide)
  subst e9
  have e9 : out_1 = out_3 := jU_eq hU g_out_1 g_out_3 (show (21 : Nat) ≠ 0 by decide) (show uq 203 = true by decide)
  subst e9
  refine iz_get (D := (dC, dI)) (ci := 6) (v := .ref chain_1) (C := RX6) (T := TX6) (N := 4) hx hb hts hinX6 hown hK co_3 rfl 0 (by decide) hL12 (fun _ h9 => h9) rfl dX6_join_9 ?_
  obtain ⟨fs9, co_4, jo9⟩ := jv_o0 hI g_chain_3
  obtain ⟨forms_4, rules_4, size_4, rfl, g_forms_4, g_rules_4, ⟨size_4a, size_4b⟩, x_4_0⟩ := jo9
  refine iz_get (D := (dC, dI)) (ci := 0) (v := .int (kz size_4)) (C := RX0) (T := TX0) (N := 3) hx hb hts hinX0 hown hK co_4 rfl 2 (by decide) hL29 (fun _ h9 => h9) rfl dX6_join_12 ?_
  refine iz_ge (tgt := 92) hx hb dX6_join_15 (by decide) (by unfold rg2; omega) (fun br_5 => ?_) (fun br_5 => ?_)
  · exact W.vret hx hb hr (fun t9 ht hW => ⟨⟨(), rfl, trivial, jK_warm hW ⟨hK, hN⟩, by rw [ht]; exact ⟨hI, hF⟩⟩, hS.F ht⟩) hS.2.2 dX6_join_92
  · refine lv_aload_n hx hb dX6_join_18 rfl (lv_at hl 1 rfl) ?_
    refine iz_get (D := (dC, dI)) (ci := 6) (v := .ref chain_1) (C := RX6) (T := TX6) (N := 4) hx hb hts hinX6 hown hK co_3 rfl 0 (by decide) hL12 (fun _ h9 => h9) rfl dX6_join_19 ?_
    refine iz_get (D := (dC, dI)) (ci := 0) (v := .ref rules_4) (C := RX0) (T := TX0) (N := 3) hx hb hts hinX0 hown hK co_4 rfl 1 (by decide) hL32 (fun _ h9 => h9) rfl dX6_join_22 ?_
    refine lv_iload_n hx hb dX6_join_25 rfl (lv_at hl 0 rfl) ?_
    obtain ⟨f_6, c_f_6, k_f_6⟩ := jv_q25 hI g_rules_4
    refine jz_aald hx hb hK 5 c_f_6 rfl rfl (by omega) (by decide) dX6_join_26 ?_
    rcases eb_7 : f_6 (Int.toNat k) with _ | b_7
    · refine W.eq (g2 := F0 m 27 ls [.null]) rfl ?_
      refine lv_astore_nN (lv' := [(2, .null), (1, .int (kz k)), (0, .ref a0)]) hx hb dX6_join_27 rfl hl (by decide) rfl (fun ls hl => ?_)
      refine lv_aload_nN hx hb dX6_join_28 rfl (lv_at hl 0 rfl) ?_
      refine lv_ifnullN (tgt := 49) hx hb dX6_join_29 (by decide) ?_
      refine lv_aload_n hx hb dX6_join_49 rfl (lv_at hl 2 rfl) ?_
      refine iz_get (D := (dC, dI)) (ci := 6) (v := .ref chain_1) (C := RX6) (T := TX6) (N := 4) hx hb hts hinX6 hown hK co_3 rfl 0 (by decide) hL12 (fun _ h9 => h9) rfl dX6_join_50 ?_
      refine iz_get (D := (dC, dI)) (ci := 0) (v := .ref forms_4) (C := RX0) (T := TX0) (N := 3) hx hb hts hinX0 hown hK co_4 rfl 0 (by decide) hL48 (fun _ h9 => h9) rfl dX6_join_53 ?_
      refine lv_iload_n hx hb dX6_join_56 rfl (lv_at hl 1 rfl) ?_
      obtain ⟨f_8, c_f_8, k_f_8⟩ := jv_q24 hI g_forms_4
      refine jz_aald hx hb hK 4 c_f_8 rfl rfl (by omega) (by decide) dX6_join_57 ?_
      obtain ⟨b_9, eb_9⟩ : ∃ b9 : Nat, f_8 (Int.toNat k) = some b9 := Option.ne_none_iff_exists'.mp ((k_f_8 (Int.toNat k) (by omega)).2 (by omega))
      have g_b_9 := (k_f_8 (Int.toNat k) (by omega)).1 b_9 eb_9
      rw [eb_9]
      refine W.eq (g2 := F0 m 58 ls [.ref b_9]) rfl ?_
      obtain ⟨fs9, co_10, jo9⟩ := jv_o2 hI g_b_9
      obtain ⟨ln_10, letters_10, kind_10, stem_10, kept_10, cost_10, number_10, ends_10, begins_10, rfl, g_letters_10, ⟨kind_10a, kind_10b⟩, ⟨stem_10a, stem_10b⟩, ⟨kept_10a, kept_10b⟩, ⟨cost_10a, cost_10b⟩, ⟨number_10a, number_10b⟩, ⟨ends_10a, ends_10b⟩, ⟨begins_10a, begins_10b⟩, x_10_0, x_10_1, x_10_2, x_10_3⟩ := jo9
      refine iz_get (D := (dC, dI)) (ci := 2) (v := .ref letters_10) (C := RX2) (T := TX2) (N := 8) hx hb hts hinX2 hown hK co_10 rfl 0 (by decide) hL52 (fun _ h9 => h9) rfl dX6_join_58 ?_
      refine lv_astore_n (lv' := [(3, .ref letters_10), (2, .null), (1, .int (kz k)), (0, .ref a0)]) hx hb dX6_join_61 rfl hl (by decide) rfl (fun ls hl => ?_)
      refine lv_aload_n hx hb dX6_join_62 rfl (lv_at hl 3 rfl) ?_
      refine lv_aload_n hx hb dX6_join_63 rfl (lv_at hl 0 rfl) ?_
      refine lv_aload_n hx hb dX6_join_64 rfl (lv_at hl 3 rfl) ?_
      refine iz_get (D := (dC, dI)) (ci := 6) (v := .ref chain_1) (C := RX6) (T := TX6) (N := 4) hx hb hts hinX6 hown hK co_3 rfl 0 (by decide) hL12 (fun _ h9 => h9) rfl dX6_join_65 ?_
      refine lv_iload_n hx hb dX6_join_68 rfl (lv_at hl 2 rfl) ?_
      refine vp_callSi (va_Run.run (va_runV (As := [.int (kz k)]) (rest := [.ref letters_10, .ref a0]) ⟨hx, hb, hml, hown, hts⟩ (c_cutAtBeginning l dC dI ca A X hU chain_1 k 16 g_chain_3 (by omega)) (cwV 1 hts gX6_join_X0_cutAtBeginning rfl rfl rfl (by decide +kernel) ⟨Nat.le_of_ble_eq_true rfl, Nat.le_of_ble_eq_true rfl⟩) ⟨fun a U g mk q => by obtain ⟨q0, ⟨qK, qN⟩, qI⟩ := q; exact ⟨q0, ⟨va_K.moved (u := U) (U := U.calling g mk a) (Vm.Alike.refl U.vm) qK, jN_same (U := U.calling g mk a) rfl qN⟩, qI⟩, va_recv hK (at_P co_4) (ci := 0) (q0 := 0) rfl rfl, fun U hU hW => ⟨rfl, jK_warm hW ⟨hK, hN⟩, by rw [hU]; exact hI⟩⟩ rfl rfl hl.1 rfl (lv_room (Nat.le_of_ble_eq_true rfl)) dX6_join_69 ⟨Nat.le_of_ble_eq_true rfl, Nat.le_of_ble_eq_true rfl⟩)) (fun r_12 hw_11 => ?_)
      obtain ⟨z_13, rfl, z_13h⟩ := hw_11
      refine lv_aload_n hx hb dX6_join_72 rfl (lv_at hl 0 rfl) ?_
      obtain ⟨f_14, c_f_14⟩ := iv_o21 (jv_iv hI) g_letters_10
      refine va_alen hx hb hK (at_P c_f_14) 0 1 rfl rfl (v := kz (ln_10 : Int)) rfl dX6_join_73 ?_
      refine lv_aload_n hx hb dX6_join_74 rfl (lv_at hl 3 rfl) ?_
      refine iz_get (D := (dC, dI)) (ci := 6) (v := .ref chain_1) (C := RX6) (T := TX6) (N := 4) hx hb hts hinX6 hown hK co_3 rfl 0 (by decide) hL12 (fun _ h9 => h9) rfl dX6_join_75 ?_
      refine lv_iload_n hx hb dX6_join_78 rfl (lv_at hl 2 rfl) ?_
      refine vp_callSi (va_Run.run (va_runV (As := [.int (kz k)]) (rest := [.int (kz (ln_10 : Int)), .int (kz z_13), .ref letters_10, .ref a0]) ⟨hx, hb, hml, hown, hts⟩ (c_cutAtEnd l dC dI ca A X hU chain_1 k 16 g_chain_3 (by omega)) (cwV 1 hts gX6_join_X0_cutAtEnd rfl rfl rfl (by decide +kernel) ⟨Nat.le_of_ble_eq_true rfl, Nat.le_of_ble_eq_true rfl⟩) ⟨fun a U g mk q => by obtain ⟨q0, ⟨qK, qN⟩, qI⟩ := q; exact ⟨q0, ⟨va_K.moved (u := U) (U := U.calling g mk a) (Vm.Alike.refl U.vm) qK, jN_same (U := U.calling g mk a) rfl qN⟩, qI⟩, va_recv hK (at_P co_4) (ci := 0) (q0 := 0) rfl rfl, fun U hU hW => ⟨rfl, jK_warm hW ⟨hK, hN⟩, by rw [hU]; exact hI⟩⟩ rfl rfl hl.1 rfl (lv_room (Nat.le_of_ble_eq_true rfl)) dX6_join_79 ⟨Nat.le_of_ble_eq_true rfl, Nat.le_of_ble_eq_true rfl⟩)) (fun r_16 hw_15 => ?_)
      obtain ⟨z_17, rfl, z_17h⟩ := hw_15
      refine iz_isub hx hb dX6_join_82 ?_
      refine va_callv (va_runV (As := [.ref letters_10, .int (kz z_13), .int (kz ((ln_10 : Int) - z_17))]) (rest := []) ⟨hx, hb, hml, hown, hts⟩ (c_write l dC dI ca A X hU H a0 letters_10 z_13 ((ln_10 : Int) - z_17) 201 ln_10 g_a0 g_letters_10 (by omega) (by omega) (by omega)) (cwV 3 hts gX6_join_X6_write rfl rfl rfl (by decide +kernel) ⟨Nat.le_of_ble_eq_true rfl, Nat.le_of_ble_eq_true rfl⟩) ⟨fun a U g mk q => by obtain ⟨q0, qH, ⟨qK, qN⟩, qI⟩ := q; exact ⟨q0, qH, ⟨va_K.moved (u := U) (U := U.calling g mk a) (Vm.Alike.refl U.vm) qK, jN_same (U := U.calling g mk a) rfl qN⟩, qI⟩, va_recv hK (at_P co_3) (ci := 6) (q0 := 0) rfl rfl, fun U hU hW => ⟨rfl, hU, jK_warm hW ⟨hK, hN⟩, by rw [hU]; exact hI⟩⟩ rfl rfl hl.1 rfl (lv_room (Nat.le_of_ble_eq_true rfl)) dX6_join_83 ⟨Nat.le_of_ble_eq_true rfl, Nat.le_of_ble_eq_true rfl⟩) hS (fun q _ h => h) (fun q h => h) (fun u t9 H locs ht hvm hw_18 hB hz1 hk1 hS => ?_)
      obtain ⟨-, hI, hf9⟩ := hB
      rw [ht] at hI hf9
      clear ht hvm hz1
      have co_4 := fm_at hf9 g_chain_3 (show (0 : Nat) ∉ ([6, 203] : List Nat) by decide) co_4
      have co_10 := fm_at hf9 g_b_9 (show (2 : Nat) ∉ ([6, 203] : List Nat) by decide) co_10
      have c_f_6 := fm_at hf9 g_rules_4 (show (211 : Nat) ∉ ([6, 203] : List Nat) by decide) c_f_6
      have c_f_8 := fm_at hf9 g_forms_4 (show (210 : Nat) ∉ ([6, 203] : List Nat) by decide) c_f_8
      have c_f_14 := fm_at hf9 g_letters_10 (show (201 : Nat) ∉ ([6, 203] : List Nat) by decide) c_f_14
      have hF := fm_tr hF hf9 (by decide)
      clear hk1 hf9
      refine lv_iinc (v := kz (k + 1)) (lv' := [(1, .int (kz (k + 1))), (3, .ref letters_10), (2, .null), (0, .ref a0)]) hx hb dX6_join_86 hl (k := 2) rfl (kz_add k 1) (by decide) rfl (fun ls hl => ?_)
      refine lv_goto (tgt := 7) hx hb dX6_join_89 (by decide) ?_
      exact ihn_2 (n_2 - 1) (by omega) () (k + 1) _ _ _ ⟨by omega, by omega, by omega, lv_sub hl [0, 3] rfl, hI, hS, hF⟩
    · obtain ⟨i_b_7, g_b_7⟩ := k_f_6 (Int.toNat k) (by omega) b_7 eb_7
      refine W.eq (g2 := F0 m 27 ls [.ref b_7]) rfl ?_
      refine lv_astore_n (lv' := [(2, .ref b_7), (1, .int (kz k)), (0, .ref a0)]) hx hb dX6_join_27 rfl hl (by decide) rfl (fun ls hl => ?_)
      refine lv_aload_n hx hb dX6_join_28 rfl (lv_at hl 0 rfl) ?_
      refine lv_ifnull hx hb dX6_join_29 ?_
      refine lv_aload_n hx hb dX6_join_32 rfl (lv_at hl 2 rfl) ?_
      refine lv_aload_n hx hb dX6_join_33 rfl (lv_at hl 0 rfl) ?_
      obtain ⟨fs9, co_20, jo9⟩ := jv_o7 hI g_b_7
      obtain ⟨ln_20, letters_20, endSize_20, beginningSize_20, comesFrom_20, comesSize_20, cost_20, firstDay_20, lastDay_20, number_20, rfl, g_letters_20, ⟨endSize_20a, endSize_20b⟩, ⟨beginningSize_20a, beginningSize_20b⟩, ⟨comesFrom_20a, comesFrom_20b⟩, ⟨comesSize_20a, comesSize_20b⟩, ⟨cost_20a, cost_20b⟩, ⟨firstDay_20a, firstDay_20b⟩, ⟨lastDay_20a, lastDay_20b⟩, ⟨number_20a, number_20b⟩, x_20_0, x_20_1, x_20_2, x_20_3, x_20_4, x_20_5⟩ := jo9
      refine iz_get (D := (dC, dI)) (ci := 7) (v := .ref letters_20) (C := RX7) (T := TX7) (N := 9) hx hb hts hinX7 hown hK co_20 rfl 0 (by decide) hL36 (fun _ h9 => h9) rfl dX6_join_34 ?_
      refine lv_aload_n hx hb dX6_join_37 rfl (lv_at hl 0 rfl) ?_
      refine iz_get (D := (dC, dI)) (ci := 7) (v := .int (kz comesFrom_20)) (C := RX7) (T := TX7) (N := 9) hx hb hts hinX7 hown hK co_20 rfl 3 (by decide) hL41 (fun _ h9 => h9) rfl dX6_join_38 ?_
      refine lv_aload_n hx hb dX6_join_41 rfl (lv_at hl 0 rfl) ?_
      refine iz_get (D := (dC, dI)) (ci := 7) (v := .ref letters_20) (C := RX7) (T := TX7) (N := 9) hx hb hts hinX7 hown hK co_20 rfl 0 (by decide) hL36 (fun _ h9 => h9) rfl dX6_join_42 ?_
      obtain ⟨f_21, c_f_21⟩ := iv_o21 (jv_iv hI) g_letters_20
      refine va_alen hx hb hK (at_P c_f_21) 0 1 rfl rfl (v := kz (ln_20 : Int)) rfl dX6_join_45 ?_
      refine va_callv (va_runV (As := [.ref letters_20, .int (kz comesFrom_20), .int (kz (ln_20 : Int))]) (rest := []) ⟨hx, hb, hml, hown, hts⟩ (c_write l dC dI ca A X hU H a0 letters_20 comesFrom_20 (ln_20 : Int) 202 ln_20 g_a0 g_letters_20 (by omega) (by omega) (by omega)) (cwV 3 hts gX6_join_X6_write rfl rfl rfl (by decide +kernel) ⟨Nat.le_of_ble_eq_true rfl, Nat.le_of_ble_eq_true rfl⟩) ⟨fun a U g mk q => by obtain ⟨q0, qH, ⟨qK, qN⟩, qI⟩ := q; exact ⟨q0, qH, ⟨va_K.moved (u := U) (U := U.calling g mk a) (Vm.Alike.refl U.vm) qK, jN_same (U := U.calling g mk a) rfl qN⟩, qI⟩, va_recv hK (at_P co_3) (ci := 6) (q0 := 0) rfl rfl, fun U hU hW => ⟨rfl, hU, jK_warm hW ⟨hK, hN⟩, by rw [hU]; exact hI⟩⟩ rfl rfl hl.1 rfl (lv_room (Nat.le_of_ble_eq_true rfl)) dX6_join_46 ⟨Nat.le_of_ble_eq_true rfl, Nat.le_of_ble_eq_true rfl⟩) hS (fun q _ h => h) (fun q h => h) (fun u t9 H locs ht hvm hw_22 hB hz1 hk1 hS => ?_)
      obtain ⟨-, hI, hf9⟩ := hB
      rw [ht] at hI hf9
      clear ht hvm hz1
      have co_4 := fm_at hf9 g_chain_3 (show (0 : Nat) ∉ ([6, 203] : List Nat) by decide) co_4
      have co_20 := fm_at hf9 g_b_7 (show (7 : Nat) ∉ ([6, 203] : List Nat) by decide) co_20
      have c_f_6 := fm_at hf9 g_rules_4 (show (211 : Nat) ∉ ([6, 203] : List Nat) by decide) c_f_6
      have c_f_21 := fm_at hf9 g_letters_20 (show (202 : Nat) ∉ ([6, 203] : List Nat) by decide) c_f_21
      have hF := fm_tr hF hf9 (by decide)
      clear hk1 hf9
      refine lv_aload_n hx hb dX6_join_49 rfl (lv_at hl 2 rfl) ?_
      obtain ⟨fs9, co_24, jo9⟩ := jv_o6 hI g_a0
      obtain ⟨chain_24, out_24, day_24, outSize_24, rfl, g_chain_24, g_out_24, ⟨day_24a, day_24b⟩, ⟨outSize_24a, outSize_24b⟩⟩ := jo9
      have e9 : chain_1 = chain_24 := jU_eq hU g_chain_1 g_chain_24 (show (30 : Nat) ≠ 0 by decide) (show uq 0 = true by decide)
      subst e9
      have e9 : out_1 = out_24 := jU_eq hU g_out_1 g_out_24 (show (21 : Nat) ≠ 0 by decide) (show uq 203 = true by decide)
      subst e9
      refine iz_get (D := (dC, dI)) (ci := 6) (v := .ref chain_1) (C := RX6) (T := TX6) (N := 4) hx hb hts hinX6 hown hK co_24 rfl 0 (by decide) hL12 (fun _ h9 => h9) rfl dX6_join_50 ?_
      refine iz_get (D := (dC, dI)) (ci := 0) (v := .ref forms_4) (C := RX0) (T := TX0) (N := 3) hx hb hts hinX0 hown hK co_4 rfl 0 (by decide) hL48 (fun _ h9 => h9) rfl dX6_join_53 ?_
      refine lv_iload_n hx hb dX6_join_56 rfl (lv_at hl 1 rfl) ?_
      obtain ⟨f_25, c_f_25, k_f_25⟩ := jv_q24 hI g_forms_4
      refine jz_aald hx hb hK 4 c_f_25 rfl rfl (by omega) (by decide) dX6_join_57 ?_
      obtain ⟨b_26, eb_26⟩ : ∃ b9 : Nat, f_25 (Int.toNat k) = some b9 := Option.ne_none_iff_exists'.mp ((k_f_25 (Int.toNat k) (by omega)).2 (by omega))
      have g_b_26 := (k_f_25 (Int.toNat k) (by omega)).1 b_26 eb_26
      rw [eb_26]
      refine W.eq (g2 := F0 m 58 ls [.ref b_26]) rfl ?_
      obtain ⟨fs9, co_27, jo9⟩ := jv_o2 hI g_b_26
      obtain ⟨ln_27, letters_27, kind_27, stem_27, kept_27, cost_27, number_27, ends_27, begins_27, rfl, g_letters_27, ⟨kind_27a, kind_27b⟩, ⟨stem_27a, stem_27b⟩, ⟨kept_27a, kept_27b⟩, ⟨cost_27a, cost_27b⟩, ⟨number_27a, number_27b⟩, ⟨ends_27a, ends_27b⟩, ⟨begins_27a, begins_27b⟩, x_27_0, x_27_1, x_27_2, x_27_3⟩ := jo9
      refine iz_get (D := (dC, dI)) (ci := 2) (v := .ref letters_27) (C := RX2) (T := TX2) (N := 8) hx hb hts hinX2 hown hK co_27 rfl 0 (by decide) hL52 (fun _ h9 => h9) rfl dX6_join_58 ?_
      refine lv_astore_n (lv' := [(3, .ref letters_27), (2, .ref b_7), (1, .int (kz k)), (0, .ref a0)]) hx hb dX6_join_61 rfl hl (by decide) rfl (fun ls hl => ?_)
      refine lv_aload_n hx hb dX6_join_62 rfl (lv_at hl 3 rfl) ?_
      refine lv_aload_n hx hb dX6_join_63 rfl (lv_at hl 0 rfl) ?_
      refine lv_aload_n hx hb dX6_join_64 rfl (lv_at hl 3 rfl) ?_
      refine iz_get (D := (dC, dI)) (ci := 6) (v := .ref chain_1) (C := RX6) (T := TX6) (N := 4) hx hb hts hinX6 hown hK co_24 rfl 0 (by decide) hL12 (fun _ h9 => h9) rfl dX6_join_65 ?_
      refine lv_iload_n hx hb dX6_join_68 rfl (lv_at hl 2 rfl) ?_
      refine vp_callSi (va_Run.run (va_runV (As := [.int (kz k)]) (rest := [.ref letters_27, .ref a0]) ⟨hx, hb, hml, hown, hts⟩ (c_cutAtBeginning l dC dI ca A X hU chain_1 k 16 g_chain_24 (by omega)) (cwV 1 hts gX6_join_X0_cutAtBeginning rfl rfl rfl (by decide +kernel) ⟨Nat.le_of_ble_eq_true rfl, Nat.le_of_ble_eq_true rfl⟩) ⟨fun a U g mk q => by obtain ⟨q0, ⟨qK, qN⟩, qI⟩ := q; exact ⟨q0, ⟨va_K.moved (u := U) (U := U.calling g mk a) (Vm.Alike.refl U.vm) qK, jN_same (U := U.calling g mk a) rfl qN⟩, qI⟩, va_recv hK (at_P co_4) (ci := 0) (q0 := 0) rfl rfl, fun U hU hW => ⟨rfl, jK_warm hW ⟨hK, hN⟩, by rw [hU]; exact hI⟩⟩ rfl rfl hl.1 rfl (lv_room (Nat.le_of_ble_eq_true rfl)) dX6_join_69 ⟨Nat.le_of_ble_eq_true rfl, Nat.le_of_ble_eq_true rfl⟩)) (fun r_29 hw_28 => ?_)
      obtain ⟨z_30, rfl, z_30h⟩ := hw_28
      refine lv_aload_n hx hb dX6_join_72 rfl (lv_at hl 0 rfl) ?_
      obtain ⟨f_31, c_f_31⟩ := iv_o21 (jv_iv hI) g_letters_27
      refine va_alen hx hb hK (at_P c_f_31) 0 1 rfl rfl (v := kz (ln_27 : Int)) rfl dX6_join_73 ?_
      refine lv_aload_n hx hb dX6_join_74 rfl (lv_at hl 3 rfl) ?_
      refine iz_get (D := (dC, dI)) (ci := 6) (v := .ref chain_1) (C := RX6) (T := TX6) (N := 4) hx hb hts hinX6 hown hK co_24 rfl 0 (by decide) hL12 (fun _ h9 => h9) rfl dX6_join_75 ?_
      refine lv_iload_n hx hb dX6_join_78 rfl (lv_at hl 2 rfl) ?_
      refine vp_callSi (va_Run.run (va_runV (As := [.int (kz k)]) (rest := [.int (kz (ln_27 : Int)), .int (kz z_30), .ref letters_27, .ref a0]) ⟨hx, hb, hml, hown, hts⟩ (c_cutAtEnd l dC dI ca A X hU chain_1 k 16 g_chain_24 (by omega)) (cwV 1 hts gX6_join_X0_cutAtEnd rfl rfl rfl (by decide +kernel) ⟨Nat.le_of_ble_eq_true rfl, Nat.le_of_ble_eq_true rfl⟩) ⟨fun a U g mk q => by obtain ⟨q0, ⟨qK, qN⟩, qI⟩ := q; exact ⟨q0, ⟨va_K.moved (u := U) (U := U.calling g mk a) (Vm.Alike.refl U.vm) qK, jN_same (U := U.calling g mk a) rfl qN⟩, qI⟩, va_recv hK (at_P co_4) (ci := 0) (q0 := 0) rfl rfl, fun U hU hW => ⟨rfl, jK_warm hW ⟨hK, hN⟩, by rw [hU]; exact hI⟩⟩ rfl rfl hl.1 rfl (lv_room (Nat.le_of_ble_eq_true rfl)) dX6_join_79 ⟨Nat.le_of_ble_eq_true rfl, Nat.le_of_ble_eq_true rfl⟩)) (fun r_33 hw_32 => ?_)
      obtain ⟨z_34, rfl, z_34h⟩ := hw_32
      refine iz_isub hx hb dX6_join_82 ?_
      refine va_callv (va_runV (As := [.ref letters_27, .int (kz z_30), .int (kz ((ln_27 : Int) - z_34))]) (rest := []) ⟨hx, hb, hml, hown, hts⟩ (c_write l dC dI ca A X hU H a0 letters_27 z_30 ((ln_27 : Int) - z_34) 201 ln_27 g_a0 g_letters_27 (by omega) (by omega) (by omega)) (cwV 3 hts gX6_join_X6_write rfl rfl rfl (by decide +kernel) ⟨Nat.le_of_ble_eq_true rfl, Nat.le_of_ble_eq_true rfl⟩) ⟨fun a U g mk q => by obtain ⟨q0, qH, ⟨qK, qN⟩, qI⟩ := q; exact ⟨q0, qH, ⟨va_K.moved (u := U) (U := U.calling g mk a) (Vm.Alike.refl U.vm) qK, jN_same (U := U.calling g mk a) rfl qN⟩, qI⟩, va_recv hK (at_P co_24) (ci := 6) (q0 := 0) rfl rfl, fun U hU hW => ⟨rfl, hU, jK_warm hW ⟨hK, hN⟩, by rw [hU]; exact hI⟩⟩ rfl rfl hl.1 rfl (lv_room (Nat.le_of_ble_eq_true rfl)) dX6_join_83 ⟨Nat.le_of_ble_eq_true rfl, Nat.le_of_ble_eq_true rfl⟩) hS (fun q _ h => h) (fun q h => h) (fun u t9 H locs ht hvm hw_35 hB hz1 hk1 hS => ?_)
      obtain ⟨-, hI, hf9⟩ := hB
      rw [ht] at hI hf9
      clear ht hvm hz1
      have co_4 := fm_at hf9 g_chain_3 (show (0 : Nat) ∉ ([6, 203] : List Nat) by decide) co_4
      have co_20 := fm_at hf9 g_b_7 (show (7 : Nat) ∉ ([6, 203] : List Nat) by decide) co_20
      have co_27 := fm_at hf9 g_b_26 (show (2 : Nat) ∉ ([6, 203] : List Nat) by decide) co_27
      have c_f_6 := fm_at hf9 g_rules_4 (show (211 : Nat) ∉ ([6, 203] : List Nat) by decide) c_f_6
      have c_f_21 := fm_at hf9 g_letters_20 (show (202 : Nat) ∉ ([6, 203] : List Nat) by decide) c_f_21
      have c_f_25 := fm_at hf9 g_forms_4 (show (210 : Nat) ∉ ([6, 203] : List Nat) by decide) c_f_25
      have c_f_31 := fm_at hf9 g_letters_27 (show (201 : Nat) ∉ ([6, 203] : List Nat) by decide) c_f_31
      have hF := fm_tr hF hf9 (by decide)
      clear hk1 hf9
      refine lv_iinc (v := kz (k + 1)) (lv' := [(1, .int (kz (k + 1))), (3, .ref letters_27), (2, .ref b_7), (0, .ref a0)]) hx hb dX6_join_86 hl (k := 2) rfl (kz_add k 1) (by decide) rfl (fun ls hl => ?_)
      refine lv_goto (tgt := 7) hx hb dX6_join_89 (by decide) ?_
      exact ihn_2 (n_2 - 1) (by omega) () (k + 1) _ _ _ ⟨by omega, by omega, by omega, lv_sub hl [0, 3] rfl, hI, hS, hF⟩
set_option maxHeartbeats 4000000 in
set_option maxRecDepth 100000 in
/-- X10_setKind -/
theorem c_setKind (l : Launch) (dC : Nat → ClassId) (dI : Nat → Nat → Nat) (ca : Nat → ClassId) (A : Nat → Prop) (X : jG) (hU : jU X) (Hp : Heap) (a0 : Nat) (x : Int) (y : Int) (k : Int) (g_a0 : X.1 a0 = (10, 30, 0, 0, 0)) (xi : 0 ≤ x ∧ x ≤ 5) (yi : 0 ≤ y ∧ y ≤ 5) (ki : -1 ≤ k ∧ k ≤ 5) : Met l yX10_setKind wsX10_setKind ({ frames := 0, cells := 0, slots := 0, locals := 0 }) (va_Pc [.ref a0, .int (kz x), .int (kz y), .int (kz k)] (fun U => U.heap = Hp ∧ jK (dC, dI) ca U ∧ jv (dC, dI) ca A X U.heap)) (va_Qi (fun (r : Int32) (u : Unit) => True) (fun u U => jK (dC, dI) ca U ∧ jv (dC, dI) ca A X U.heap ∧ kfm X [229] Hp U.heap) A) 0 0 A := by
  refine Met.ofW (cc := cX10_setKind) (maxL := 5) (ret := (some .int)) (by decide) rfl ?_
  intro p e s m args below meth c s₁ B hml hv
  obtain ⟨rfl, hHp, ⟨hK, hN⟩, hI⟩ := hv
  have hx := B.exec
  have hb := B.bytes
  have hr := B.returns
  have hts := atoms_spec (ws := wsX10_setKind) B.pre
  have hown : s.vm.findClass RX10 = some m.cls := findClass_of_methodNamed B.named
  have hL9 := hts (.fieldLink RX10 9 "JoinBench$Trees" "kinds" "[I") (by decide +kernel)
  have hinX10 : ∀ w ∈ u_ws RX10 TX10 2, w ∈ wsX10_setKind := by decide +kernel
  obtain ⟨H, hH⟩ : ∃ H : Heap, H = s.heap := ⟨_, rfl⟩
  have hS : va_S A s.heap H [] := by rw [hH]; exact va_S.rf
  have hF : kfm X [229] Hp H := by rw [hH, hHp]; exact fm_rf _ _ _
  rw [← hH] at hI ⊢
  clear hH
  have hl := lv_entry ([.ref a0, .int (kz x), .int (kz y), .int (kz k)]) (n := 5) (Nat.le_of_ble_eq_true rfl)
  rw [lg_entry_eq]
  generalize (lg_sl ([.ref a0, .int (kz x), .int (kz y), .int (kz k)]) ++ List.replicate (5 - (lg_sl ([.ref a0, .int (kz x), .int (kz y), .int (kz k)])).length) Slot.unset).toArray = ls at hl ⊢
  have hl : lv_has ls 5 [(0, .ref a0), (1, .int (kz x)), (2, .int (kz y)), (3, .int (kz k))] := hl
  refine lv_aload_n hx hb dX10_setKind_0 rfl (lv_at hl 0 rfl) ?_
  obtain ⟨fs9, co_1, jo9⟩ := jv_o10 hI g_a0
  obtain ⟨kinds_1, ways_1, rfl, g_kinds_1, q_ways_1⟩ := jo9
  refine iz_get (D := (dC, dI)) (ci := 10) (v := .ref kinds_1) (C := RX10) (T := TX10) (N := 2) hx hb hts hinX10 hown hK co_1 rfl 0 (by decide) hL9 (fun _ h9 => h9) rfl dX10_setKind_1 ?_
  refine lv_iload_n hx hb dX10_setKind_4 rfl (lv_at hl 1 rfl) ?_
  refine lv_bipush (v := kz 6) hx hb dX10_setKind_5 (by decide) ?_
  refine iz_imul hx hb dX10_setKind_7 ?_
  refine lv_iload_n hx hb dX10_setKind_8 rfl (lv_at hl 2 rfl) ?_
  refine iz_iadd hx hb dX10_setKind_9 ?_
  obtain ⟨f_2, c_f_2, k_f_2⟩ := iv_o20 (jv_iv hI) g_kinds_1
  refine iz_iald hx hb hK 0 c_f_2 rfl (by omega) (by decide) dX10_setKind_10 ?_
  obtain ⟨v_3a, v_3b, -⟩ := k_f_2 ((x * 6) + y) (by omega)
  obtain ⟨v_3, ev_3⟩ : ∃ z9 : Int, ge1 f_2 ((x * 6) + y) = z9 := ⟨_, rfl⟩
  rw [ev_3] at v_3a v_3b ⊢
  refine lv_istore (lv' := [(4, .int (kz v_3)), (0, .ref a0), (1, .int (kz x)), (2, .int (kz y)), (3, .int (kz k))]) hx hb dX10_setKind_11 hl (by decide) rfl (fun ls hl => ?_)
  refine lv_aload_n hx hb dX10_setKind_13 rfl (lv_at hl 1 rfl) ?_
  refine iz_get (D := (dC, dI)) (ci := 10) (v := .ref kinds_1) (C := RX10) (T := TX10) (N := 2) hx hb hts hinX10 hown hK co_1 rfl 0 (by decide) hL9 (fun _ h9 => h9) rfl dX10_setKind_14 ?_
  refine lv_iload_n hx hb dX10_setKind_17 rfl (lv_at hl 2 rfl) ?_
  refine lv_bipush (v := kz 6) hx hb dX10_setKind_18 (by decide) ?_
  refine iz_imul hx hb dX10_setKind_20 ?_
  refine lv_iload_n hx hb dX10_setKind_21 rfl (lv_at hl 3 rfl) ?_
  refine iz_iadd hx hb dX10_setKind_22 ?_
  refine lv_iload_n hx hb dX10_setKind_23 rfl (lv_at hl 4 rfl) ?_
  refine iz_iast hx hb hK 0 c_f_2 hS (jv_A hI g_kinds_1 (show (20 : Nat) ≠ 0 by decide)) rfl (by omega) (by decide) dX10_setKind_24 (fun H locs c9 oq hS => ?_)
  have hI := jv_s20 hI g_kinds_1 k_f_2 c9 oq (by omega) (by omega) (by decide)
  have hF := fm_put hF g_kinds_1 (show (229 : Nat) ∈ [229] by decide) oq
  have co_1 := co_1.kept (oq _ (kn_ne g_a0 g_kinds_1 (show (10 : Nat) ≠ 229 by decide)))
  clear oq c9
  refine lv_iload hx hb dX10_setKind_25 (lv_at hl 0 rfl) ?_
  exact W.iret (v := kz v_3) hx hb hr (fun t9 ht hW => ⟨⟨kz v_3, (), rfl, trivial, jK_warm hW ⟨hK, hN⟩, by rw [ht]; exact ⟨hI, hF⟩⟩, hS.F ht⟩) hS.2.2 dX10_setKind_27
set_option maxHeartbeats 4000000 in
set_option maxRecDepth 100000 in
/-- X1_learn -/
theorem c_learn (l : Launch) (dC : Nat → ClassId) (dI : Nat → Nat → Nat) (ca : Nat → ClassId) (A : Nat → Prop) (X : jG) (hU : jU X) (Hp : Heap) (a0 : Nat) (ch : Nat) (st : Int) (id : Nat) (g_a0 : X.1 a0 = (1, 30, 0, 0, 0)) (g_ch : X.1 ch = (0, 30, id, 0, 0)) (str : -2147483648 ≤ st ∧ st ≤ 2147483647) : Met l yX1_learn wsX1_learn ({ frames := 1, cells := 0, slots := 0, locals := 14 }) (va_Pc [.ref a0, .ref ch, .int (kz st)] (fun U => U.heap = Hp ∧ jK (dC, dI) ca U ∧ jv (dC, dI) ca A X U.heap)) (va_Qv (fun (u : Unit) => True) (fun u U => jK (dC, dI) ca U ∧ jv (dC, dI) ca A X U.heap ∧ kfm X [2, 215] Hp U.heap) A) 0 0 A := by
  refine Met.ofW (cc := cX1_learn) (maxL := 7) (ret := none) (by decide) rfl ?_
  intro p e s m args below meth c s₁ B hml hv
  obtain ⟨rfl, hHp, ⟨hK, hN⟩, hI⟩ := hv
  have hx := B.exec
  have hb := B.bytes
  have hr := B.returns
  have hts := atoms_spec (ws := wsX1_learn) B.pre
  have hown : s.vm.findClass RX1 = some m.cls := findClass_of_methodNamed B.named
  have hL53 := hts (.fieldLink RX1 53 "JoinBench$Chain" "size" "I") (by decide +kernel)
  have hL56 := hts (.fieldLink RX1 56 "JoinBench$Chain" "forms" "[LJoinBench$Form;") (by decide +kernel)
  have hL9 := hts (.fieldLink RX1 9 "JoinBench$Choices" "uses" "[I") (by decide +kernel)
  have hL57 := hts (.fieldLink RX1 57 "JoinBench$Form" "stem" "I") (by decide +kernel)
  have hL60 := hts (.fieldLink RX1 60 "JoinBench$Form" "number" "I") (by decide +kernel)
  have hL42 := hts (.fieldLink RX1 42 "JoinBench$Form" "cost" "I") (by decide +kernel)
  have hinX0 : ∀ w ∈ u_ws RX0 TX0 3, w ∈ wsX1_learn := by decide +kernel
  have hinX1 : ∀ w ∈ u_ws RX1 TX1 6, w ∈ wsX1_learn := by decide +kernel
  have hinX2 : ∀ w ∈ u_ws RX2 TX2 8, w ∈ wsX1_learn := by decide +kernel
  obtain ⟨H, hH⟩ : ∃ H : Heap, H = s.heap := ⟨_, rfl⟩
  have hS : va_S A s.heap H [] := by rw [hH]; exact va_S.rf
  have hF : kfm X [2, 215] Hp H := by rw [hH, hHp]; exact fm_rf _ _ _
  rw [← hH] at hI ⊢
  clear hH
  have hl := lv_entry ([.ref a0, .ref ch, .int (kz st)]) (n := 7) (Nat.le_of_ble_eq_true rfl)
  rw [lg_entry_eq]
  generalize (lg_sl ([.ref a0, .ref ch, .int (kz st)]) ++ List.replicate (7 - (lg_sl ([.ref a0, .ref ch, .int (kz st)])).length) Slot.unset).toArray = ls at hl ⊢
  have hl : lv_has ls 7 [(0, .ref a0), (1, .ref ch), (2, .int (kz st))] := hl
  refine lv_lconst (v := 0) hx hb dX1_learn_0 (by decide) ?_
  refine lv_lstore_n (lv' := [(3, .long 0), (0, .ref a0), (1, .ref ch), (2, .int (kz st))]) hx hb dX1_learn_1 rfl hl (by decide) rfl (fun ls hl => ?_)
  refine lv_iconst (v := kz 0) hx hb dX1_learn_2 rfl ?_
  refine lv_istore (lv' := [(5, .int (kz 0)), (3, .long 0), (0, .ref a0), (1, .ref ch), (2, .int (kz st))]) hx hb dX1_learn_3 hl (by decide) rfl (fun ls hl => ?_)
  refine iz_loopA1 (α := Int64) (P := fun N9 sn k H locs ls => (0 ≤ k) ∧ (k ≤ 40) ∧ 40 - k ≤ (N9 : Int) ∧ lv_has ls 7 [(5, .int (kz k)), (3, .long sn), (0, .ref a0), (1, .ref ch), (2, .int (kz st))] ∧ jv (dC, dI) ca A X H ∧ va_S A s.heap H locs ∧ kfm X [2, 215] Hp H) 100000 0 (x0 := 0) ?_ ⟨by omega, by omega, by omega, lv_sub hl [0, 1, 2, 3, 4] rfl, hI, hS, hF⟩
  intro n_1 sn k H locs ls ⟨n_1f0, n_1f1, n_1f2, hl, hI, hS, hF⟩ ihn_1
  refine lv_iload hx hb dX1_learn_5 (lv_at hl 0 rfl) ?_
  refine lv_aload_n hx hb dX1_learn_7 rfl (lv_at hl 3 rfl) ?_
  obtain ⟨fs9, co_2, jo9⟩ := jv_o0 hI g_ch
  obtain ⟨forms_2, rules_2, size_2, rfl, g_forms_2, g_rules_2, ⟨size_2a, size_2b⟩, x_2_0⟩ := jo9
  refine iz_get (D := (dC, dI)) (ci := 0) (v := .int (kz size_2)) (C := RX0) (T := TX0) (N := 3) hx hb hts hinX0 hown hK co_2 rfl 2 (by decide) hL53 (fun _ h9 => h9) rfl dX1_learn_8 ?_
  refine iz_ge (tgt := 83) hx hb dX1_learn_11 (by decide) (by unfold rg2; omega) (fun br_3 => ?_) (fun br_3 => ?_)
  · exact W.vret hx hb hr (fun t9 ht hW => ⟨⟨(), rfl, trivial, jK_warm hW ⟨hK, hN⟩, by rw [ht]; exact ⟨hI, hF⟩⟩, hS.F ht⟩) hS.2.2 dX1_learn_83
  · refine lv_aload_n hx hb dX1_learn_14 rfl (lv_at hl 3 rfl) ?_
    refine iz_get (D := (dC, dI)) (ci := 0) (v := .ref forms_2) (C := RX0) (T := TX0) (N := 3) hx hb hts hinX0 hown hK co_2 rfl 0 (by decide) hL56 (fun _ h9 => h9) rfl dX1_learn_15 ?_
    refine lv_iload hx hb dX1_learn_18 (lv_at hl 0 rfl) ?_
    obtain ⟨f_4, c_f_4, k_f_4⟩ := jv_q24 hI g_forms_2
    refine jz_aald hx hb hK 4 c_f_4 rfl rfl (by omega) (by decide) dX1_learn_20 ?_
    obtain ⟨b_5, eb_5⟩ : ∃ b9 : Nat, f_4 (Int.toNat k) = some b9 := Option.ne_none_iff_exists'.mp ((k_f_4 (Int.toNat k) (by omega)).2 (by omega))
    have g_b_5 := (k_f_4 (Int.toNat k) (by omega)).1 b_5 eb_5
    rw [eb_5]
    refine W.eq (g2 := F0 m 21 ls [.ref b_5]) rfl ?_
    refine lv_astore (lv' := [(6, .ref b_5), (5, .int (kz k)), (3, .long sn), (0, .ref a0), (1, .ref ch), (2, .int (kz st))]) hx hb dX1_learn_21 hl (by decide) rfl (fun ls hl => ?_)
    refine lv_aload_n hx hb dX1_learn_23 rfl (lv_at hl 3 rfl) ?_
    obtain ⟨fs9, co_6, jo9⟩ := jv_o1 hI g_a0
    obtain ⟨uses_6, size_6, cb_6, ub_6, fb_6, oldest_6, rfl, g_uses_6, ⟨size_6a, size_6b⟩, g_cb_6, g_ub_6, g_fb_6, ⟨oldest_6a, oldest_6b⟩⟩ := jo9
    refine iz_get (D := (dC, dI)) (ci := 1) (v := .ref uses_6) (C := RX1) (T := TX1) (N := 6) hx hb hts hinX1 hown hK co_6 rfl 0 (by decide) hL9 (fun _ h9 => h9) rfl dX1_learn_24 ?_
    refine lv_aload hx hb dX1_learn_27 (lv_at hl 0 rfl) ?_
    obtain ⟨fs9, co_7, jo9⟩ := jv_o2 hI g_b_5
    obtain ⟨ln_7, letters_7, kind_7, stem_7, kept_7, cost_7, number_7, ends_7, begins_7, rfl, g_letters_7, ⟨kind_7a, kind_7b⟩, ⟨stem_7a, stem_7b⟩, ⟨kept_7a, kept_7b⟩, ⟨cost_7a, cost_7b⟩, ⟨number_7a, number_7b⟩, ⟨ends_7a, ends_7b⟩, ⟨begins_7a, begins_7b⟩, x_7_0, x_7_1, x_7_2, x_7_3⟩ := jo9
    refine iz_get (D := (dC, dI)) (ci := 2) (v := .int (kz stem_7)) (C := RX2) (T := TX2) (N := 8) hx hb hts hinX2 hown hK co_7 rfl 2 (by decide) hL57 (fun _ h9 => h9) rfl dX1_learn_29 ?_
    refine lv_dup2_11 hx hb dX1_learn_32 rfl rfl ?_
    obtain ⟨f_8, c_f_8, k_f_8⟩ := iv_o20 (jv_iv hI) g_uses_6
    refine iz_iald hx hb hK 0 c_f_8 rfl (by omega) (by decide) dX1_learn_33 ?_
    obtain ⟨v_9a, v_9b, -⟩ := k_f_8 stem_7 (by omega)
    obtain ⟨v_9, ev_9⟩ : ∃ z9 : Int, ge1 f_8 stem_7 = z9 := ⟨_, rfl⟩
    rw [ev_9] at v_9a v_9b ⊢
    refine lv_iconst (v := kz 1) hx hb dX1_learn_34 rfl ?_
    refine iz_iadd hx hb dX1_learn_35 ?_
    refine iz_any (fun z_10 z_10a z_10b z_10e => ?_)
    refine iz_iast hx hb hK 0 c_f_8 hS (jv_A hI g_uses_6 (show (20 : Nat) ≠ 0 by decide)) rfl (by omega) (by decide) dX1_learn_36 (fun H locs c9 oq hS => ?_)
    have hI := jv_s20 hI g_uses_6 k_f_8 c9 oq (by omega) (by omega) (by decide)
    have hF := fm_put hF g_uses_6 (show (215 : Nat) ∈ [2, 215] by decide) oq
    have c_f_4 := c_f_4.kept (oq _ (kn_ne g_forms_2 g_uses_6 (show (210 : Nat) ≠ 215 by decide)))
    have co_2 := co_2.kept (oq _ (kn_ne g_ch g_uses_6 (show (0 : Nat) ≠ 215 by decide)))
    have co_6 := co_6.kept (oq _ (kn_ne g_a0 g_uses_6 (show (1 : Nat) ≠ 215 by decide)))
    have co_7 := co_7.kept (oq _ (kn_ne g_b_5 g_uses_6 (show (2 : Nat) ≠ 215 by decide)))
    clear oq c9
    refine lv_lload_n hx hb dX1_learn_37 rfl (lv_at hl 2 rfl) ?_
    refine lv_aload hx hb dX1_learn_38 (lv_at hl 0 rfl) ?_
    refine iz_get (D := (dC, dI)) (ci := 2) (v := .int (kz number_7)) (C := RX2) (T := TX2) (N := 8) hx hb hts hinX2 hown hK co_7 rfl 5 (by decide) hL60 (fun _ h9 => h9) rfl dX1_learn_40 ?_
    refine lv_lshr hx hb dX1_learn_43 rfl ?_
    refine lv_topl (fun y_11 ey_11 => ?_)
    refine lv_lconst (v := 1) hx hb dX1_learn_44 (by decide) ?_
    refine lv_land hx hb dX1_learn_45 ?_
    refine lv_topl (fun y_12 ey_12 => ?_)
    refine lv_lconst (v := 0) hx hb dX1_learn_46 (by decide) ?_
    refine W.lcmp hx hb dX1_learn_47 ?_
    refine iz_any (fun z_13 z_13a z_13b z_13e => ?_)
    refine iz_nez (tgt := 67) hx hb dX1_learn_48 (by decide) (by unfold rg2; omega) (fun br_14 => ?_) (fun br_14 => ?_)
    · refine lv_lload_n hx hb dX1_learn_67 rfl (lv_at hl 2 rfl) ?_
      refine lv_lconst (v := 1) hx hb dX1_learn_68 (by decide) ?_
      refine lv_aload hx hb dX1_learn_69 (lv_at hl 0 rfl) ?_
      refine iz_get (D := (dC, dI)) (ci := 2) (v := .int (kz number_7)) (C := RX2) (T := TX2) (N := 8) hx hb hts hinX2 hown hK co_7 rfl 5 (by decide) hL60 (fun _ h9 => h9) rfl dX1_learn_71 ?_
      refine lv_lshl hx hb dX1_learn_74 rfl ?_
      refine lv_topl (fun y_15 ey_15 => ?_)
      refine lv_lor hx hb dX1_learn_75 ?_
      refine lv_topl (fun y_16 ey_16 => ?_)
      refine lv_lstore_n (lv' := [(3, .long y_16), (6, .ref b_5), (5, .int (kz k)), (0, .ref a0), (1, .ref ch), (2, .int (kz st))]) hx hb dX1_learn_76 rfl hl (by decide) rfl (fun ls hl => ?_)
      refine lv_iinc (v := kz (k + 1)) (lv' := [(5, .int (kz (k + 1))), (3, .long y_16), (6, .ref b_5), (0, .ref a0), (1, .ref ch), (2, .int (kz st))]) hx hb dX1_learn_77 hl (k := 2) rfl (kz_add k 1) (by decide) rfl (fun ls hl => ?_)
      refine lv_goto (tgt := 5) hx hb dX1_learn_80 (by decide) ?_
      exact ihn_1 (n_1 - 1) (by omega) y_16 (k + 1) _ _ _ ⟨by omega, by omega, by omega, lv_sub hl [0, 1, 3, 4, 5] rfl, hI, hS, hF⟩
    · refine lv_aload hx hb dX1_learn_51 (lv_at hl 0 rfl) ?_
      refine lv_iconst (v := kz 0) hx hb dX1_learn_53 rfl ?_
      refine lv_aload hx hb dX1_learn_54 (lv_at hl 0 rfl) ?_
      refine iz_get (D := (dC, dI)) (ci := 2) (v := .int (kz cost_7)) (C := RX2) (T := TX2) (N := 8) hx hb hts hinX2 hown hK co_7 rfl 4 (by decide) hL42 (fun _ h9 => h9) rfl dX1_learn_56 ?_
      refine lv_iload_n hx hb dX1_learn_59 rfl (lv_at hl 5 rfl) ?_
      refine iz_isub hx hb dX1_learn_60 ?_
      refine va_mmax hx hb (by rw [hml]; exact hl.1.symm) hown (hts (.methodLink RX1 63 Lib.Math.max.name) (by decide +kernel)) (hts (.static Lib.Math.max.name) (by decide +kernel)) (hts (.initialized "java/lang/Math") (by decide +kernel)) (hts (.code Lib.Math.max.name Lib.Math.max.code 2 (some .int)) (by decide +kernel)) (Nat.le_of_ble_eq_true rfl) (Nat.le_of_ble_eq_true rfl) (Nat.zero_le _) (Nat.zero_le _) dX1_learn_61 ?_
      refine iz_any (fun z_17 z_17a z_17b z_17e => ?_)
      refine iz_put (D := (dC, dI)) (ci := 2) (v := .int (kz z_17)) (ty := .int) (C := RX2) (T := TX2) (N := 8) hx hb hts hinX2 tyX2 tyX2_ok nmX2 hown hK co_7 hS (jv_A hI g_b_5 (show (30 : Nat) ≠ 0 by decide)) rfl 4 (by decide) hL42 (fun _ h9 => h9) rfl (by decide +kernel) rfl rfl (Nat.le_of_ble_eq_true rfl) dX1_learn_64 (fun H locs c9 oq hS => ?_)
      have hI := jv_set hI c9 oq (by rw [g_b_5]; exact jv_c2 ⟨ln_7, letters_7, kind_7, stem_7, kept_7, z_17, number_7, ends_7, begins_7, rfl, g_letters_7, ⟨by omega, by omega⟩, ⟨by omega, by omega⟩, ⟨by omega, by omega⟩, ⟨by omega, by omega⟩, ⟨by omega, by omega⟩, ⟨by omega, by omega⟩, ⟨by omega, by omega⟩, by omega, by omega, x_7_2, by omega⟩)
      have hF := fm_put hF g_b_5 (show (2 : Nat) ∈ [2, 215] by decide) oq
      have co_2 := co_2.kept (oq _ (kn_ne g_ch g_b_5 (show (0 : Nat) ≠ 2 by decide)))
      have co_6 := co_6.kept (oq _ (kn_ne g_a0 g_b_5 (show (1 : Nat) ≠ 2 by decide)))
      have c_f_4 := c_f_4.kept (oq _ (kn_ne g_forms_2 g_b_5 (show (210 : Nat) ≠ 2 by decide)))
      have co_7 := c9
      clear oq c9
      refine lv_lload_n hx hb dX1_learn_67 rfl (lv_at hl 2 rfl) ?_
      refine lv_lconst (v := 1) hx hb dX1_learn_68 (by decide) ?_
      refine lv_aload hx hb dX1_learn_69 (lv_at hl 0 rfl) ?_
      refine iz_get (D := (dC, dI)) (ci := 2) (v := .int (kz number_7)) (C := RX2) (T := TX2) (N := 8) hx hb hts hinX2 hown hK co_7 rfl 5 (by decide) hL60 (fun _ h9 => h9) rfl dX1_learn_71 ?_
      refine lv_lshl hx hb dX1_learn_74 rfl ?_
      refine lv_topl (fun y_18 ey_18 => ?_)
      refine lv_lor hx hb dX1_learn_75 ?_
      refine lv_topl (fun y_19 ey_19 => ?_)
      refine lv_lstore_n (lv' := [(3, .long y_19), (6, .ref b_5), (5, .int (kz k)), (0, .ref a0), (1, .ref ch), (2, .int (kz st))]) hx hb dX1_learn_76 rfl hl (by decide) rfl (fun ls hl => ?_)
      refine lv_iinc (v := kz (k + 1)) (lv' := [(5, .int (kz (k + 1))), (3, .long y_19), (6, .ref b_5), (0, .ref a0), (1, .ref ch), (2, .int (kz st))]) hx hb dX1_learn_77 hl (k := 2) rfl (kz_add k 1) (by decide) rfl (fun ls hl => ?_)
      refine lv_goto (tgt := 5) hx hb dX1_learn_80 (by decide) ?_
      exact ihn_1 (n_1 - 1) (by omega) y_19 (k + 1) _ _ _ ⟨by omega, by omega, by omega, lv_sub hl [0, 1, 3, 4, 5] rfl, hI, hS, hF⟩
