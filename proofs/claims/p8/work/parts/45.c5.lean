set_option maxHeartbeats 4000000 in
set_option maxRecDepth 100000 in
/-- X11_feed -/
theorem j_feed (l : Launch) (dC : Nat → ClassId) (dI : Nat → Nat → Nat) (ca : Nat → ClassId) (A : Nat → Prop) (X : jG) (hU : jU X) (Hp : Heap) (o : Nat) (j_tape : Nat) (j_tongue : Nat) (j_row : Nat) (j_trees : Nat) (j_choices : Nat) (pv : Option Nat) (st : Int) (a1 : Int) (a2 : Int) (a3 : Int) (a4 : Int) (a5 : Int) (g_o : X.1 o = (999, 0, 0, 0, 0)) (hAo : A o) (g_j_tape : X.1 j_tape = (8, 30, 0, 0, 0)) (g_j_tongue : X.1 j_tongue = (9, 30, 0, 0, 0)) (g_j_row : X.1 j_row = (6, 30, 0, 0, 0)) (g_j_trees : X.1 j_trees = (10, 30, 0, 0, 0)) (g_j_choices : X.1 j_choices = (1, 30, 0, 0, 0)) (hpv : ∀ b : Nat, pv = some b → X.1 b = (4, 30, 0, 0, 0)) (hst : 0 ≤ st ∧ st ≤ 20) : Met l yX11_feed wsX11_feed ({ frames := 2, cells := 0, slots := 0, locals := 43 }) (va_Pc [.ref o, .int (kz a1), .int (kz a2), .int (kz a3), .int (kz a4), .int (kz a5)] (fun U => U.heap = Hp ∧ jK (dC, dI) ca U ∧ jv (dC, dI) ca A X U.heap ∧ va_at (dC, dI) vwCl (o, .inr (11, [.ref j_tape, .ref j_tongue, .ref j_row, .ref j_trees, .ref j_choices, va_rf pv, .int (kz st)])) U.heap)) (va_Qi (fun (r : Int32) (u : Int) => u = st) (fun (u : Int) U => jK (dC, dI) ca U ∧ jv (dC, dI) ca A X U.heap ∧ va_at (dC, dI) vwCl (o, .inr (11, [.ref j_tape, .ref j_tongue, .ref j_row, .ref j_trees, .ref j_choices, va_rf pv, .int (kz u)])) U.heap) A) 0 0 A := by
  refine Met.ofW (cc := cX11_feed) (maxL := 6) (ret := (some .int)) (by decide) rfl ?_
  intro p e s m args below meth c s₁ B hml hv
  obtain ⟨rfl, hHp, ⟨hK, hN⟩, hI, hO⟩ := hv
  have hx := B.exec
  have hb := B.bytes
  have hr := B.returns
  have hts := atoms_spec (ws := wsX11_feed) B.pre
  have hown : s.vm.findClass RX11 = some m.cls := findClass_of_methodNamed B.named
  have hL12 := hts (.fieldLink RX11 12 "JoinBench" "tape" "LJoinBench$Tape;") (by decide +kernel)
  have hL60 := hts (.fieldLink RX11 60 "JoinBench$Tape" "size" "I") (by decide +kernel)
  have hinX11 : ∀ w ∈ u_ws RX11 TX11 7, w ∈ wsX11_feed := by decide +kernel
  have hinX8 : ∀ w ∈ u_ws RX8 TX8 2, w ∈ wsX11_feed := by decide +kernel
  obtain ⟨H, hH⟩ : ∃ H : Heap, H = s.heap := ⟨_, rfl⟩
  have hS : va_S A s.heap H [] := by rw [hH]; exact va_S.rf
  have hF : kfm X [8, 200] Hp H := by rw [hH, hHp]; exact fm_rf _ _ _
  rw [← hH] at hI hO ⊢
  clear hH
  have hl := lv_entry ([.ref o, .int (kz a1), .int (kz a2), .int (kz a3), .int (kz a4), .int (kz a5)]) (n := 6) (Nat.le_of_ble_eq_true rfl)
  rw [lg_entry_eq]
  generalize (lg_sl ([.ref o, .int (kz a1), .int (kz a2), .int (kz a3), .int (kz a4), .int (kz a5)]) ++ List.replicate (6 - (lg_sl ([.ref o, .int (kz a1), .int (kz a2), .int (kz a3), .int (kz a4), .int (kz a5)])).length) Slot.unset).toArray = ls at hl ⊢
  have hl : lv_has ls 6 [(0, .ref o), (1, .int (kz a1)), (2, .int (kz a2)), (3, .int (kz a3)), (4, .int (kz a4)), (5, .int (kz a5))] := hl
  refine lv_aload_n hx hb dX11_feed_0 rfl (lv_at hl 0 rfl) ?_
  refine iz_get (D := (dC, dI)) (ci := 11) (v := .ref j_tape) (C := RX11) (T := TX11) (N := 7) hx hb hts hinX11 hown hK hO rfl 0 (by decide) hL12 (fun _ h9 => h9) rfl dX11_feed_1 ?_
  refine lv_bipush (v := kz 20) hx hb dX11_feed_4 (by decide) ?_
  obtain ⟨fs9, co_1, jo9⟩ := jv_o8 hI g_j_tape
  obtain ⟨bytes_1, size_1, rfl, g_bytes_1, ⟨size_1a, size_1b⟩⟩ := jo9
  refine vp_callSi (va_Run.run (va_runV (As := [.int (kz 20)]) (rest := []) ⟨hx, hb, hml, hown, hts⟩ (c_hasRoomFor l dC dI ca A X hU j_tape 20 g_j_tape (by omega)) (cwV 1 hts gX11_feed_X8_hasRoomFor rfl rfl rfl (by decide +kernel) ⟨Nat.le_of_ble_eq_true rfl, Nat.le_of_ble_eq_true rfl⟩) ⟨fun a U g mk q => by obtain ⟨q0, ⟨qK, qN⟩, qI⟩ := q; exact ⟨q0, ⟨va_K.moved (u := U) (U := U.calling g mk a) (Vm.Alike.refl U.vm) qK, jN_same (U := U.calling g mk a) rfl qN⟩, qI⟩, va_recv hK (at_P co_1) (ci := 8) (q0 := 0) rfl rfl, fun U hU hW => ⟨rfl, jK_warm hW ⟨hK, hN⟩, by rw [hU]; exact hI⟩⟩ rfl rfl hl.1 rfl (lv_room (Nat.le_of_ble_eq_true rfl)) dX11_feed_6 ⟨Nat.le_of_ble_eq_true rfl, Nat.le_of_ble_eq_true rfl⟩)) (fun r_3 hw_2 => ?_)
  rcases hw_2 with rfl | rfl
  · refine iz_nez (tgt := 14) hx hb dX11_feed_9 (by decide) (by unfold rg2; omega) (fun _ => ?_) (fun q9 => absurd q9 (by decide))
    refine lv_aload_n hx hb dX11_feed_14 rfl (lv_at hl 0 rfl) ?_
    refine iz_get (D := (dC, dI)) (ci := 11) (v := .ref j_tape) (C := RX11) (T := TX11) (N := 7) hx hb hts hinX11 hown hK hO rfl 0 (by decide) hL12 (fun _ h9 => h9) rfl dX11_feed_15 ?_
    refine lv_iload_n hx hb dX11_feed_18 rfl (lv_at hl 1 rfl) ?_
    refine va_callv (va_runV (As := [.int (kz a1)]) (rest := []) ⟨hx, hb, hml, hown, hts⟩ (c_addNumber l dC dI ca A X hU H j_tape a1 g_j_tape) (cwV 1 hts gX11_feed_X8_addNumber rfl rfl rfl (by decide +kernel) ⟨Nat.le_of_ble_eq_true rfl, Nat.le_of_ble_eq_true rfl⟩) ⟨fun a U g mk q => by obtain ⟨q0, qH, ⟨qK, qN⟩, qI⟩ := q; exact ⟨q0, qH, ⟨va_K.moved (u := U) (U := U.calling g mk a) (Vm.Alike.refl U.vm) qK, jN_same (U := U.calling g mk a) rfl qN⟩, qI⟩, va_recv hK (at_P co_1) (ci := 8) (q0 := 0) rfl rfl, fun U hU hW => ⟨rfl, hU, jK_warm hW ⟨hK, hN⟩, by rw [hU]; exact hI⟩⟩ rfl rfl hl.1 rfl (lv_room (Nat.le_of_ble_eq_true rfl)) dX11_feed_19 ⟨Nat.le_of_ble_eq_true rfl, Nat.le_of_ble_eq_true rfl⟩) hS (fun q _ h => h) (fun q h => h) (fun u t9 H locs ht hvm hw_4 hB hz1 hk1 hS => ?_)
    obtain ⟨-, hI, hf9⟩ := hB
    rw [ht] at hI hf9
    clear ht hvm hz1
    have hO := fm_at hf9 g_o (show (999 : Nat) ∉ ([8, 200] : List Nat) by decide) hO
    have hF := fm_tr hF hf9 (by decide)
    clear hk1 hf9
    refine lv_aload_n hx hb dX11_feed_22 rfl (lv_at hl 0 rfl) ?_
    refine iz_get (D := (dC, dI)) (ci := 11) (v := .ref j_tape) (C := RX11) (T := TX11) (N := 7) hx hb hts hinX11 hown hK hO rfl 0 (by decide) hL12 (fun _ h9 => h9) rfl dX11_feed_23 ?_
    refine lv_iload_n hx hb dX11_feed_26 rfl (lv_at hl 2 rfl) ?_
    obtain ⟨fs9, co_6, jo9⟩ := jv_o8 hI g_j_tape
    obtain ⟨bytes_6, size_6, rfl, g_bytes_6, ⟨size_6a, size_6b⟩⟩ := jo9
    have e9 : bytes_1 = bytes_6 := jU_eq hU g_bytes_1 g_bytes_6 (show (21 : Nat) ≠ 0 by decide) (show uq 200 = true by decide)
    subst e9
    refine va_callv (va_runV (As := [.int (kz a2)]) (rest := []) ⟨hx, hb, hml, hown, hts⟩ (c_addNumber l dC dI ca A X hU H j_tape a2 g_j_tape) (cwV 1 hts gX11_feed_X8_addNumber rfl rfl rfl (by decide +kernel) ⟨Nat.le_of_ble_eq_true rfl, Nat.le_of_ble_eq_true rfl⟩) ⟨fun a U g mk q => by obtain ⟨q0, qH, ⟨qK, qN⟩, qI⟩ := q; exact ⟨q0, qH, ⟨va_K.moved (u := U) (U := U.calling g mk a) (Vm.Alike.refl U.vm) qK, jN_same (U := U.calling g mk a) rfl qN⟩, qI⟩, va_recv hK (at_P co_6) (ci := 8) (q0 := 0) rfl rfl, fun U hU hW => ⟨rfl, hU, jK_warm hW ⟨hK, hN⟩, by rw [hU]; exact hI⟩⟩ rfl rfl hl.1 rfl (lv_room (Nat.le_of_ble_eq_true rfl)) dX11_feed_27 ⟨Nat.le_of_ble_eq_true rfl, Nat.le_of_ble_eq_true rfl⟩) hS (fun q _ h => h) (fun q h => h) (fun u t9 H locs ht hvm hw_7 hB hz1 hk1 hS => ?_)
    obtain ⟨-, hI, hf9⟩ := hB
    rw [ht] at hI hf9
    clear ht hvm hz1
    have hO := fm_at hf9 g_o (show (999 : Nat) ∉ ([8, 200] : List Nat) by decide) hO
    have hF := fm_tr hF hf9 (by decide)
    clear hk1 hf9
    refine lv_aload_n hx hb dX11_feed_30 rfl (lv_at hl 0 rfl) ?_
    refine iz_get (D := (dC, dI)) (ci := 11) (v := .ref j_tape) (C := RX11) (T := TX11) (N := 7) hx hb hts hinX11 hown hK hO rfl 0 (by decide) hL12 (fun _ h9 => h9) rfl dX11_feed_31 ?_
    refine lv_iload_n hx hb dX11_feed_34 rfl (lv_at hl 3 rfl) ?_
    obtain ⟨fs9, co_9, jo9⟩ := jv_o8 hI g_j_tape
    obtain ⟨bytes_9, size_9, rfl, g_bytes_9, ⟨size_9a, size_9b⟩⟩ := jo9
    have e9 : bytes_1 = bytes_9 := jU_eq hU g_bytes_1 g_bytes_9 (show (21 : Nat) ≠ 0 by decide) (show uq 200 = true by decide)
    subst e9
    refine va_callv (va_runV (As := [.int (kz a3)]) (rest := []) ⟨hx, hb, hml, hown, hts⟩ (c_addNumber l dC dI ca A X hU H j_tape a3 g_j_tape) (cwV 1 hts gX11_feed_X8_addNumber rfl rfl rfl (by decide +kernel) ⟨Nat.le_of_ble_eq_true rfl, Nat.le_of_ble_eq_true rfl⟩) ⟨fun a U g mk q => by obtain ⟨q0, qH, ⟨qK, qN⟩, qI⟩ := q; exact ⟨q0, qH, ⟨va_K.moved (u := U) (U := U.calling g mk a) (Vm.Alike.refl U.vm) qK, jN_same (U := U.calling g mk a) rfl qN⟩, qI⟩, va_recv hK (at_P co_9) (ci := 8) (q0 := 0) rfl rfl, fun U hU hW => ⟨rfl, hU, jK_warm hW ⟨hK, hN⟩, by rw [hU]; exact hI⟩⟩ rfl rfl hl.1 rfl (lv_room (Nat.le_of_ble_eq_true rfl)) dX11_feed_35 ⟨Nat.le_of_ble_eq_true rfl, Nat.le_of_ble_eq_true rfl⟩) hS (fun q _ h => h) (fun q h => h) (fun u t9 H locs ht hvm hw_10 hB hz1 hk1 hS => ?_)
    obtain ⟨-, hI, hf9⟩ := hB
    rw [ht] at hI hf9
    clear ht hvm hz1
    have hO := fm_at hf9 g_o (show (999 : Nat) ∉ ([8, 200] : List Nat) by decide) hO
    have hF := fm_tr hF hf9 (by decide)
    clear hk1 hf9
    refine lv_aload_n hx hb dX11_feed_38 rfl (lv_at hl 0 rfl) ?_
    refine iz_get (D := (dC, dI)) (ci := 11) (v := .ref j_tape) (C := RX11) (T := TX11) (N := 7) hx hb hts hinX11 hown hK hO rfl 0 (by decide) hL12 (fun _ h9 => h9) rfl dX11_feed_39 ?_
    refine lv_iload hx hb dX11_feed_42 (lv_at hl 4 rfl) ?_
    obtain ⟨fs9, co_12, jo9⟩ := jv_o8 hI g_j_tape
    obtain ⟨bytes_12, size_12, rfl, g_bytes_12, ⟨size_12a, size_12b⟩⟩ := jo9
    have e9 : bytes_1 = bytes_12 := jU_eq hU g_bytes_1 g_bytes_12 (show (21 : Nat) ≠ 0 by decide) (show uq 200 = true by decide)
    subst e9
    refine va_callv (va_runV (As := [.int (kz a4)]) (rest := []) ⟨hx, hb, hml, hown, hts⟩ (c_addNumber l dC dI ca A X hU H j_tape a4 g_j_tape) (cwV 1 hts gX11_feed_X8_addNumber rfl rfl rfl (by decide +kernel) ⟨Nat.le_of_ble_eq_true rfl, Nat.le_of_ble_eq_true rfl⟩) ⟨fun a U g mk q => by obtain ⟨q0, qH, ⟨qK, qN⟩, qI⟩ := q; exact ⟨q0, qH, ⟨va_K.moved (u := U) (U := U.calling g mk a) (Vm.Alike.refl U.vm) qK, jN_same (U := U.calling g mk a) rfl qN⟩, qI⟩, va_recv hK (at_P co_12) (ci := 8) (q0 := 0) rfl rfl, fun U hU hW => ⟨rfl, hU, jK_warm hW ⟨hK, hN⟩, by rw [hU]; exact hI⟩⟩ rfl rfl hl.1 rfl (lv_room (Nat.le_of_ble_eq_true rfl)) dX11_feed_44 ⟨Nat.le_of_ble_eq_true rfl, Nat.le_of_ble_eq_true rfl⟩) hS (fun q _ h => h) (fun q h => h) (fun u t9 H locs ht hvm hw_13 hB hz1 hk1 hS => ?_)
    obtain ⟨-, hI, hf9⟩ := hB
    rw [ht] at hI hf9
    clear ht hvm hz1
    have hO := fm_at hf9 g_o (show (999 : Nat) ∉ ([8, 200] : List Nat) by decide) hO
    have hF := fm_tr hF hf9 (by decide)
    clear hk1 hf9
    refine lv_aload_n hx hb dX11_feed_47 rfl (lv_at hl 0 rfl) ?_
    refine iz_get (D := (dC, dI)) (ci := 11) (v := .ref j_tape) (C := RX11) (T := TX11) (N := 7) hx hb hts hinX11 hown hK hO rfl 0 (by decide) hL12 (fun _ h9 => h9) rfl dX11_feed_48 ?_
    refine lv_iload hx hb dX11_feed_51 (lv_at hl 5 rfl) ?_
    obtain ⟨fs9, co_15, jo9⟩ := jv_o8 hI g_j_tape
    obtain ⟨bytes_15, size_15, rfl, g_bytes_15, ⟨size_15a, size_15b⟩⟩ := jo9
    have e9 : bytes_1 = bytes_15 := jU_eq hU g_bytes_1 g_bytes_15 (show (21 : Nat) ≠ 0 by decide) (show uq 200 = true by decide)
    subst e9
    refine va_callv (va_runV (As := [.int (kz a5)]) (rest := []) ⟨hx, hb, hml, hown, hts⟩ (c_addNumber l dC dI ca A X hU H j_tape a5 g_j_tape) (cwV 1 hts gX11_feed_X8_addNumber rfl rfl rfl (by decide +kernel) ⟨Nat.le_of_ble_eq_true rfl, Nat.le_of_ble_eq_true rfl⟩) ⟨fun a U g mk q => by obtain ⟨q0, qH, ⟨qK, qN⟩, qI⟩ := q; exact ⟨q0, qH, ⟨va_K.moved (u := U) (U := U.calling g mk a) (Vm.Alike.refl U.vm) qK, jN_same (U := U.calling g mk a) rfl qN⟩, qI⟩, va_recv hK (at_P co_15) (ci := 8) (q0 := 0) rfl rfl, fun U hU hW => ⟨rfl, hU, jK_warm hW ⟨hK, hN⟩, by rw [hU]; exact hI⟩⟩ rfl rfl hl.1 rfl (lv_room (Nat.le_of_ble_eq_true rfl)) dX11_feed_53 ⟨Nat.le_of_ble_eq_true rfl, Nat.le_of_ble_eq_true rfl⟩) hS (fun q _ h => h) (fun q h => h) (fun u t9 H locs ht hvm hw_16 hB hz1 hk1 hS => ?_)
    obtain ⟨-, hI, hf9⟩ := hB
    rw [ht] at hI hf9
    clear ht hvm hz1
    have hO := fm_at hf9 g_o (show (999 : Nat) ∉ ([8, 200] : List Nat) by decide) hO
    have hF := fm_tr hF hf9 (by decide)
    clear hk1 hf9
    refine lv_aload_n hx hb dX11_feed_56 rfl (lv_at hl 0 rfl) ?_
    refine iz_get (D := (dC, dI)) (ci := 11) (v := .ref j_tape) (C := RX11) (T := TX11) (N := 7) hx hb hts hinX11 hown hK hO rfl 0 (by decide) hL12 (fun _ h9 => h9) rfl dX11_feed_57 ?_
    obtain ⟨fs9, co_18, jo9⟩ := jv_o8 hI g_j_tape
    obtain ⟨bytes_18, size_18, rfl, g_bytes_18, ⟨size_18a, size_18b⟩⟩ := jo9
    have e9 : bytes_1 = bytes_18 := jU_eq hU g_bytes_1 g_bytes_18 (show (21 : Nat) ≠ 0 by decide) (show uq 200 = true by decide)
    subst e9
    refine iz_get (D := (dC, dI)) (ci := 8) (v := .int (kz size_18)) (C := RX8) (T := TX8) (N := 2) hx hb hts hinX8 hown hK co_18 rfl 1 (by decide) hL60 (fun _ h9 => h9) rfl dX11_feed_60 ?_
    exact W.iret (v := kz size_18) hx hb hr (fun t9 ht hW => ⟨⟨kz size_18, st, rfl, rfl, jK_warm hW ⟨hK, hN⟩, by rw [ht]; exact ⟨hI, hO⟩⟩, hS.F ht⟩) hS.2.2 dX11_feed_63
  · refine iz_nez (tgt := 14) hx hb dX11_feed_9 (by decide) (by unfold rg2; omega) (fun q9 => absurd q9 (by decide)) (fun _ => ?_)
    refine lv_iconst (v := kz (-1)) hx hb dX11_feed_12 rfl ?_
    exact W.iret (v := kz (-1)) hx hb hr (fun t9 ht hW => ⟨⟨kz (-1), st, rfl, rfl, jK_warm hW ⟨hK, hN⟩, by rw [ht]; exact ⟨hI, hO⟩⟩, hS.F ht⟩) hS.2.2 dX11_feed_13
set_option maxHeartbeats 4000000 in
set_option maxRecDepth 100000 in
/-- X11_end -/
theorem j_end (l : Launch) (dC : Nat → ClassId) (dI : Nat → Nat → Nat) (ca : Nat → ClassId) (A : Nat → Prop) (X : jG) (hU : jU X) (Hp : Heap) (o : Nat) (j_tape : Nat) (j_tongue : Nat) (j_row : Nat) (j_trees : Nat) (j_choices : Nat) (pv : Option Nat) (st : Int) (n1 : Int) (g_o : X.1 o = (999, 0, 0, 0, 0)) (hAo : A o) (g_j_tape : X.1 j_tape = (8, 30, 0, 0, 0)) (g_j_tongue : X.1 j_tongue = (9, 30, 0, 0, 0)) (g_j_row : X.1 j_row = (6, 30, 0, 0, 0)) (g_j_trees : X.1 j_trees = (10, 30, 0, 0, 0)) (g_j_choices : X.1 j_choices = (1, 30, 0, 0, 0)) (hpv : ∀ b : Nat, pv = some b → X.1 b = (4, 30, 0, 0, 0)) (hst : 0 ≤ st ∧ st ≤ 20) (n1r : -2147483648 ≤ n1 ∧ n1 ≤ 2147483647) : Met l yX11_end wsX11_end ({ frames := 1, cells := 0, slots := 0, locals := 22 }) (va_Pc [.ref o, .int (kz n1)] (fun U => U.heap = Hp ∧ jK (dC, dI) ca U ∧ jv (dC, dI) ca A X U.heap ∧ va_at (dC, dI) vwCl (o, .inr (11, [.ref j_tape, .ref j_tongue, .ref j_row, .ref j_trees, .ref j_choices, va_rf pv, .int (kz st)])) U.heap)) (va_Qi (fun (r : Int32) (u : Int) => u = st) (fun (u : Int) U => jK (dC, dI) ca U ∧ jv (dC, dI) ca A X U.heap ∧ va_at (dC, dI) vwCl (o, .inr (11, [.ref j_tape, .ref j_tongue, .ref j_row, .ref j_trees, .ref j_choices, va_rf pv, .int (kz u)])) U.heap) A) 0 0 A := by
  refine Met.ofW (cc := cX11_end) (maxL := 2) (ret := (some .int)) (by decide) rfl ?_
  intro p e s m args below meth c s₁ B hml hv
  obtain ⟨rfl, hHp, ⟨hK, hN⟩, hI, hO⟩ := hv
  have hx := B.exec
  have hb := B.bytes
  have hr := B.returns
  have hts := atoms_spec (ws := wsX11_end) B.pre
  have hown : s.vm.findClass RX11 = some m.cls := findClass_of_methodNamed B.named
  have hL12 := hts (.fieldLink RX11 12 "JoinBench" "tape" "LJoinBench$Tape;") (by decide +kernel)
  have hL60 := hts (.fieldLink RX11 60 "JoinBench$Tape" "size" "I") (by decide +kernel)
  have hinX11 : ∀ w ∈ u_ws RX11 TX11 7, w ∈ wsX11_end := by decide +kernel
  have hinX8 : ∀ w ∈ u_ws RX8 TX8 2, w ∈ wsX11_end := by decide +kernel
  obtain ⟨H, hH⟩ : ∃ H : Heap, H = s.heap := ⟨_, rfl⟩
  have hS : va_S A s.heap H [] := by rw [hH]; exact va_S.rf
  have hF : kfm X [8] Hp H := by rw [hH, hHp]; exact fm_rf _ _ _
  rw [← hH] at hI hO ⊢
  clear hH
  have hl := lv_entry ([.ref o, .int (kz n1)]) (n := 2) (Nat.le_of_ble_eq_true rfl)
  rw [lg_entry_eq]
  generalize (lg_sl ([.ref o, .int (kz n1)]) ++ List.replicate (2 - (lg_sl ([.ref o, .int (kz n1)])).length) Slot.unset).toArray = ls at hl ⊢
  have hl : lv_has ls 2 [(0, .ref o), (1, .int (kz n1))] := hl
  refine lv_iload_n hx hb dX11_end_0 rfl (lv_at hl 1 rfl) ?_
  refine lv_iconst (v := kz 0) hx hb dX11_end_1 rfl ?_
  refine lv_aload_n hx hb dX11_end_2 rfl (lv_at hl 0 rfl) ?_
  refine iz_get (D := (dC, dI)) (ci := 11) (v := .ref j_tape) (C := RX11) (T := TX11) (N := 7) hx hb hts hinX11 hown hK hO rfl 0 (by decide) hL12 (fun _ h9 => h9) rfl dX11_end_3 ?_
  obtain ⟨fs9, co_1, jo9⟩ := jv_o8 hI g_j_tape
  obtain ⟨bytes_1, size_1, rfl, g_bytes_1, ⟨size_1a, size_1b⟩⟩ := jo9
  refine iz_get (D := (dC, dI)) (ci := 8) (v := .int (kz size_1)) (C := RX8) (T := TX8) (N := 2) hx hb hts hinX8 hown hK co_1 rfl 1 (by decide) hL60 (fun _ h9 => h9) rfl dX11_end_6 ?_
  refine vp_callSi (va_Run.run (va_runS (As := [.int (kz n1), .int (kz 0), .int (kz size_1)]) (rest := []) ⟨hx, hb, hml, hown, hts⟩ (c_within l n1 0 size_1 (by omega) (by omega) (by omega)) (va_cwS 3 hts gX11_end_X11_within rfl rfl rfl (by decide +kernel) ⟨Nat.le_of_ble_eq_true rfl, Nat.le_of_ble_eq_true rfl⟩) ⟨fun a U g mk q => q, fun U hU hW => ⟨rfl, trivial⟩⟩ rfl rfl hl.1 rfl (lv_room (Nat.le_of_ble_eq_true rfl)) dX11_end_9 ⟨Nat.le_of_ble_eq_true rfl, Nat.le_of_ble_eq_true rfl⟩)) (fun r_3 hw_2 => ?_)
  rcases hw_2 with ⟨rfl, hw_2⟩ | ⟨rfl, hw_2⟩
  · refine iz_nez (tgt := 17) hx hb dX11_end_12 (by decide) (by unfold rg2; omega) (fun _ => ?_) (fun q9 => absurd q9 (by decide))
    refine lv_aload_n hx hb dX11_end_17 rfl (lv_at hl 0 rfl) ?_
    refine iz_get (D := (dC, dI)) (ci := 11) (v := .ref j_tape) (C := RX11) (T := TX11) (N := 7) hx hb hts hinX11 hown hK hO rfl 0 (by decide) hL12 (fun _ h9 => h9) rfl dX11_end_18 ?_
    refine lv_iload_n hx hb dX11_end_21 rfl (lv_at hl 1 rfl) ?_
    refine iz_put (D := (dC, dI)) (ci := 8) (v := .int (kz n1)) (ty := .int) (C := RX8) (T := TX8) (N := 2) hx hb hts hinX8 tyX8 tyX8_ok nmX8 hown hK co_1 hS (jv_A hI g_j_tape (show (30 : Nat) ≠ 0 by decide)) rfl 1 (by decide) hL60 (fun _ h9 => h9) rfl (by decide +kernel) rfl rfl (Nat.le_of_ble_eq_true rfl) dX11_end_22 (fun H locs c9 oq hS => ?_)
    have hI := jv_set hI c9 oq (by rw [g_j_tape]; exact jv_c8 ⟨bytes_1, n1, rfl, g_bytes_1, ⟨by omega, by omega⟩⟩)
    have hF := fm_put hF g_j_tape (show (8 : Nat) ∈ [8] by decide) oq
    have hO := hO.kept (oq _ (kn_ne g_o g_j_tape (show (999 : Nat) ≠ 8 by decide)))
    have co_1 := c9
    clear oq c9
    refine lv_iload_n hx hb dX11_end_25 rfl (lv_at hl 1 rfl) ?_
    exact W.iret (v := kz n1) hx hb hr (fun t9 ht hW => ⟨⟨kz n1, st, rfl, rfl, jK_warm hW ⟨hK, hN⟩, by rw [ht]; exact ⟨hI, hO⟩⟩, hS.F ht⟩) hS.2.2 dX11_end_26
  · refine iz_nez (tgt := 17) hx hb dX11_end_12 (by decide) (by unfold rg2; omega) (fun q9 => absurd q9 (by decide)) (fun _ => ?_)
    refine lv_iconst (v := kz (-1)) hx hb dX11_end_15 rfl ?_
    exact W.iret (v := kz (-1)) hx hb hr (fun t9 ht hW => ⟨⟨kz (-1), st, rfl, rfl, jK_warm hW ⟨hK, hN⟩, by rw [ht]; exact ⟨hI, hO⟩⟩, hS.F ht⟩) hS.2.2 dX11_end_16
set_option maxHeartbeats 4000000 in
set_option maxRecDepth 100000 in
/-- X11_meets -/
theorem j_meets (l : Launch) (dC : Nat → ClassId) (dI : Nat → Nat → Nat) (ca : Nat → ClassId) (A : Nat → Prop) (X : jG) (hU : jU X) (Hp : Heap) (o : Nat) (j_tape : Nat) (j_tongue : Nat) (j_row : Nat) (j_trees : Nat) (j_choices : Nat) (pv : Option Nat) (st : Int) (x : Int) (y : Int) (may : Int) (g_o : X.1 o = (999, 0, 0, 0, 0)) (hAo : A o) (g_j_tape : X.1 j_tape = (8, 30, 0, 0, 0)) (g_j_tongue : X.1 j_tongue = (9, 30, 0, 0, 0)) (g_j_row : X.1 j_row = (6, 30, 0, 0, 0)) (g_j_trees : X.1 j_trees = (10, 30, 0, 0, 0)) (g_j_choices : X.1 j_choices = (1, 30, 0, 0, 0)) (hpv : ∀ b : Nat, pv = some b → X.1 b = (4, 30, 0, 0, 0)) (hst : 0 ≤ st ∧ st ≤ 20) (xr : -2147483648 ≤ x ∧ x ≤ 2147483647) (yr : -2147483648 ≤ y ∧ y ≤ 2147483647) (mayr : -2147483648 ≤ may ∧ may ≤ 2147483647) : Met l yX11_meets wsX11_meets ({ frames := 2, cells := 0, slots := 0, locals := 42 }) (va_Pc [.ref o, .int (kz x), .int (kz y), .int (kz may)] (fun U => U.heap = Hp ∧ jK (dC, dI) ca U ∧ jv (dC, dI) ca A X U.heap ∧ va_at (dC, dI) vwCl (o, .inr (11, [.ref j_tape, .ref j_tongue, .ref j_row, .ref j_trees, .ref j_choices, va_rf pv, .int (kz st)])) U.heap)) (va_Qi (fun (r : Int32) (u : Int) => u = st) (fun (u : Int) U => jK (dC, dI) ca U ∧ jv (dC, dI) ca A X U.heap ∧ va_at (dC, dI) vwCl (o, .inr (11, [.ref j_tape, .ref j_tongue, .ref j_row, .ref j_trees, .ref j_choices, va_rf pv, .int (kz u)])) U.heap) A) 0 0 A := by
  refine Met.ofW (cc := cX11_meets) (maxL := 4) (ret := (some .boolean)) (by decide) rfl ?_
  intro p e s m args below meth c s₁ B hml hv
  obtain ⟨rfl, hHp, ⟨hK, hN⟩, hI, hO⟩ := hv
  have hx := B.exec
  have hb := B.bytes
  have hr := B.returns
  have hts := atoms_spec (ws := wsX11_meets) B.pre
  have hown : s.vm.findClass RX11 = some m.cls := findClass_of_methodNamed B.named
  have hL19 := hts (.fieldLink RX11 19 "JoinBench" "tongue" "LJoinBench$Tongue;") (by decide +kernel)
  have hinX11 : ∀ w ∈ u_ws RX11 TX11 7, w ∈ wsX11_meets := by decide +kernel
  obtain ⟨H, hH⟩ : ∃ H : Heap, H = s.heap := ⟨_, rfl⟩
  have hS : va_S A s.heap H [] := by rw [hH]; exact va_S.rf
  have hF : kfm X [214] Hp H := by rw [hH, hHp]; exact fm_rf _ _ _
  rw [← hH] at hI hO ⊢
  clear hH
  have hl := lv_entry ([.ref o, .int (kz x), .int (kz y), .int (kz may)]) (n := 4) (Nat.le_of_ble_eq_true rfl)
  rw [lg_entry_eq]
  generalize (lg_sl ([.ref o, .int (kz x), .int (kz y), .int (kz may)]) ++ List.replicate (4 - (lg_sl ([.ref o, .int (kz x), .int (kz y), .int (kz may)])).length) Slot.unset).toArray = ls at hl ⊢
  have hl : lv_has ls 4 [(0, .ref o), (1, .int (kz x)), (2, .int (kz y)), (3, .int (kz may))] := hl
  refine lv_iload_n hx hb dX11_meets_0 rfl (lv_at hl 1 rfl) ?_
  refine vp_callSi (va_Run.run (va_runS (As := [.int (kz x)]) (rest := []) ⟨hx, hb, hml, hown, hts⟩ (c_isKind l x (by omega)) (va_cwS 1 hts gX11_meets_X11_isKind rfl rfl rfl (by decide +kernel) ⟨Nat.le_of_ble_eq_true rfl, Nat.le_of_ble_eq_true rfl⟩) ⟨fun a U g mk q => q, fun U hU hW => ⟨rfl, trivial⟩⟩ rfl rfl hl.1 rfl (lv_room (Nat.le_of_ble_eq_true rfl)) dX11_meets_1 ⟨Nat.le_of_ble_eq_true rfl, Nat.le_of_ble_eq_true rfl⟩)) (fun r_2 hw_1 => ?_)
  rcases hw_1 with ⟨rfl, hw_1⟩ | ⟨rfl, hw_1⟩
  · refine iz_eqz (tgt := 14) hx hb dX11_meets_4 (by decide) (by unfold rg2; omega) (fun q9 => absurd q9 (by decide)) (fun _ => ?_)
    refine lv_iload_n hx hb dX11_meets_7 rfl (lv_at hl 2 rfl) ?_
    refine vp_callSi (va_Run.run (va_runS (As := [.int (kz y)]) (rest := []) ⟨hx, hb, hml, hown, hts⟩ (c_isKind l y (by omega)) (va_cwS 1 hts gX11_meets_X11_isKind rfl rfl rfl (by decide +kernel) ⟨Nat.le_of_ble_eq_true rfl, Nat.le_of_ble_eq_true rfl⟩) ⟨fun a U g mk q => q, fun U hU hW => ⟨rfl, trivial⟩⟩ rfl rfl hl.1 rfl (lv_room (Nat.le_of_ble_eq_true rfl)) dX11_meets_8 ⟨Nat.le_of_ble_eq_true rfl, Nat.le_of_ble_eq_true rfl⟩)) (fun r_4 hw_3 => ?_)
    rcases hw_3 with ⟨rfl, hw_3⟩ | ⟨rfl, hw_3⟩
    · refine iz_nez (tgt := 16) hx hb dX11_meets_11 (by decide) (by unfold rg2; omega) (fun _ => ?_) (fun q9 => absurd q9 (by decide))
      refine lv_aload_n hx hb dX11_meets_16 rfl (lv_at hl 0 rfl) ?_
      refine iz_get (D := (dC, dI)) (ci := 11) (v := .ref j_tongue) (C := RX11) (T := TX11) (N := 7) hx hb hts hinX11 hown hK hO rfl 1 (by decide) hL19 (fun _ h9 => h9) rfl dX11_meets_17 ?_
      refine lv_iload_n hx hb dX11_meets_20 rfl (lv_at hl 1 rfl) ?_
      refine lv_iload_n hx hb dX11_meets_21 rfl (lv_at hl 2 rfl) ?_
      refine lv_iload_n hx hb dX11_meets_22 rfl (lv_at hl 3 rfl) ?_
      obtain ⟨fs9, co_5, jo9⟩ := jv_o9 hI g_j_tongue
      obtain ⟨forms_5, rules_5, formCount_5, ruleCount_5, forbidden_5, rfl, g_forms_5, g_rules_5, ⟨formCount_5a, formCount_5b⟩, ⟨ruleCount_5a, ruleCount_5b⟩, g_forbidden_5, x_5_0, x_5_1, x_5_2⟩ := jo9
      refine va_calli (va_runV (As := [.int (kz x), .int (kz y), .int (kz may)]) (rest := []) ⟨hx, hb, hml, hown, hts⟩ (c_setMeeting l dC dI ca A X hU H j_tongue x y may g_j_tongue (by omega) (by omega) (by omega)) (cwV 3 hts gX11_meets_X9_setMeeting rfl rfl rfl (by decide +kernel) ⟨Nat.le_of_ble_eq_true rfl, Nat.le_of_ble_eq_true rfl⟩) ⟨fun a U g mk q => by obtain ⟨q0, qH, ⟨qK, qN⟩, qI⟩ := q; exact ⟨q0, qH, ⟨va_K.moved (u := U) (U := U.calling g mk a) (Vm.Alike.refl U.vm) qK, jN_same (U := U.calling g mk a) rfl qN⟩, qI⟩, va_recv hK (at_P co_5) (ci := 9) (q0 := 0) rfl rfl, fun U hU hW => ⟨rfl, hU, jK_warm hW ⟨hK, hN⟩, by rw [hU]; exact hI⟩⟩ rfl rfl hl.1 rfl (lv_room (Nat.le_of_ble_eq_true rfl)) dX11_meets_23 ⟨Nat.le_of_ble_eq_true rfl, Nat.le_of_ble_eq_true rfl⟩) hS (fun q _ h => h) (fun q h => h) (fun r_7 u t9 H locs ht hvm hw_6 hB hz1 hk1 hS => ?_)
      obtain ⟨-, hI, hf9⟩ := hB
      rw [ht] at hI hf9
      clear ht hvm hz1
      have hO := fm_at hf9 g_o (show (999 : Nat) ∉ ([214] : List Nat) by decide) hO
      have co_5 := fm_at hf9 g_j_tongue (show (9 : Nat) ∉ ([214] : List Nat) by decide) co_5
      have hF := fm_tr hF hf9 (by decide)
      clear hk1 hf9
      rcases hw_6 with rfl | rfl
      · exact W.zret (v := kz 1) hx hb hr (by decide) (fun t9 ht hW => ⟨⟨kz 1, st, rfl, rfl, jK_warm hW ⟨hK, hN⟩, by rw [ht]; exact ⟨hI, hO⟩⟩, hS.F ht⟩) hS.2.2 dX11_meets_26
      · exact W.zret (v := kz 0) hx hb hr (by decide) (fun t9 ht hW => ⟨⟨kz 0, st, rfl, rfl, jK_warm hW ⟨hK, hN⟩, by rw [ht]; exact ⟨hI, hO⟩⟩, hS.F ht⟩) hS.2.2 dX11_meets_26
    · refine iz_nez (tgt := 16) hx hb dX11_meets_11 (by decide) (by unfold rg2; omega) (fun q9 => absurd q9 (by decide)) (fun _ => ?_)
      refine lv_iconst (v := kz 0) hx hb dX11_meets_14 rfl ?_
      exact W.zret (v := kz 0) hx hb hr (by decide) (fun t9 ht hW => ⟨⟨kz 0, st, rfl, rfl, jK_warm hW ⟨hK, hN⟩, by rw [ht]; exact ⟨hI, hO⟩⟩, hS.F ht⟩) hS.2.2 dX11_meets_15
  · refine iz_eqz (tgt := 14) hx hb dX11_meets_4 (by decide) (by unfold rg2; omega) (fun _ => ?_) (fun q9 => absurd q9 (by decide))
    refine lv_iconst (v := kz 0) hx hb dX11_meets_14 rfl ?_
    exact W.zret (v := kz 0) hx hb hr (by decide) (fun t9 ht hW => ⟨⟨kz 0, st, rfl, rfl, jK_warm hW ⟨hK, hN⟩, by rw [ht]; exact ⟨hI, hO⟩⟩, hS.F ht⟩) hS.2.2 dX11_meets_15
set_option maxHeartbeats 4000000 in
set_option maxRecDepth 100000 in
/-- X11_becomes -/
theorem j_becomes (l : Launch) (dC : Nat → ClassId) (dI : Nat → Nat → Nat) (ca : Nat → ClassId) (A : Nat → Prop) (X : jG) (hU : jU X) (Hp : Heap) (o : Nat) (j_tape : Nat) (j_tongue : Nat) (j_row : Nat) (j_trees : Nat) (j_choices : Nat) (pv : Option Nat) (st : Int) (x : Int) (y : Int) (k : Int) (g_o : X.1 o = (999, 0, 0, 0, 0)) (hAo : A o) (g_j_tape : X.1 j_tape = (8, 30, 0, 0, 0)) (g_j_tongue : X.1 j_tongue = (9, 30, 0, 0, 0)) (g_j_row : X.1 j_row = (6, 30, 0, 0, 0)) (g_j_trees : X.1 j_trees = (10, 30, 0, 0, 0)) (g_j_choices : X.1 j_choices = (1, 30, 0, 0, 0)) (hpv : ∀ b : Nat, pv = some b → X.1 b = (4, 30, 0, 0, 0)) (hst : 0 ≤ st ∧ st ≤ 20) (xr : -2147483648 ≤ x ∧ x ≤ 2147483647) (yr : -2147483648 ≤ y ∧ y ≤ 2147483647) (kr : -2147483648 ≤ k ∧ k ≤ 2147483647) : Met l yX11_becomes wsX11_becomes ({ frames := 2, cells := 0, slots := 0, locals := 42 }) (va_Pc [.ref o, .int (kz x), .int (kz y), .int (kz k)] (fun U => U.heap = Hp ∧ jK (dC, dI) ca U ∧ jv (dC, dI) ca A X U.heap ∧ va_at (dC, dI) vwCl (o, .inr (11, [.ref j_tape, .ref j_tongue, .ref j_row, .ref j_trees, .ref j_choices, va_rf pv, .int (kz st)])) U.heap)) (va_Qi (fun (r : Int32) (u : Int) => u = st) (fun (u : Int) U => jK (dC, dI) ca U ∧ jv (dC, dI) ca A X U.heap ∧ va_at (dC, dI) vwCl (o, .inr (11, [.ref j_tape, .ref j_tongue, .ref j_row, .ref j_trees, .ref j_choices, va_rf pv, .int (kz u)])) U.heap) A) 0 0 A := by
  refine Met.ofW (cc := cX11_becomes) (maxL := 4) (ret := (some .int)) (by decide) rfl ?_
  intro p e s m args below meth c s₁ B hml hv
  obtain ⟨rfl, hHp, ⟨hK, hN⟩, hI, hO⟩ := hv
  have hx := B.exec
  have hb := B.bytes
  have hr := B.returns
  have hts := atoms_spec (ws := wsX11_becomes) B.pre
  have hown : s.vm.findClass RX11 = some m.cls := findClass_of_methodNamed B.named
  have hL33 := hts (.fieldLink RX11 33 "JoinBench" "trees" "LJoinBench$Trees;") (by decide +kernel)
  have hinX11 : ∀ w ∈ u_ws RX11 TX11 7, w ∈ wsX11_becomes := by decide +kernel
  obtain ⟨H, hH⟩ : ∃ H : Heap, H = s.heap := ⟨_, rfl⟩
  have hS : va_S A s.heap H [] := by rw [hH]; exact va_S.rf
  have hF : kfm X [229] Hp H := by rw [hH, hHp]; exact fm_rf _ _ _
  rw [← hH] at hI hO ⊢
  clear hH
  have hl := lv_entry ([.ref o, .int (kz x), .int (kz y), .int (kz k)]) (n := 4) (Nat.le_of_ble_eq_true rfl)
  rw [lg_entry_eq]
  generalize (lg_sl ([.ref o, .int (kz x), .int (kz y), .int (kz k)]) ++ List.replicate (4 - (lg_sl ([.ref o, .int (kz x), .int (kz y), .int (kz k)])).length) Slot.unset).toArray = ls at hl ⊢
  have hl : lv_has ls 4 [(0, .ref o), (1, .int (kz x)), (2, .int (kz y)), (3, .int (kz k))] := hl
  refine lv_iload_n hx hb dX11_becomes_0 rfl (lv_at hl 1 rfl) ?_
  refine vp_callSi (va_Run.run (va_runS (As := [.int (kz x)]) (rest := []) ⟨hx, hb, hml, hown, hts⟩ (c_isKind l x (by omega)) (va_cwS 1 hts gX11_becomes_X11_isKind rfl rfl rfl (by decide +kernel) ⟨Nat.le_of_ble_eq_true rfl, Nat.le_of_ble_eq_true rfl⟩) ⟨fun a U g mk q => q, fun U hU hW => ⟨rfl, trivial⟩⟩ rfl rfl hl.1 rfl (lv_room (Nat.le_of_ble_eq_true rfl)) dX11_becomes_1 ⟨Nat.le_of_ble_eq_true rfl, Nat.le_of_ble_eq_true rfl⟩)) (fun r_2 hw_1 => ?_)
  rcases hw_1 with ⟨rfl, hw_1⟩ | ⟨rfl, hw_1⟩
  · refine iz_eqz (tgt := 26) hx hb dX11_becomes_4 (by decide) (by unfold rg2; omega) (fun q9 => absurd q9 (by decide)) (fun _ => ?_)
    refine lv_iload_n hx hb dX11_becomes_7 rfl (lv_at hl 2 rfl) ?_
    refine vp_callSi (va_Run.run (va_runS (As := [.int (kz y)]) (rest := []) ⟨hx, hb, hml, hown, hts⟩ (c_isKind l y (by omega)) (va_cwS 1 hts gX11_becomes_X11_isKind rfl rfl rfl (by decide +kernel) ⟨Nat.le_of_ble_eq_true rfl, Nat.le_of_ble_eq_true rfl⟩) ⟨fun a U g mk q => q, fun U hU hW => ⟨rfl, trivial⟩⟩ rfl rfl hl.1 rfl (lv_room (Nat.le_of_ble_eq_true rfl)) dX11_becomes_8 ⟨Nat.le_of_ble_eq_true rfl, Nat.le_of_ble_eq_true rfl⟩)) (fun r_4 hw_3 => ?_)
    rcases hw_3 with ⟨rfl, hw_3⟩ | ⟨rfl, hw_3⟩
    · refine iz_eqz (tgt := 26) hx hb dX11_becomes_11 (by decide) (by unfold rg2; omega) (fun q9 => absurd q9 (by decide)) (fun _ => ?_)
      refine lv_iload_n hx hb dX11_becomes_14 rfl (lv_at hl 3 rfl) ?_
      refine lv_iconst (v := kz (-1)) hx hb dX11_becomes_15 rfl ?_
      refine iz_eq (tgt := 29) hx hb dX11_becomes_16 (by decide) (by unfold rg2; omega) (fun br_5 => ?_) (fun br_5 => ?_)
      · refine lv_aload_n hx hb dX11_becomes_29 rfl (lv_at hl 0 rfl) ?_
        refine iz_get (D := (dC, dI)) (ci := 11) (v := .ref j_trees) (C := RX11) (T := TX11) (N := 7) hx hb hts hinX11 hown hK hO rfl 3 (by decide) hL33 (fun _ h9 => h9) rfl dX11_becomes_30 ?_
        refine lv_iload_n hx hb dX11_becomes_33 rfl (lv_at hl 1 rfl) ?_
        refine lv_iload_n hx hb dX11_becomes_34 rfl (lv_at hl 2 rfl) ?_
        refine lv_iload_n hx hb dX11_becomes_35 rfl (lv_at hl 3 rfl) ?_
        obtain ⟨fs9, co_6, jo9⟩ := jv_o10 hI g_j_trees
        obtain ⟨kinds_6, ways_6, rfl, g_kinds_6, q_ways_6⟩ := jo9
        refine va_calli (va_runV (As := [.int (kz x), .int (kz y), .int (kz k)]) (rest := []) ⟨hx, hb, hml, hown, hts⟩ (c_setKind l dC dI ca A X hU H j_trees x y k g_j_trees (by omega) (by omega) (by omega)) (cwV 3 hts gX11_becomes_X10_setKind rfl rfl rfl (by decide +kernel) ⟨Nat.le_of_ble_eq_true rfl, Nat.le_of_ble_eq_true rfl⟩) ⟨fun a U g mk q => by obtain ⟨q0, qH, ⟨qK, qN⟩, qI⟩ := q; exact ⟨q0, qH, ⟨va_K.moved (u := U) (U := U.calling g mk a) (Vm.Alike.refl U.vm) qK, jN_same (U := U.calling g mk a) rfl qN⟩, qI⟩, va_recv hK (at_P co_6) (ci := 10) (q0 := 0) rfl rfl, fun U hU hW => ⟨rfl, hU, jK_warm hW ⟨hK, hN⟩, by rw [hU]; exact hI⟩⟩ rfl rfl hl.1 rfl (lv_room (Nat.le_of_ble_eq_true rfl)) dX11_becomes_36 ⟨Nat.le_of_ble_eq_true rfl, Nat.le_of_ble_eq_true rfl⟩) hS (fun q _ h => h) (fun q h => h) (fun r_8 u t9 H locs ht hvm hw_7 hB hz1 hk1 hS => ?_)
        obtain ⟨-, hI, hf9⟩ := hB
        rw [ht] at hI hf9
        clear ht hvm hz1
        have hO := fm_at hf9 g_o (show (999 : Nat) ∉ ([229] : List Nat) by decide) hO
        have co_6 := fm_at hf9 g_j_trees (show (10 : Nat) ∉ ([229] : List Nat) by decide) co_6
        have hF := fm_tr hF hf9 (by decide)
        clear hk1 hf9
        obtain ⟨z_9, z_9a, z_9b, rfl⟩ := kz_ex r_8
        exact W.iret (v := kz z_9) hx hb hr (fun t9 ht hW => ⟨⟨kz z_9, st, rfl, rfl, jK_warm hW ⟨hK, hN⟩, by rw [ht]; exact ⟨hI, hO⟩⟩, hS.F ht⟩) hS.2.2 dX11_becomes_39
      · refine lv_iload_n hx hb dX11_becomes_19 rfl (lv_at hl 3 rfl) ?_
        refine vp_callSi (va_Run.run (va_runS (As := [.int (kz k)]) (rest := []) ⟨hx, hb, hml, hown, hts⟩ (c_isKind l k (by omega)) (va_cwS 1 hts gX11_becomes_X11_isKind rfl rfl rfl (by decide +kernel) ⟨Nat.le_of_ble_eq_true rfl, Nat.le_of_ble_eq_true rfl⟩) ⟨fun a U g mk q => q, fun U hU hW => ⟨rfl, trivial⟩⟩ rfl rfl hl.1 rfl (lv_room (Nat.le_of_ble_eq_true rfl)) dX11_becomes_20 ⟨Nat.le_of_ble_eq_true rfl, Nat.le_of_ble_eq_true rfl⟩)) (fun r_11 hw_10 => ?_)
        rcases hw_10 with ⟨rfl, hw_10⟩ | ⟨rfl, hw_10⟩
        · refine iz_nez (tgt := 29) hx hb dX11_becomes_23 (by decide) (by unfold rg2; omega) (fun _ => ?_) (fun q9 => absurd q9 (by decide))
          refine lv_aload_n hx hb dX11_becomes_29 rfl (lv_at hl 0 rfl) ?_
          refine iz_get (D := (dC, dI)) (ci := 11) (v := .ref j_trees) (C := RX11) (T := TX11) (N := 7) hx hb hts hinX11 hown hK hO rfl 3 (by decide) hL33 (fun _ h9 => h9) rfl dX11_becomes_30 ?_
          refine lv_iload_n hx hb dX11_becomes_33 rfl (lv_at hl 1 rfl) ?_
          refine lv_iload_n hx hb dX11_becomes_34 rfl (lv_at hl 2 rfl) ?_
          refine lv_iload_n hx hb dX11_becomes_35 rfl (lv_at hl 3 rfl) ?_
          obtain ⟨fs9, co_12, jo9⟩ := jv_o10 hI g_j_trees
          obtain ⟨kinds_12, ways_12, rfl, g_kinds_12, q_ways_12⟩ := jo9
          refine va_calli (va_runV (As := [.int (kz x), .int (kz y), .int (kz k)]) (rest := []) ⟨hx, hb, hml, hown, hts⟩ (c_setKind l dC dI ca A X hU H j_trees x y k g_j_trees (by omega) (by omega) (by omega)) (cwV 3 hts gX11_becomes_X10_setKind rfl rfl rfl (by decide +kernel) ⟨Nat.le_of_ble_eq_true rfl, Nat.le_of_ble_eq_true rfl⟩) ⟨fun a U g mk q => by obtain ⟨q0, qH, ⟨qK, qN⟩, qI⟩ := q; exact ⟨q0, qH, ⟨va_K.moved (u := U) (U := U.calling g mk a) (Vm.Alike.refl U.vm) qK, jN_same (U := U.calling g mk a) rfl qN⟩, qI⟩, va_recv hK (at_P co_12) (ci := 10) (q0 := 0) rfl rfl, fun U hU hW => ⟨rfl, hU, jK_warm hW ⟨hK, hN⟩, by rw [hU]; exact hI⟩⟩ rfl rfl hl.1 rfl (lv_room (Nat.le_of_ble_eq_true rfl)) dX11_becomes_36 ⟨Nat.le_of_ble_eq_true rfl, Nat.le_of_ble_eq_true rfl⟩) hS (fun q _ h => h) (fun q h => h) (fun r_14 u t9 H locs ht hvm hw_13 hB hz1 hk1 hS => ?_)
          obtain ⟨-, hI, hf9⟩ := hB
          rw [ht] at hI hf9
          clear ht hvm hz1
          have hO := fm_at hf9 g_o (show (999 : Nat) ∉ ([229] : List Nat) by decide) hO
          have co_12 := fm_at hf9 g_j_trees (show (10 : Nat) ∉ ([229] : List Nat) by decide) co_12
          have hF := fm_tr hF hf9 (by decide)
          clear hk1 hf9
          obtain ⟨z_15, z_15a, z_15b, rfl⟩ := kz_ex r_14
          exact W.iret (v := kz z_15) hx hb hr (fun t9 ht hW => ⟨⟨kz z_15, st, rfl, rfl, jK_warm hW ⟨hK, hN⟩, by rw [ht]; exact ⟨hI, hO⟩⟩, hS.F ht⟩) hS.2.2 dX11_becomes_39
        · refine iz_nez (tgt := 29) hx hb dX11_becomes_23 (by decide) (by unfold rg2; omega) (fun q9 => absurd q9 (by decide)) (fun _ => ?_)
          refine lv_bipush (v := kz (-2)) hx hb dX11_becomes_26 (by decide) ?_
          exact W.iret (v := kz (-2)) hx hb hr (fun t9 ht hW => ⟨⟨kz (-2), st, rfl, rfl, jK_warm hW ⟨hK, hN⟩, by rw [ht]; exact ⟨hI, hO⟩⟩, hS.F ht⟩) hS.2.2 dX11_becomes_28
    · refine iz_eqz (tgt := 26) hx hb dX11_becomes_11 (by decide) (by unfold rg2; omega) (fun _ => ?_) (fun q9 => absurd q9 (by decide))
      refine lv_bipush (v := kz (-2)) hx hb dX11_becomes_26 (by decide) ?_
      exact W.iret (v := kz (-2)) hx hb hr (fun t9 ht hW => ⟨⟨kz (-2), st, rfl, rfl, jK_warm hW ⟨hK, hN⟩, by rw [ht]; exact ⟨hI, hO⟩⟩, hS.F ht⟩) hS.2.2 dX11_becomes_28
  · refine iz_eqz (tgt := 26) hx hb dX11_becomes_4 (by decide) (by unfold rg2; omega) (fun _ => ?_) (fun q9 => absurd q9 (by decide))
    refine lv_bipush (v := kz (-2)) hx hb dX11_becomes_26 (by decide) ?_
    exact W.iret (v := kz (-2)) hx hb hr (fun t9 ht hW => ⟨⟨kz (-2), st, rfl, rfl, jK_warm hW ⟨hK, hN⟩, by rw [ht]; exact ⟨hI, hO⟩⟩, hS.F ht⟩) hS.2.2 dX11_becomes_28
set_option maxHeartbeats 4000000 in
set_option maxRecDepth 100000 in
/-- X11_step -/
theorem j_step (l : Launch) (dC : Nat → ClassId) (dI : Nat → Nat → Nat) (ca : Nat → ClassId) (A : Nat → Prop) (X : jG) (hU : jU X) (Hp : Heap) (o : Nat) (j_tape : Nat) (j_tongue : Nat) (j_row : Nat) (j_trees : Nat) (j_choices : Nat) (pv : Option Nat) (st : Int) (n1 : Int) (g_o : X.1 o = (999, 0, 0, 0, 0)) (hAo : A o) (g_j_tape : X.1 j_tape = (8, 30, 0, 0, 0)) (g_j_tongue : X.1 j_tongue = (9, 30, 0, 0, 0)) (g_j_row : X.1 j_row = (6, 30, 0, 0, 0)) (g_j_trees : X.1 j_trees = (10, 30, 0, 0, 0)) (g_j_choices : X.1 j_choices = (1, 30, 0, 0, 0)) (hpv : ∀ b : Nat, pv = some b → X.1 b = (4, 30, 0, 0, 0)) (hst : 0 ≤ st ∧ st ≤ 20) (n1r : -2147483648 ≤ n1 ∧ n1 ≤ 2147483647) : Met l yX11_step wsX11_step ({ frames := 1, cells := 0, slots := 0, locals := 22 }) (va_Pc [.ref o, .int (kz n1)] (fun U => U.heap = Hp ∧ jK (dC, dI) ca U ∧ jv (dC, dI) ca A X U.heap ∧ va_at (dC, dI) vwCl (o, .inr (11, [.ref j_tape, .ref j_tongue, .ref j_row, .ref j_trees, .ref j_choices, va_rf pv, .int (kz st)])) U.heap)) (va_Qi (fun (r : Int32) (u : Int) => ((0 ≤ n1 ∧ n1 ≤ 20) ∧ r = kz st ∧ u = n1) ∨ (¬ (0 ≤ n1 ∧ n1 ≤ 20) ∧ r = kz (-1) ∧ u = st)) (fun (u : Int) U => jK (dC, dI) ca U ∧ jv (dC, dI) ca A X U.heap ∧ va_at (dC, dI) vwCl (o, .inr (11, [.ref j_tape, .ref j_tongue, .ref j_row, .ref j_trees, .ref j_choices, va_rf pv, .int (kz u)])) U.heap) A) 0 0 A := by
  refine Met.ofW (cc := cX11_step) (maxL := 3) (ret := (some .int)) (by decide) rfl ?_
  intro p e s m args below meth c s₁ B hml hv
  obtain ⟨rfl, hHp, ⟨hK, hN⟩, hI, hO⟩ := hv
  have hx := B.exec
  have hb := B.bytes
  have hr := B.returns
  have hts := atoms_spec (ws := wsX11_step) B.pre
  have hown : s.vm.findClass RX11 = some m.cls := findClass_of_methodNamed B.named
  have hL48 := hts (.fieldLink RX11 48 "JoinBench" "step" "I") (by decide +kernel)
  have hinX11 : ∀ w ∈ u_ws RX11 TX11 7, w ∈ wsX11_step := by decide +kernel
  obtain ⟨H, hH⟩ : ∃ H : Heap, H = s.heap := ⟨_, rfl⟩
  have hS : va_S A s.heap H [] := by rw [hH]; exact va_S.rf
  have hF : kfm X [999] Hp H := by rw [hH, hHp]; exact fm_rf _ _ _
  rw [← hH] at hI hO ⊢
  clear hH
  have hl := lv_entry ([.ref o, .int (kz n1)]) (n := 3) (Nat.le_of_ble_eq_true rfl)
  rw [lg_entry_eq]
  generalize (lg_sl ([.ref o, .int (kz n1)]) ++ List.replicate (3 - (lg_sl ([.ref o, .int (kz n1)])).length) Slot.unset).toArray = ls at hl ⊢
  have hl : lv_has ls 3 [(0, .ref o), (1, .int (kz n1))] := hl
  refine lv_iload_n hx hb dX11_step_0 rfl (lv_at hl 1 rfl) ?_
  refine lv_iconst (v := kz 0) hx hb dX11_step_1 rfl ?_
  refine lv_bipush (v := kz 20) hx hb dX11_step_2 (by decide) ?_
  refine vp_callSi (va_Run.run (va_runS (As := [.int (kz n1), .int (kz 0), .int (kz 20)]) (rest := []) ⟨hx, hb, hml, hown, hts⟩ (c_within l n1 0 20 (by omega) (by omega) (by omega)) (va_cwS 3 hts gX11_step_X11_within rfl rfl rfl (by decide +kernel) ⟨Nat.le_of_ble_eq_true rfl, Nat.le_of_ble_eq_true rfl⟩) ⟨fun a U g mk q => q, fun U hU hW => ⟨rfl, trivial⟩⟩ rfl rfl hl.1 rfl (lv_room (Nat.le_of_ble_eq_true rfl)) dX11_step_4 ⟨Nat.le_of_ble_eq_true rfl, Nat.le_of_ble_eq_true rfl⟩)) (fun r_2 hw_1 => ?_)
  rcases hw_1 with ⟨rfl, hw_1⟩ | ⟨rfl, hw_1⟩
  · refine iz_nez (tgt := 12) hx hb dX11_step_7 (by decide) (by unfold rg2; omega) (fun _ => ?_) (fun q9 => absurd q9 (by decide))
    refine lv_aload_n hx hb dX11_step_12 rfl (lv_at hl 0 rfl) ?_
    refine iz_get (D := (dC, dI)) (ci := 11) (v := .int (kz st)) (C := RX11) (T := TX11) (N := 7) hx hb hts hinX11 hown hK hO rfl 6 (by decide) hL48 (fun _ h9 => h9) rfl dX11_step_13 ?_
    refine lv_istore_n (lv' := [(2, .int (kz st)), (0, .ref o), (1, .int (kz n1))]) hx hb dX11_step_16 rfl hl (by decide) rfl (fun ls hl => ?_)
    refine lv_aload_n hx hb dX11_step_17 rfl (lv_at hl 1 rfl) ?_
    refine lv_iload_n hx hb dX11_step_18 rfl (lv_at hl 2 rfl) ?_
    refine iz_put (D := (dC, dI)) (ci := 11) (v := .int (kz n1)) (ty := .int) (C := RX11) (T := TX11) (N := 7) hx hb hts hinX11 tyX11 tyX11_ok nmX11 hown hK hO hS hAo rfl 6 (by decide) hL48 (fun _ h9 => h9) rfl (by decide +kernel) rfl rfl (Nat.le_of_ble_eq_true rfl) dX11_step_19 (fun H locs c9 oq hS => ?_)
    have hI := jv_skip hI (by rw [g_o]) oq
    have hF := fm_put hF g_o (show (999 : Nat) ∈ [999] by decide) oq
    have hO := c9
    clear oq c9
    refine lv_iload_n hx hb dX11_step_22 rfl (lv_at hl 0 rfl) ?_
    exact W.iret (v := kz st) hx hb hr (fun t9 ht hW => ⟨⟨kz st, n1, rfl, Or.inl ⟨by omega, rfl, rfl⟩, jK_warm hW ⟨hK, hN⟩, by rw [ht]; exact ⟨hI, hO⟩⟩, hS.F ht⟩) hS.2.2 dX11_step_23
  · refine iz_nez (tgt := 12) hx hb dX11_step_7 (by decide) (by unfold rg2; omega) (fun q9 => absurd q9 (by decide)) (fun _ => ?_)
    refine lv_iconst (v := kz (-1)) hx hb dX11_step_10 rfl ?_
    exact W.iret (v := kz (-1)) hx hb hr (fun t9 ht hW => ⟨⟨kz (-1), st, rfl, Or.inr ⟨by omega, rfl, rfl⟩, jK_warm hW ⟨hK, hN⟩, by rw [ht]; exact ⟨hI, hO⟩⟩, hS.F ht⟩) hS.2.2 dX11_step_11
set_option maxHeartbeats 4000000 in
set_option maxRecDepth 100000 in
/-- X11_row -/
theorem j_row (l : Launch) (dC : Nat → ClassId) (dI : Nat → Nat → Nat) (ca : Nat → ClassId) (A : Nat → Prop) (X : jG) (hU : jU X) (Hp : Heap) (o : Nat) (j_tape : Nat) (j_tongue : Nat) (j_row : Nat) (j_trees : Nat) (j_choices : Nat) (pv : Option Nat) (st : Int) (day : Int) (g_o : X.1 o = (999, 0, 0, 0, 0)) (hAo : A o) (g_j_tape : X.1 j_tape = (8, 30, 0, 0, 0)) (g_j_tongue : X.1 j_tongue = (9, 30, 0, 0, 0)) (g_j_row : X.1 j_row = (6, 30, 0, 0, 0)) (g_j_trees : X.1 j_trees = (10, 30, 0, 0, 0)) (g_j_choices : X.1 j_choices = (1, 30, 0, 0, 0)) (hpv : ∀ b : Nat, pv = some b → X.1 b = (4, 30, 0, 0, 0)) (hst : 0 ≤ st ∧ st ≤ 20) (dayr : -2147483648 ≤ day ∧ day ≤ 2147483647) : Met l yX11_row wsX11_row ({ frames := 2, cells := 0, slots := 0, locals := 42 }) (va_Pc [.ref o, .int (kz day)] (fun U => U.heap = Hp ∧ jK (dC, dI) ca U ∧ jv (dC, dI) ca A X U.heap ∧ va_at (dC, dI) vwCl (o, .inr (11, [.ref j_tape, .ref j_tongue, .ref j_row, .ref j_trees, .ref j_choices, va_rf pv, .int (kz st)])) U.heap)) (va_Qi (fun (r : Int32) (u : Int) => u = st) (fun (u : Int) U => jK (dC, dI) ca U ∧ jv (dC, dI) ca A X U.heap ∧ va_at (dC, dI) vwCl (o, .inr (11, [.ref j_tape, .ref j_tongue, .ref j_row, .ref j_trees, .ref j_choices, va_rf pv, .int (kz u)])) U.heap) A) 0 0 A := by
  refine Met.ofW (cc := cX11_row) (maxL := 3) (ret := (some .int)) (by decide) rfl ?_
  intro p e s m args below meth c s₁ B hml hv
  obtain ⟨rfl, hHp, ⟨hK, hN⟩, hI, hO⟩ := hv
  have hx := B.exec
  have hb := B.bytes
  have hr := B.returns
  have hts := atoms_spec (ws := wsX11_row) B.pre
  have hown : s.vm.findClass RX11 = some m.cls := findClass_of_methodNamed B.named
  have hL26 := hts (.fieldLink RX11 26 "JoinBench" "row" "LJoinBench$Row;") (by decide +kernel)
  have hL135 := hts (.fieldLink RX11 135 "JoinBench$Row" "chain" "LJoinBench$Chain;") (by decide +kernel)
  have hL139 := hts (.fieldLink RX11 139 "JoinBench$Chain" "size" "I") (by decide +kernel)
  have hL142 := hts (.fieldLink RX11 142 "JoinBench$Row" "day" "I") (by decide +kernel)
  have hinX0 : ∀ w ∈ u_ws RX0 TX0 3, w ∈ wsX11_row := by decide +kernel
  have hinX11 : ∀ w ∈ u_ws RX11 TX11 7, w ∈ wsX11_row := by decide +kernel
  have hinX6 : ∀ w ∈ u_ws RX6 TX6 4, w ∈ wsX11_row := by decide +kernel
  obtain ⟨H, hH⟩ : ∃ H : Heap, H = s.heap := ⟨_, rfl⟩
  have hS : va_S A s.heap H [] := by rw [hH]; exact va_S.rf
  have hF : kfm X [0, 6] Hp H := by rw [hH, hHp]; exact fm_rf _ _ _
  rw [← hH] at hI hO ⊢
  clear hH
  have hl := lv_entry ([.ref o, .int (kz day)]) (n := 3) (Nat.le_of_ble_eq_true rfl)
  rw [lg_entry_eq]
  generalize (lg_sl ([.ref o, .int (kz day)]) ++ List.replicate (3 - (lg_sl ([.ref o, .int (kz day)])).length) Slot.unset).toArray = ls at hl ⊢
  have hl : lv_has ls 3 [(0, .ref o), (1, .int (kz day))] := hl
  refine lv_iload_n hx hb dX11_row_0 rfl (lv_at hl 1 rfl) ?_
  refine vp_callSi (va_Run.run (va_runS (As := [.int (kz day)]) (rest := []) ⟨hx, hb, hml, hown, hts⟩ (c_isDay l day (by omega)) (va_cwS 1 hts gX11_row_X11_isDay rfl rfl rfl (by decide +kernel) ⟨Nat.le_of_ble_eq_true rfl, Nat.le_of_ble_eq_true rfl⟩) ⟨fun a U g mk q => q, fun U hU hW => ⟨rfl, trivial⟩⟩ rfl rfl hl.1 rfl (lv_room (Nat.le_of_ble_eq_true rfl)) dX11_row_1 ⟨Nat.le_of_ble_eq_true rfl, Nat.le_of_ble_eq_true rfl⟩)) (fun r_2 hw_1 => ?_)
  rcases hw_1 with ⟨rfl, hw_1⟩ | ⟨rfl, hw_1⟩
  · refine iz_nez (tgt := 9) hx hb dX11_row_4 (by decide) (by unfold rg2; omega) (fun _ => ?_) (fun q9 => absurd q9 (by decide))
    refine lv_aload_n hx hb dX11_row_9 rfl (lv_at hl 0 rfl) ?_
    refine iz_get (D := (dC, dI)) (ci := 11) (v := .ref j_row) (C := RX11) (T := TX11) (N := 7) hx hb hts hinX11 hown hK hO rfl 2 (by decide) hL26 (fun _ h9 => h9) rfl dX11_row_10 ?_
    obtain ⟨fs9, co_3, jo9⟩ := jv_o6 hI g_j_row
    obtain ⟨chain_3, out_3, day_3, outSize_3, rfl, g_chain_3, g_out_3, ⟨day_3a, day_3b⟩, ⟨outSize_3a, outSize_3b⟩⟩ := jo9
    refine iz_get (D := (dC, dI)) (ci := 6) (v := .ref chain_3) (C := RX6) (T := TX6) (N := 4) hx hb hts hinX6 hown hK co_3 rfl 0 (by decide) hL135 (fun _ h9 => h9) rfl dX11_row_13 ?_
    obtain ⟨fs9, co_4, jo9⟩ := jv_o0 hI g_chain_3
    obtain ⟨forms_4, rules_4, size_4, rfl, g_forms_4, g_rules_4, ⟨size_4a, size_4b⟩, x_4_0⟩ := jo9
    refine iz_get (D := (dC, dI)) (ci := 0) (v := .int (kz size_4)) (C := RX0) (T := TX0) (N := 3) hx hb hts hinX0 hown hK co_4 rfl 2 (by decide) hL139 (fun _ h9 => h9) rfl dX11_row_16 ?_
    refine lv_istore_n (lv' := [(2, .int (kz size_4)), (0, .ref o), (1, .int (kz day))]) hx hb dX11_row_19 rfl hl (by decide) rfl (fun ls hl => ?_)
    refine lv_aload_n hx hb dX11_row_20 rfl (lv_at hl 1 rfl) ?_
    refine iz_get (D := (dC, dI)) (ci := 11) (v := .ref j_row) (C := RX11) (T := TX11) (N := 7) hx hb hts hinX11 hown hK hO rfl 2 (by decide) hL26 (fun _ h9 => h9) rfl dX11_row_21 ?_
    refine iz_get (D := (dC, dI)) (ci := 6) (v := .ref chain_3) (C := RX6) (T := TX6) (N := 4) hx hb hts hinX6 hown hK co_3 rfl 0 (by decide) hL135 (fun _ h9 => h9) rfl dX11_row_24 ?_
    refine lv_iconst (v := kz 0) hx hb dX11_row_27 rfl ?_
    refine iz_put (D := (dC, dI)) (ci := 0) (v := .int (kz 0)) (ty := .int) (C := RX0) (T := TX0) (N := 3) hx hb hts hinX0 tyX0 tyX0_ok nmX0 hown hK co_4 hS (jv_A hI g_chain_3 (show (30 : Nat) ≠ 0 by decide)) rfl 2 (by decide) hL139 (fun _ h9 => h9) rfl (by decide +kernel) rfl rfl (Nat.le_of_ble_eq_true rfl) dX11_row_28 (fun H locs c9 oq hS => ?_)
    have hI := jv_set hI c9 oq (by rw [g_chain_3]; exact jv_c0 ⟨forms_4, rules_4, 0, rfl, g_forms_4, g_rules_4, ⟨by omega, by omega⟩, by omega⟩)
    have hF := fm_put hF g_chain_3 (show (0 : Nat) ∈ [0, 6] by decide) oq
    have hO := hO.kept (oq _ (kn_ne g_o g_chain_3 (show (999 : Nat) ≠ 0 by decide)))
    have co_3 := co_3.kept (oq _ (kn_ne g_j_row g_chain_3 (show (6 : Nat) ≠ 0 by decide)))
    have co_4 := c9
    clear oq c9
    refine lv_aload_n hx hb dX11_row_31 rfl (lv_at hl 1 rfl) ?_
    refine iz_get (D := (dC, dI)) (ci := 11) (v := .ref j_row) (C := RX11) (T := TX11) (N := 7) hx hb hts hinX11 hown hK hO rfl 2 (by decide) hL26 (fun _ h9 => h9) rfl dX11_row_32 ?_
    refine lv_iload_n hx hb dX11_row_35 rfl (lv_at hl 2 rfl) ?_
    refine iz_any (fun z_5 z_5a z_5b z_5e => ?_)
    refine iz_put (D := (dC, dI)) (ci := 6) (v := .int (kz z_5)) (ty := .int) (C := RX6) (T := TX6) (N := 4) hx hb hts hinX6 tyX6 tyX6_ok nmX6 hown hK co_3 hS (jv_A hI g_j_row (show (30 : Nat) ≠ 0 by decide)) rfl 2 (by decide) hL142 (fun _ h9 => h9) rfl (by decide +kernel) rfl rfl (Nat.le_of_ble_eq_true rfl) dX11_row_36 (fun H locs c9 oq hS => ?_)
    have hI := jv_set hI c9 oq (by rw [g_j_row]; exact jv_c6 ⟨chain_3, out_3, z_5, outSize_3, rfl, g_chain_3, g_out_3, ⟨by omega, by omega⟩, ⟨by omega, by omega⟩⟩)
    have hF := fm_put hF g_j_row (show (6 : Nat) ∈ [0, 6] by decide) oq
    have hO := hO.kept (oq _ (kn_ne g_o g_j_row (show (999 : Nat) ≠ 6 by decide)))
    have co_4 := co_4.kept (oq _ (kn_ne g_chain_3 g_j_row (show (0 : Nat) ≠ 6 by decide)))
    have co_3 := c9
    clear oq c9
    refine lv_iload_n hx hb dX11_row_39 rfl (lv_at hl 0 rfl) ?_
    exact W.iret (v := kz size_4) hx hb hr (fun t9 ht hW => ⟨⟨kz size_4, st, rfl, rfl, jK_warm hW ⟨hK, hN⟩, by rw [ht]; exact ⟨hI, hO⟩⟩, hS.F ht⟩) hS.2.2 dX11_row_40
  · refine iz_nez (tgt := 9) hx hb dX11_row_4 (by decide) (by unfold rg2; omega) (fun q9 => absurd q9 (by decide)) (fun _ => ?_)
    refine lv_iconst (v := kz (-1)) hx hb dX11_row_7 rfl ?_
    exact W.iret (v := kz (-1)) hx hb hr (fun t9 ht hW => ⟨⟨kz (-1), st, rfl, rfl, jK_warm hW ⟨hK, hN⟩, by rw [ht]; exact ⟨hI, hO⟩⟩, hS.F ht⟩) hS.2.2 dX11_row_8
set_option maxHeartbeats 4000000 in
set_option maxRecDepth 100000 in
/-- X11_joined -/
theorem j_joined (l : Launch) (dC : Nat → ClassId) (dI : Nat → Nat → Nat) (ca : Nat → ClassId) (A : Nat → Prop) (X : jG) (hU : jU X) (Hp : Heap) (o : Nat) (j_tape : Nat) (j_tongue : Nat) (j_row : Nat) (j_trees : Nat) (j_choices : Nat) (pv : Option Nat) (st : Int) (g_o : X.1 o = (999, 0, 0, 0, 0)) (hAo : A o) (g_j_tape : X.1 j_tape = (8, 30, 0, 0, 0)) (g_j_tongue : X.1 j_tongue = (9, 30, 0, 0, 0)) (g_j_row : X.1 j_row = (6, 30, 0, 0, 0)) (g_j_trees : X.1 j_trees = (10, 30, 0, 0, 0)) (g_j_choices : X.1 j_choices = (1, 30, 0, 0, 0)) (hpv : ∀ b : Nat, pv = some b → X.1 b = (4, 30, 0, 0, 0)) (hst : 0 ≤ st ∧ st ≤ 20) : Met l yX11_joined wsX11_joined ({ frames := 3, cells := 0, slots := 0, locals := 66 }) (va_Pc [.ref o] (fun U => U.heap = Hp ∧ jK (dC, dI) ca U ∧ jv (dC, dI) ca A X U.heap ∧ va_at (dC, dI) vwCl (o, .inr (11, [.ref j_tape, .ref j_tongue, .ref j_row, .ref j_trees, .ref j_choices, va_rf pv, .int (kz st)])) U.heap)) (va_Qi (fun (r : Int32) (u : Int) => u = st) (fun (u : Int) U => jK (dC, dI) ca U ∧ jv (dC, dI) ca A X U.heap ∧ va_at (dC, dI) vwCl (o, .inr (11, [.ref j_tape, .ref j_tongue, .ref j_row, .ref j_trees, .ref j_choices, va_rf pv, .int (kz u)])) U.heap) A) 0 0 A := by
  refine Met.ofW (cc := cX11_joined) (maxL := 1) (ret := (some .int)) (by decide) rfl ?_
  intro p e s m args below meth c s₁ B hml hv
  obtain ⟨rfl, hHp, ⟨hK, hN⟩, hI, hO⟩ := hv
  have hx := B.exec
  have hb := B.bytes
  have hr := B.returns
  have hts := atoms_spec (ws := wsX11_joined) B.pre
  have hown : s.vm.findClass RX11 = some m.cls := findClass_of_methodNamed B.named
  have hL26 := hts (.fieldLink RX11 26 "JoinBench" "row" "LJoinBench$Row;") (by decide +kernel)
  have hL164 := hts (.fieldLink RX11 164 "JoinBench$Row" "outSize" "I") (by decide +kernel)
  have hinX11 : ∀ w ∈ u_ws RX11 TX11 7, w ∈ wsX11_joined := by decide +kernel
  have hinX6 : ∀ w ∈ u_ws RX6 TX6 4, w ∈ wsX11_joined := by decide +kernel
  obtain ⟨H, hH⟩ : ∃ H : Heap, H = s.heap := ⟨_, rfl⟩
  have hS : va_S A s.heap H [] := by rw [hH]; exact va_S.rf
  have hF : kfm X [6, 203] Hp H := by rw [hH, hHp]; exact fm_rf _ _ _
  rw [← hH] at hI hO ⊢
  clear hH
  have hl := lv_entry ([.ref o]) (n := 1) (Nat.le_of_ble_eq_true rfl)
  rw [lg_entry_eq]
  generalize (lg_sl ([.ref o]) ++ List.replicate (1 - (lg_sl ([.ref o])).length) Slot.unset).toArray = ls at hl ⊢
  have hl : lv_has ls 1 [(0, .ref o)] := hl
  refine lv_aload_n hx hb dX11_joined_0 rfl (lv_at hl 0 rfl) ?_
  refine iz_get (D := (dC, dI)) (ci := 11) (v := .ref j_row) (C := RX11) (T := TX11) (N := 7) hx hb hts hinX11 hown hK hO rfl 2 (by decide) hL26 (fun _ h9 => h9) rfl dX11_joined_1 ?_
  obtain ⟨fs9, co_1, jo9⟩ := jv_o6 hI g_j_row
  obtain ⟨chain_1, out_1, day_1, outSize_1, rfl, g_chain_1, g_out_1, ⟨day_1a, day_1b⟩, ⟨outSize_1a, outSize_1b⟩⟩ := jo9
  refine va_callv (va_runV (As := []) (rest := []) ⟨hx, hb, hml, hown, hts⟩ (c_join l dC dI ca A X hU H j_row g_j_row) (cwV 0 hts gX11_joined_X6_join rfl rfl rfl (by decide +kernel) ⟨Nat.le_of_ble_eq_true rfl, Nat.le_of_ble_eq_true rfl⟩) ⟨fun a U g mk q => by obtain ⟨q0, qH, ⟨qK, qN⟩, qI⟩ := q; exact ⟨q0, qH, ⟨va_K.moved (u := U) (U := U.calling g mk a) (Vm.Alike.refl U.vm) qK, jN_same (U := U.calling g mk a) rfl qN⟩, qI⟩, va_recv hK (at_P co_1) (ci := 6) (q0 := 0) rfl rfl, fun U hU hW => ⟨rfl, hU, jK_warm hW ⟨hK, hN⟩, by rw [hU]; exact hI⟩⟩ rfl rfl hl.1 rfl (lv_room (Nat.le_of_ble_eq_true rfl)) dX11_joined_4 ⟨Nat.le_of_ble_eq_true rfl, Nat.le_of_ble_eq_true rfl⟩) hS (fun q _ h => h) (fun q h => h) (fun u t9 H locs ht hvm hw_2 hB hz1 hk1 hS => ?_)
  obtain ⟨-, hI, hf9⟩ := hB
  rw [ht] at hI hf9
  clear ht hvm hz1
  have hO := fm_at hf9 g_o (show (999 : Nat) ∉ ([6, 203] : List Nat) by decide) hO
  have hF := fm_tr hF hf9 (by decide)
  clear hk1 hf9
  refine lv_aload_n hx hb dX11_joined_7 rfl (lv_at hl 0 rfl) ?_
  refine iz_get (D := (dC, dI)) (ci := 11) (v := .ref j_row) (C := RX11) (T := TX11) (N := 7) hx hb hts hinX11 hown hK hO rfl 2 (by decide) hL26 (fun _ h9 => h9) rfl dX11_joined_8 ?_
  obtain ⟨fs9, co_4, jo9⟩ := jv_o6 hI g_j_row
  obtain ⟨chain_4, out_4, day_4, outSize_4, rfl, g_chain_4, g_out_4, ⟨day_4a, day_4b⟩, ⟨outSize_4a, outSize_4b⟩⟩ := jo9
  have e9 : chain_1 = chain_4 := jU_eq hU g_chain_1 g_chain_4 (show (30 : Nat) ≠ 0 by decide) (show uq 0 = true by decide)
  subst e9
  have e9 : out_1 = out_4 := jU_eq hU g_out_1 g_out_4 (show (21 : Nat) ≠ 0 by decide) (show uq 203 = true by decide)
  subst e9
  refine iz_get (D := (dC, dI)) (ci := 6) (v := .int (kz outSize_4)) (C := RX6) (T := TX6) (N := 4) hx hb hts hinX6 hown hK co_4 rfl 3 (by decide) hL164 (fun _ h9 => h9) rfl dX11_joined_11 ?_
  exact W.iret (v := kz outSize_4) hx hb hr (fun t9 ht hW => ⟨⟨kz outSize_4, st, rfl, rfl, jK_warm hW ⟨hK, hN⟩, by rw [ht]; exact ⟨hI, hO⟩⟩, hS.F ht⟩) hS.2.2 dX11_joined_14
set_option maxHeartbeats 4000000 in
set_option maxRecDepth 100000 in
/-- X11_letter -/
theorem j_letter (l : Launch) (dC : Nat → ClassId) (dI : Nat → Nat → Nat) (ca : Nat → ClassId) (A : Nat → Prop) (X : jG) (hU : jU X) (o : Nat) (j_tape : Nat) (j_tongue : Nat) (j_row : Nat) (j_trees : Nat) (j_choices : Nat) (pv : Option Nat) (st : Int) (i1 : Int) (g_o : X.1 o = (999, 0, 0, 0, 0)) (hAo : A o) (g_j_tape : X.1 j_tape = (8, 30, 0, 0, 0)) (g_j_tongue : X.1 j_tongue = (9, 30, 0, 0, 0)) (g_j_row : X.1 j_row = (6, 30, 0, 0, 0)) (g_j_trees : X.1 j_trees = (10, 30, 0, 0, 0)) (g_j_choices : X.1 j_choices = (1, 30, 0, 0, 0)) (hpv : ∀ b : Nat, pv = some b → X.1 b = (4, 30, 0, 0, 0)) (hst : 0 ≤ st ∧ st ≤ 20) (i1r : -2147483648 ≤ i1 ∧ i1 ≤ 2147483647) : Met l yX11_letter wsX11_letter ({ frames := 0, cells := 0, slots := 0, locals := 0 }) (va_Pc [.ref o, .int (kz i1)] (fun U => jK (dC, dI) ca U ∧ jv (dC, dI) ca A X U.heap ∧ va_at (dC, dI) vwCl (o, .inr (11, [.ref j_tape, .ref j_tongue, .ref j_row, .ref j_trees, .ref j_choices, va_rf pv, .int (kz st)])) U.heap)) (vp_Si (fun r => True)) 0 0 (fun _ => False) := by
  refine Met.ofW (cc := cX11_letter) (maxL := 2) (ret := (some .int)) (by decide) rfl ?_
  intro p e s m args below meth c s₁ B hml hv
  obtain ⟨rfl, ⟨hK, hN⟩, hI, hO⟩ := hv
  have hx := B.exec
  have hb := B.bytes
  have hr := B.returns
  have hts := atoms_spec (ws := wsX11_letter) B.pre
  have hown : s.vm.findClass RX11 = some m.cls := findClass_of_methodNamed B.named
  have hL26 := hts (.fieldLink RX11 26 "JoinBench" "row" "LJoinBench$Row;") (by decide +kernel)
  have hL164 := hts (.fieldLink RX11 164 "JoinBench$Row" "outSize" "I") (by decide +kernel)
  have hL167 := hts (.fieldLink RX11 167 "JoinBench$Row" "out" "[B") (by decide +kernel)
  have hinX11 : ∀ w ∈ u_ws RX11 TX11 7, w ∈ wsX11_letter := by decide +kernel
  have hinX6 : ∀ w ∈ u_ws RX6 TX6 4, w ∈ wsX11_letter := by decide +kernel
  have hl := lv_entry ([.ref o, .int (kz i1)]) (n := 2) (Nat.le_of_ble_eq_true rfl)
  rw [lg_entry_eq]
  generalize (lg_sl ([.ref o, .int (kz i1)]) ++ List.replicate (2 - (lg_sl ([.ref o, .int (kz i1)])).length) Slot.unset).toArray = ls at hl ⊢
  have hl : lv_has ls 2 [(0, .ref o), (1, .int (kz i1))] := hl
  refine lv_iload_n hx hb dX11_letter_0 rfl (lv_at hl 1 rfl) ?_
  refine iz_ltz (tgt := 27) hx hb dX11_letter_1 (by decide) (by unfold rg2; omega) (fun br_1 => ?_) (fun br_1 => ?_)
  · refine lv_iconst (v := kz (-1)) hx hb dX11_letter_27 rfl ?_
    exact W.iret (v := kz (-1)) hx hb hr (fun t9 ht hW => ⟨kz (-1), rfl, trivial, ht⟩) (fun q h => absurd h List.not_mem_nil) dX11_letter_28
  · refine lv_iload_n hx hb dX11_letter_4 rfl (lv_at hl 1 rfl) ?_
    refine lv_aload_n hx hb dX11_letter_5 rfl (lv_at hl 0 rfl) ?_
    refine iz_get (D := (dC, dI)) (ci := 11) (v := .ref j_row) (C := RX11) (T := TX11) (N := 7) hx hb hts hinX11 hown hK hO rfl 2 (by decide) hL26 (fun _ h9 => h9) rfl dX11_letter_6 ?_
    obtain ⟨fs9, co_2, jo9⟩ := jv_o6 hI g_j_row
    obtain ⟨chain_2, out_2, day_2, outSize_2, rfl, g_chain_2, g_out_2, ⟨day_2a, day_2b⟩, ⟨outSize_2a, outSize_2b⟩⟩ := jo9
    refine iz_get (D := (dC, dI)) (ci := 6) (v := .int (kz outSize_2)) (C := RX6) (T := TX6) (N := 4) hx hb hts hinX6 hown hK co_2 rfl 3 (by decide) hL164 (fun _ h9 => h9) rfl dX11_letter_9 ?_
    refine iz_ge (tgt := 27) hx hb dX11_letter_12 (by decide) (by unfold rg2; omega) (fun br_3 => ?_) (fun br_3 => ?_)
    · refine lv_iconst (v := kz (-1)) hx hb dX11_letter_27 rfl ?_
      exact W.iret (v := kz (-1)) hx hb hr (fun t9 ht hW => ⟨kz (-1), rfl, trivial, ht⟩) (fun q h => absurd h List.not_mem_nil) dX11_letter_28
    · refine lv_aload_n hx hb dX11_letter_15 rfl (lv_at hl 0 rfl) ?_
      refine iz_get (D := (dC, dI)) (ci := 11) (v := .ref j_row) (C := RX11) (T := TX11) (N := 7) hx hb hts hinX11 hown hK hO rfl 2 (by decide) hL26 (fun _ h9 => h9) rfl dX11_letter_16 ?_
      refine iz_get (D := (dC, dI)) (ci := 6) (v := .ref out_2) (C := RX6) (T := TX6) (N := 4) hx hb hts hinX6 hown hK co_2 rfl 1 (by decide) hL167 (fun _ h9 => h9) rfl dX11_letter_19 ?_
      refine lv_iload_n hx hb dX11_letter_22 rfl (lv_at hl 1 rfl) ?_
      obtain ⟨f_4, c_f_4⟩ := iv_o21 (jv_iv hI) g_out_2
      refine iz_bald hx hb hK 1 c_f_4 rfl (by omega) (by decide) dX11_letter_23 ?_
      have v_5a := kz_lo (f_4 (Int.toNat i1))
      have v_5b := kz_hi (f_4 (Int.toNat i1))
      change _ ≤ ge1 f_4 i1 at v_5a
      change ge1 f_4 i1 ≤ _ at v_5b
      obtain ⟨v_5, ev_5⟩ : ∃ z9 : Int, ge1 f_4 i1 = z9 := ⟨_, rfl⟩
      rw [ev_5] at v_5a v_5b ⊢
      refine lv_goto (tgt := 28) hx hb dX11_letter_24 (by decide) ?_
      exact W.iret (v := kz v_5) hx hb hr (fun t9 ht hW => ⟨kz v_5, rfl, trivial, ht⟩) (fun q h => absurd h List.not_mem_nil) dX11_letter_28
set_option maxHeartbeats 4000000 in
set_option maxRecDepth 100000 in
/-- X11_uses -/
theorem j_uses (l : Launch) (dC : Nat → ClassId) (dI : Nat → Nat → Nat) (ca : Nat → ClassId) (A : Nat → Prop) (X : jG) (hU : jU X) (o : Nat) (j_tape : Nat) (j_tongue : Nat) (j_row : Nat) (j_trees : Nat) (j_choices : Nat) (pv : Option Nat) (st : Int) (t1 : Int) (g_o : X.1 o = (999, 0, 0, 0, 0)) (hAo : A o) (g_j_tape : X.1 j_tape = (8, 30, 0, 0, 0)) (g_j_tongue : X.1 j_tongue = (9, 30, 0, 0, 0)) (g_j_row : X.1 j_row = (6, 30, 0, 0, 0)) (g_j_trees : X.1 j_trees = (10, 30, 0, 0, 0)) (g_j_choices : X.1 j_choices = (1, 30, 0, 0, 0)) (hpv : ∀ b : Nat, pv = some b → X.1 b = (4, 30, 0, 0, 0)) (hst : 0 ≤ st ∧ st ≤ 20) (t1r : -2147483648 ≤ t1 ∧ t1 ≤ 2147483647) : Met l yX11_uses wsX11_uses ({ frames := 2, cells := 0, slots := 0, locals := 42 }) (va_Pc [.ref o, .int (kz t1)] (fun U => jK (dC, dI) ca U ∧ jv (dC, dI) ca A X U.heap ∧ va_at (dC, dI) vwCl (o, .inr (11, [.ref j_tape, .ref j_tongue, .ref j_row, .ref j_trees, .ref j_choices, va_rf pv, .int (kz st)])) U.heap)) (vp_Si (fun r => True)) 0 0 (fun _ => False) := by
  refine Met.ofW (cc := cX11_uses) (maxL := 2) (ret := (some .int)) (by decide) rfl ?_
  intro p e s m args below meth c s₁ B hml hv
  obtain ⟨rfl, ⟨hK, hN⟩, hI, hO⟩ := hv
  have hx := B.exec
  have hb := B.bytes
  have hr := B.returns
  have hts := atoms_spec (ws := wsX11_uses) B.pre
  have hown : s.vm.findClass RX11 = some m.cls := findClass_of_methodNamed B.named
  have hL40 := hts (.fieldLink RX11 40 "JoinBench" "choices" "LJoinBench$Choices;") (by decide +kernel)
  have hL237 := hts (.fieldLink RX11 237 "JoinBench$Choices" "uses" "[I") (by decide +kernel)
  have hinX1 : ∀ w ∈ u_ws RX1 TX1 6, w ∈ wsX11_uses := by decide +kernel
  have hinX11 : ∀ w ∈ u_ws RX11 TX11 7, w ∈ wsX11_uses := by decide +kernel
  have hl := lv_entry ([.ref o, .int (kz t1)]) (n := 2) (Nat.le_of_ble_eq_true rfl)
  rw [lg_entry_eq]
  generalize (lg_sl ([.ref o, .int (kz t1)]) ++ List.replicate (2 - (lg_sl ([.ref o, .int (kz t1)])).length) Slot.unset).toArray = ls at hl ⊢
  have hl : lv_has ls 2 [(0, .ref o), (1, .int (kz t1))] := hl
  refine lv_iload_n hx hb dX11_uses_0 rfl (lv_at hl 1 rfl) ?_
  refine vp_callSi (va_Run.run (va_runS (As := [.int (kz t1)]) (rest := []) ⟨hx, hb, hml, hown, hts⟩ (c_isStem l t1 (by omega)) (va_cwS 1 hts gX11_uses_X11_isStem rfl rfl rfl (by decide +kernel) ⟨Nat.le_of_ble_eq_true rfl, Nat.le_of_ble_eq_true rfl⟩) ⟨fun a U g mk q => q, fun U hU hW => ⟨rfl, trivial⟩⟩ rfl rfl hl.1 rfl (lv_room (Nat.le_of_ble_eq_true rfl)) dX11_uses_1 ⟨Nat.le_of_ble_eq_true rfl, Nat.le_of_ble_eq_true rfl⟩)) (fun r_2 hw_1 => ?_)
  rcases hw_1 with ⟨rfl, hw_1⟩ | ⟨rfl, hw_1⟩
  · refine iz_eqz (tgt := 19) hx hb dX11_uses_4 (by decide) (by unfold rg2; omega) (fun q9 => absurd q9 (by decide)) (fun _ => ?_)
    refine lv_aload_n hx hb dX11_uses_7 rfl (lv_at hl 0 rfl) ?_
    refine iz_get (D := (dC, dI)) (ci := 11) (v := .ref j_choices) (C := RX11) (T := TX11) (N := 7) hx hb hts hinX11 hown hK hO rfl 4 (by decide) hL40 (fun _ h9 => h9) rfl dX11_uses_8 ?_
    obtain ⟨fs9, co_3, jo9⟩ := jv_o1 hI g_j_choices
    obtain ⟨uses_3, size_3, cb_3, ub_3, fb_3, oldest_3, rfl, g_uses_3, ⟨size_3a, size_3b⟩, g_cb_3, g_ub_3, g_fb_3, ⟨oldest_3a, oldest_3b⟩⟩ := jo9
    refine iz_get (D := (dC, dI)) (ci := 1) (v := .ref uses_3) (C := RX1) (T := TX1) (N := 6) hx hb hts hinX1 hown hK co_3 rfl 0 (by decide) hL237 (fun _ h9 => h9) rfl dX11_uses_11 ?_
    refine lv_iload_n hx hb dX11_uses_14 rfl (lv_at hl 1 rfl) ?_
    obtain ⟨f_4, c_f_4, k_f_4⟩ := iv_o20 (jv_iv hI) g_uses_3
    refine iz_iald hx hb hK 0 c_f_4 rfl (by omega) (by decide) dX11_uses_15 ?_
    obtain ⟨v_5a, v_5b, -⟩ := k_f_4 t1 (by omega)
    obtain ⟨v_5, ev_5⟩ : ∃ z9 : Int, ge1 f_4 t1 = z9 := ⟨_, rfl⟩
    rw [ev_5] at v_5a v_5b ⊢
    refine lv_goto (tgt := 20) hx hb dX11_uses_16 (by decide) ?_
    exact W.iret (v := kz v_5) hx hb hr (fun t9 ht hW => ⟨kz v_5, rfl, trivial, ht⟩) (fun q h => absurd h List.not_mem_nil) dX11_uses_20
  · refine iz_eqz (tgt := 19) hx hb dX11_uses_4 (by decide) (by unfold rg2; omega) (fun _ => ?_) (fun q9 => absurd q9 (by decide))
    refine lv_iconst (v := kz (-1)) hx hb dX11_uses_19 rfl ?_
    exact W.iret (v := kz (-1)) hx hb hr (fun t9 ht hW => ⟨kz (-1), rfl, trivial, ht⟩) (fun q h => absurd h List.not_mem_nil) dX11_uses_20
set_option maxHeartbeats 4000000 in
set_option maxRecDepth 100000 in
/-- X11_back -/
theorem j_back (l : Launch) (dC : Nat → ClassId) (dI : Nat → Nat → Nat) (ca : Nat → ClassId) (A : Nat → Prop) (X : jG) (hU : jU X) (Hp : Heap) (o : Nat) (j_tape : Nat) (j_tongue : Nat) (j_row : Nat) (j_trees : Nat) (j_choices : Nat) (pv : Option Nat) (st : Int) (g_o : X.1 o = (999, 0, 0, 0, 0)) (hAo : A o) (g_j_tape : X.1 j_tape = (8, 30, 0, 0, 0)) (g_j_tongue : X.1 j_tongue = (9, 30, 0, 0, 0)) (g_j_row : X.1 j_row = (6, 30, 0, 0, 0)) (g_j_trees : X.1 j_trees = (10, 30, 0, 0, 0)) (g_j_choices : X.1 j_choices = (1, 30, 0, 0, 0)) (hpv : ∀ b : Nat, pv = some b → X.1 b = (4, 30, 0, 0, 0)) (hst : 0 ≤ st ∧ st ≤ 20) : Met l yX11_back wsX11_back ({ frames := 1, cells := 0, slots := 0, locals := 21 }) (va_Pc [.ref o] (fun U => U.heap = Hp ∧ jK (dC, dI) ca U ∧ jv (dC, dI) ca A X U.heap ∧ va_at (dC, dI) vwCl (o, .inr (11, [.ref j_tape, .ref j_tongue, .ref j_row, .ref j_trees, .ref j_choices, va_rf pv, .int (kz st)])) U.heap)) (va_Qi (fun (r : Int32) (u : Int) => u = st) (fun (u : Int) U => jK (dC, dI) ca U ∧ jv (dC, dI) ca A X U.heap ∧ va_at (dC, dI) vwCl (o, .inr (11, [.ref j_tape, .ref j_tongue, .ref j_row, .ref j_trees, .ref j_choices, va_rf pv, .int (kz u)])) U.heap) A) 0 0 A := by
  refine Met.ofW (cc := cX11_back) (maxL := 2) (ret := (some .int)) (by decide) rfl ?_
  intro p e s m args below meth c s₁ B hml hv
  obtain ⟨rfl, hHp, ⟨hK, hN⟩, hI, hO⟩ := hv
  have hx := B.exec
  have hb := B.bytes
  have hr := B.returns
  have hts := atoms_spec (ws := wsX11_back) B.pre
  have hown : s.vm.findClass RX11 = some m.cls := findClass_of_methodNamed B.named
  have hL12 := hts (.fieldLink RX11 12 "JoinBench" "tape" "LJoinBench$Tape;") (by decide +kernel)
  have hL26 := hts (.fieldLink RX11 26 "JoinBench" "row" "LJoinBench$Row;") (by decide +kernel)
  have hL164 := hts (.fieldLink RX11 164 "JoinBench$Row" "outSize" "I") (by decide +kernel)
  have hL167 := hts (.fieldLink RX11 167 "JoinBench$Row" "out" "[B") (by decide +kernel)
  have hL60 := hts (.fieldLink RX11 60 "JoinBench$Tape" "size" "I") (by decide +kernel)
  have hinX11 : ∀ w ∈ u_ws RX11 TX11 7, w ∈ wsX11_back := by decide +kernel
  have hinX6 : ∀ w ∈ u_ws RX6 TX6 4, w ∈ wsX11_back := by decide +kernel
  have hinX8 : ∀ w ∈ u_ws RX8 TX8 2, w ∈ wsX11_back := by decide +kernel
  obtain ⟨H, hH⟩ : ∃ H : Heap, H = s.heap := ⟨_, rfl⟩
  have hS : va_S A s.heap H [] := by rw [hH]; exact va_S.rf
  have hF : kfm X [8, 200] Hp H := by rw [hH, hHp]; exact fm_rf _ _ _
  rw [← hH] at hI hO ⊢
  clear hH
  have hl := lv_entry ([.ref o]) (n := 2) (Nat.le_of_ble_eq_true rfl)
  rw [lg_entry_eq]
  generalize (lg_sl ([.ref o]) ++ List.replicate (2 - (lg_sl ([.ref o])).length) Slot.unset).toArray = ls at hl ⊢
  have hl : lv_has ls 2 [(0, .ref o)] := hl
  refine lv_aload_n hx hb dX11_back_0 rfl (lv_at hl 0 rfl) ?_
  refine iz_get (D := (dC, dI)) (ci := 11) (v := .ref j_tape) (C := RX11) (T := TX11) (N := 7) hx hb hts hinX11 hown hK hO rfl 0 (by decide) hL12 (fun _ h9 => h9) rfl dX11_back_1 ?_
  refine lv_aload_n hx hb dX11_back_4 rfl (lv_at hl 0 rfl) ?_
  refine iz_get (D := (dC, dI)) (ci := 11) (v := .ref j_row) (C := RX11) (T := TX11) (N := 7) hx hb hts hinX11 hown hK hO rfl 2 (by decide) hL26 (fun _ h9 => h9) rfl dX11_back_5 ?_
  obtain ⟨fs9, co_1, jo9⟩ := jv_o6 hI g_j_row
  obtain ⟨chain_1, out_1, day_1, outSize_1, rfl, g_chain_1, g_out_1, ⟨day_1a, day_1b⟩, ⟨outSize_1a, outSize_1b⟩⟩ := jo9
  refine iz_get (D := (dC, dI)) (ci := 6) (v := .int (kz outSize_1)) (C := RX6) (T := TX6) (N := 4) hx hb hts hinX6 hown hK co_1 rfl 3 (by decide) hL164 (fun _ h9 => h9) rfl dX11_back_8 ?_
  obtain ⟨fs9, co_2, jo9⟩ := jv_o8 hI g_j_tape
  obtain ⟨bytes_2, size_2, rfl, g_bytes_2, ⟨size_2a, size_2b⟩⟩ := jo9
  refine vp_callSi (va_Run.run (va_runV (As := [.int (kz outSize_1)]) (rest := []) ⟨hx, hb, hml, hown, hts⟩ (c_hasRoomFor l dC dI ca A X hU j_tape outSize_1 g_j_tape (by omega)) (cwV 1 hts gX11_back_X8_hasRoomFor rfl rfl rfl (by decide +kernel) ⟨Nat.le_of_ble_eq_true rfl, Nat.le_of_ble_eq_true rfl⟩) ⟨fun a U g mk q => by obtain ⟨q0, ⟨qK, qN⟩, qI⟩ := q; exact ⟨q0, ⟨va_K.moved (u := U) (U := U.calling g mk a) (Vm.Alike.refl U.vm) qK, jN_same (U := U.calling g mk a) rfl qN⟩, qI⟩, va_recv hK (at_P co_2) (ci := 8) (q0 := 0) rfl rfl, fun U hU hW => ⟨rfl, jK_warm hW ⟨hK, hN⟩, by rw [hU]; exact hI⟩⟩ rfl rfl hl.1 rfl (lv_room (Nat.le_of_ble_eq_true rfl)) dX11_back_11 ⟨Nat.le_of_ble_eq_true rfl, Nat.le_of_ble_eq_true rfl⟩)) (fun r_4 hw_3 => ?_)
  rcases hw_3 with rfl | rfl
  · refine iz_nez (tgt := 19) hx hb dX11_back_14 (by decide) (by unfold rg2; omega) (fun _ => ?_) (fun q9 => absurd q9 (by decide))
    refine lv_iconst (v := kz 0) hx hb dX11_back_19 rfl ?_
    refine lv_istore_n (lv' := [(1, .int (kz 0)), (0, .ref o)]) hx hb dX11_back_20 rfl hl (by decide) rfl (fun ls hl => ?_)
    refine iz_loopA1 (α := Unit) (P := fun N9 _u9 k H locs ls => (0 ≤ k) ∧ (k ≤ 480) ∧ 480 - k ≤ (N9 : Int) ∧ lv_has ls 2 [(1, .int (kz k)), (0, .ref o)] ∧ jv (dC, dI) ca A X H ∧ va_S A s.heap H locs ∧ kfm X [8, 200] Hp H ∧ va_at (dC, dI) vwCl (o, .inr (11, [.ref j_tape, .ref j_tongue, .ref j_row, .ref j_trees, .ref j_choices, va_rf pv, .int (kz st)])) H) 100000 () (x0 := 0) ?_ ⟨by omega, by omega, by omega, lv_sub hl [0, 1] rfl, hI, hS, hF, hO⟩
    intro n_5 _u9 k H locs ls ⟨n_5f0, n_5f1, n_5f2, hl, hI, hS, hF, hO⟩ ihn_5
    refine lv_iload_n hx hb dX11_back_21 rfl (lv_at hl 0 rfl) ?_
    refine lv_aload_n hx hb dX11_back_22 rfl (lv_at hl 1 rfl) ?_
    refine iz_get (D := (dC, dI)) (ci := 11) (v := .ref j_row) (C := RX11) (T := TX11) (N := 7) hx hb hts hinX11 hown hK hO rfl 2 (by decide) hL26 (fun _ h9 => h9) rfl dX11_back_23 ?_
    obtain ⟨fs9, co_6, jo9⟩ := jv_o6 hI g_j_row
    obtain ⟨chain_6, out_6, day_6, outSize_6, rfl, g_chain_6, g_out_6, ⟨day_6a, day_6b⟩, ⟨outSize_6a, outSize_6b⟩⟩ := jo9
    have e9 : chain_1 = chain_6 := jU_eq hU g_chain_1 g_chain_6 (show (30 : Nat) ≠ 0 by decide) (show uq 0 = true by decide)
    subst e9
    have e9 : out_1 = out_6 := jU_eq hU g_out_1 g_out_6 (show (21 : Nat) ≠ 0 by decide) (show uq 203 = true by decide)
    subst e9
    refine iz_get (D := (dC, dI)) (ci := 6) (v := .int (kz outSize_6)) (C := RX6) (T := TX6) (N := 4) hx hb hts hinX6 hown hK co_6 rfl 3 (by decide) hL164 (fun _ h9 => h9) rfl dX11_back_26 ?_
    refine iz_ge (tgt := 54) hx hb dX11_back_29 (by decide) (by unfold rg2; omega) (fun br_7 => ?_) (fun br_7 => ?_)
    · refine lv_aload_n hx hb dX11_back_54 rfl (lv_at hl 1 rfl) ?_
      refine iz_get (D := (dC, dI)) (ci := 11) (v := .ref j_tape) (C := RX11) (T := TX11) (N := 7) hx hb hts hinX11 hown hK hO rfl 0 (by decide) hL12 (fun _ h9 => h9) rfl dX11_back_55 ?_
      obtain ⟨fs9, co_8, jo9⟩ := jv_o8 hI g_j_tape
      obtain ⟨bytes_8, size_8, rfl, g_bytes_8, ⟨size_8a, size_8b⟩⟩ := jo9
      have e9 : bytes_2 = bytes_8 := jU_eq hU g_bytes_2 g_bytes_8 (show (21 : Nat) ≠ 0 by decide) (show uq 200 = true by decide)
      subst e9
      refine iz_get (D := (dC, dI)) (ci := 8) (v := .int (kz size_8)) (C := RX8) (T := TX8) (N := 2) hx hb hts hinX8 hown hK co_8 rfl 1 (by decide) hL60 (fun _ h9 => h9) rfl dX11_back_58 ?_
      exact W.iret (v := kz size_8) hx hb hr (fun t9 ht hW => ⟨⟨kz size_8, st, rfl, rfl, jK_warm hW ⟨hK, hN⟩, by rw [ht]; exact ⟨hI, hO⟩⟩, hS.F ht⟩) hS.2.2 dX11_back_61
    · refine lv_aload_n hx hb dX11_back_32 rfl (lv_at hl 1 rfl) ?_
      refine iz_get (D := (dC, dI)) (ci := 11) (v := .ref j_tape) (C := RX11) (T := TX11) (N := 7) hx hb hts hinX11 hown hK hO rfl 0 (by decide) hL12 (fun _ h9 => h9) rfl dX11_back_33 ?_
      refine lv_aload_n hx hb dX11_back_36 rfl (lv_at hl 1 rfl) ?_
      refine iz_get (D := (dC, dI)) (ci := 11) (v := .ref j_row) (C := RX11) (T := TX11) (N := 7) hx hb hts hinX11 hown hK hO rfl 2 (by decide) hL26 (fun _ h9 => h9) rfl dX11_back_37 ?_
      refine iz_get (D := (dC, dI)) (ci := 6) (v := .ref out_1) (C := RX6) (T := TX6) (N := 4) hx hb hts hinX6 hown hK co_6 rfl 1 (by decide) hL167 (fun _ h9 => h9) rfl dX11_back_40 ?_
      refine lv_iload_n hx hb dX11_back_43 rfl (lv_at hl 0 rfl) ?_
      obtain ⟨f_9, c_f_9⟩ := iv_o21 (jv_iv hI) g_out_6
      refine iz_bald hx hb hK 1 c_f_9 rfl (by omega) (by decide) dX11_back_44 ?_
      have v_10a := kz_lo (f_9 (Int.toNat k))
      have v_10b := kz_hi (f_9 (Int.toNat k))
      change _ ≤ ge1 f_9 k at v_10a
      change ge1 f_9 k ≤ _ at v_10b
      obtain ⟨v_10, ev_10⟩ : ∃ z9 : Int, ge1 f_9 k = z9 := ⟨_, rfl⟩
      rw [ev_10] at v_10a v_10b ⊢
      obtain ⟨fs9, co_11, jo9⟩ := jv_o8 hI g_j_tape
      obtain ⟨bytes_11, size_11, rfl, g_bytes_11, ⟨size_11a, size_11b⟩⟩ := jo9
      have e9 : bytes_2 = bytes_11 := jU_eq hU g_bytes_2 g_bytes_11 (show (21 : Nat) ≠ 0 by decide) (show uq 200 = true by decide)
      subst e9
      refine va_callv (va_runV (As := [.int (kz v_10)]) (rest := []) ⟨hx, hb, hml, hown, hts⟩ (c_addByte l dC dI ca A X hU H j_tape v_10 g_j_tape) (cwV 1 hts gX11_back_X8_addByte rfl rfl rfl (by decide +kernel) ⟨Nat.le_of_ble_eq_true rfl, Nat.le_of_ble_eq_true rfl⟩) ⟨fun a U g mk q => by obtain ⟨q0, qH, ⟨qK, qN⟩, qI⟩ := q; exact ⟨q0, qH, ⟨va_K.moved (u := U) (U := U.calling g mk a) (Vm.Alike.refl U.vm) qK, jN_same (U := U.calling g mk a) rfl qN⟩, qI⟩, va_recv hK (at_P co_11) (ci := 8) (q0 := 0) rfl rfl, fun U hU hW => ⟨rfl, hU, jK_warm hW ⟨hK, hN⟩, by rw [hU]; exact hI⟩⟩ rfl rfl hl.1 rfl (lv_room (Nat.le_of_ble_eq_true rfl)) dX11_back_45 ⟨Nat.le_of_ble_eq_true rfl, Nat.le_of_ble_eq_true rfl⟩) hS (fun q _ h => h) (fun q h => h) (fun u t9 H locs ht hvm hw_12 hB hz1 hk1 hS => ?_)
      obtain ⟨-, hI, hf9⟩ := hB
      rw [ht] at hI hf9
      clear ht hvm hz1
      have hO := fm_at hf9 g_o (show (999 : Nat) ∉ ([8, 200] : List Nat) by decide) hO
      have co_6 := fm_at hf9 g_j_row (show (6 : Nat) ∉ ([8, 200] : List Nat) by decide) co_6
      have c_f_9 := fm_at hf9 g_out_6 (show (203 : Nat) ∉ ([8, 200] : List Nat) by decide) c_f_9
      have hF := fm_tr hF hf9 (by decide)
      clear hk1 hf9
      refine lv_iinc (v := kz (k + 1)) (lv' := [(1, .int (kz (k + 1))), (0, .ref o)]) hx hb dX11_back_48 hl (k := 0) rfl (kz_add k 1) (by decide) rfl (fun ls hl => ?_)
      refine lv_goto (tgt := 21) hx hb dX11_back_51 (by decide) ?_
      exact ihn_5 (n_5 - 1) (by omega) () (k + 1) _ _ _ ⟨by omega, by omega, by omega, lv_sub hl [0, 1] rfl, hI, hS, hF, hO⟩
  · refine iz_nez (tgt := 19) hx hb dX11_back_14 (by decide) (by unfold rg2; omega) (fun q9 => absurd q9 (by decide)) (fun _ => ?_)
    refine lv_iconst (v := kz (-1)) hx hb dX11_back_17 rfl ?_
    exact W.iret (v := kz (-1)) hx hb hr (fun t9 ht hW => ⟨⟨kz (-1), st, rfl, rfl, jK_warm hW ⟨hK, hN⟩, by rw [ht]; exact ⟨hI, hO⟩⟩, hS.F ht⟩) hS.2.2 dX11_back_18
set_option maxHeartbeats 4000000 in
set_option maxRecDepth 100000 in
/-- X11_cost -/
theorem j_cost (l : Launch) (dC : Nat → ClassId) (dI : Nat → Nat → Nat) (ca : Nat → ClassId) (A : Nat → Prop) (X : jG) (hU : jU X) (Hp : Heap) (o : Nat) (j_tape : Nat) (j_tongue : Nat) (j_row : Nat) (j_trees : Nat) (j_choices : Nat) (pv : Option Nat) (st : Int) (f : Int) (c1 : Int) (g_o : X.1 o = (999, 0, 0, 0, 0)) (hAo : A o) (g_j_tape : X.1 j_tape = (8, 30, 0, 0, 0)) (g_j_tongue : X.1 j_tongue = (9, 30, 0, 0, 0)) (g_j_row : X.1 j_row = (6, 30, 0, 0, 0)) (g_j_trees : X.1 j_trees = (10, 30, 0, 0, 0)) (g_j_choices : X.1 j_choices = (1, 30, 0, 0, 0)) (hpv : ∀ b : Nat, pv = some b → X.1 b = (4, 30, 0, 0, 0)) (hst : 0 ≤ st ∧ st ≤ 20) (fr : -2147483648 ≤ f ∧ f ≤ 2147483647) (c1r : -2147483648 ≤ c1 ∧ c1 ≤ 2147483647) : Met l yX11_cost wsX11_cost ({ frames := 2, cells := 0, slots := 0, locals := 42 }) (va_Pc [.ref o, .int (kz f), .int (kz c1)] (fun U => U.heap = Hp ∧ jK (dC, dI) ca U ∧ jv (dC, dI) ca A X U.heap ∧ va_at (dC, dI) vwCl (o, .inr (11, [.ref j_tape, .ref j_tongue, .ref j_row, .ref j_trees, .ref j_choices, va_rf pv, .int (kz st)])) U.heap)) (va_Qi (fun (r : Int32) (u : Int) => u = st) (fun (u : Int) U => jK (dC, dI) ca U ∧ jv (dC, dI) ca A X U.heap ∧ va_at (dC, dI) vwCl (o, .inr (11, [.ref j_tape, .ref j_tongue, .ref j_row, .ref j_trees, .ref j_choices, va_rf pv, .int (kz u)])) U.heap) A) 0 0 A := by
  refine Met.ofW (cc := cX11_cost) (maxL := 5) (ret := (some .int)) (by decide) rfl ?_
  intro p e s m args below meth c s₁ B hml hv
  obtain ⟨rfl, hHp, ⟨hK, hN⟩, hI, hO⟩ := hv
  have hx := B.exec
  have hb := B.bytes
  have hr := B.returns
  have hts := atoms_spec (ws := wsX11_cost) B.pre
  have hown : s.vm.findClass RX11 = some m.cls := findClass_of_methodNamed B.named
  have hL19 := hts (.fieldLink RX11 19 "JoinBench" "tongue" "LJoinBench$Tongue;") (by decide +kernel)
  have hL111 := hts (.fieldLink RX11 111 "JoinBench$Form" "cost" "I") (by decide +kernel)
  have hinX11 : ∀ w ∈ u_ws RX11 TX11 7, w ∈ wsX11_cost := by decide +kernel
  have hinX2 : ∀ w ∈ u_ws RX2 TX2 8, w ∈ wsX11_cost := by decide +kernel
  obtain ⟨H, hH⟩ : ∃ H : Heap, H = s.heap := ⟨_, rfl⟩
  have hS : va_S A s.heap H [] := by rw [hH]; exact va_S.rf
  have hF : kfm X [2] Hp H := by rw [hH, hHp]; exact fm_rf _ _ _
  rw [← hH] at hI hO ⊢
  clear hH
  have hl := lv_entry ([.ref o, .int (kz f), .int (kz c1)]) (n := 5) (Nat.le_of_ble_eq_true rfl)
  rw [lg_entry_eq]
  generalize (lg_sl ([.ref o, .int (kz f), .int (kz c1)]) ++ List.replicate (5 - (lg_sl ([.ref o, .int (kz f), .int (kz c1)])).length) Slot.unset).toArray = ls at hl ⊢
  have hl : lv_has ls 5 [(0, .ref o), (1, .int (kz f)), (2, .int (kz c1))] := hl
  refine lv_aload_n hx hb dX11_cost_0 rfl (lv_at hl 0 rfl) ?_
  refine iz_get (D := (dC, dI)) (ci := 11) (v := .ref j_tongue) (C := RX11) (T := TX11) (N := 7) hx hb hts hinX11 hown hK hO rfl 1 (by decide) hL19 (fun _ h9 => h9) rfl dX11_cost_1 ?_
  refine lv_iload_n hx hb dX11_cost_4 rfl (lv_at hl 1 rfl) ?_
  obtain ⟨fs9, co_1, jo9⟩ := jv_o9 hI g_j_tongue
  obtain ⟨forms_1, rules_1, formCount_1, ruleCount_1, forbidden_1, rfl, g_forms_1, g_rules_1, ⟨formCount_1a, formCount_1b⟩, ⟨ruleCount_1a, ruleCount_1b⟩, g_forbidden_1, x_1_0, x_1_1, x_1_2⟩ := jo9
  refine va_csq (va_Run.run (va_runV (As := [.int (kz f)]) (rest := []) ⟨hx, hb, hml, hown, hts⟩ (c_formAt l dC dI ca A X hU j_tongue f g_j_tongue (by omega)) (cwV 1 hts gX11_cost_X9_formAt rfl rfl rfl (by decide +kernel) ⟨Nat.le_of_ble_eq_true rfl, Nat.le_of_ble_eq_true rfl⟩) ⟨fun a U g mk q => by obtain ⟨q0, ⟨qK, qN⟩, qI⟩ := q; exact ⟨q0, ⟨va_K.moved (u := U) (U := U.calling g mk a) (Vm.Alike.refl U.vm) qK, jN_same (U := U.calling g mk a) rfl qN⟩, qI⟩, va_recv hK (at_P co_1) (ci := 9) (q0 := 0) rfl rfl, fun U hU hW => ⟨rfl, jK_warm hW ⟨hK, hN⟩, by rw [hU]; exact hI⟩⟩ rfl rfl hl.1 rfl (lv_room (Nat.le_of_ble_eq_true rfl)) dX11_cost_5 ⟨Nat.le_of_ble_eq_true rfl, Nat.le_of_ble_eq_true rfl⟩)) (fun r_3 hw_2 => ?_)
  rcases r_3 with _ | b_4
  · refine W.eq (g2 := F0 m 8 ls [.null]) rfl ?_
    refine lv_astore_nN (lv' := [(3, .null), (0, .ref o), (1, .int (kz f)), (2, .int (kz c1))]) hx hb dX11_cost_8 rfl hl (by decide) rfl (fun ls hl => ?_)
    refine lv_aload_nN hx hb dX11_cost_9 rfl (lv_at hl 0 rfl) ?_
    refine lv_ifnullN (tgt := 20) hx hb dX11_cost_10 (by decide) ?_
    refine lv_iconst (v := kz (-1)) hx hb dX11_cost_20 rfl ?_
    exact W.iret (v := kz (-1)) hx hb hr (fun t9 ht hW => ⟨⟨kz (-1), st, rfl, rfl, jK_warm hW ⟨hK, hN⟩, by rw [ht]; exact ⟨hI, hO⟩⟩, hS.F ht⟩) hS.2.2 dX11_cost_21
  · have g_b_4 := hw_2 b_4 rfl
    refine W.eq (g2 := F0 m 8 ls [.ref b_4]) rfl ?_
    refine lv_astore_n (lv' := [(3, .ref b_4), (0, .ref o), (1, .int (kz f)), (2, .int (kz c1))]) hx hb dX11_cost_8 rfl hl (by decide) rfl (fun ls hl => ?_)
    refine lv_aload_n hx hb dX11_cost_9 rfl (lv_at hl 0 rfl) ?_
    refine lv_ifnull hx hb dX11_cost_10 ?_
    refine lv_iload_n hx hb dX11_cost_13 rfl (lv_at hl 3 rfl) ?_
    refine vp_callSi (va_Run.run (va_runS (As := [.int (kz c1)]) (rest := []) ⟨hx, hb, hml, hown, hts⟩ (c_isCost l c1 (by omega)) (va_cwS 1 hts gX11_cost_X11_isCost rfl rfl rfl (by decide +kernel) ⟨Nat.le_of_ble_eq_true rfl, Nat.le_of_ble_eq_true rfl⟩) ⟨fun a U g mk q => q, fun U hU hW => ⟨rfl, trivial⟩⟩ rfl rfl hl.1 rfl (lv_room (Nat.le_of_ble_eq_true rfl)) dX11_cost_14 ⟨Nat.le_of_ble_eq_true rfl, Nat.le_of_ble_eq_true rfl⟩)) (fun r_6 hw_5 => ?_)
    rcases hw_5 with ⟨rfl, hw_5⟩ | ⟨rfl, hw_5⟩
    · refine iz_nez (tgt := 22) hx hb dX11_cost_17 (by decide) (by unfold rg2; omega) (fun _ => ?_) (fun q9 => absurd q9 (by decide))
      refine lv_aload_n hx hb dX11_cost_22 rfl (lv_at hl 0 rfl) ?_
      obtain ⟨fs9, co_7, jo9⟩ := jv_o2 hI g_b_4
      obtain ⟨ln_7, letters_7, kind_7, stem_7, kept_7, cost_7, number_7, ends_7, begins_7, rfl, g_letters_7, ⟨kind_7a, kind_7b⟩, ⟨stem_7a, stem_7b⟩, ⟨kept_7a, kept_7b⟩, ⟨cost_7a, cost_7b⟩, ⟨number_7a, number_7b⟩, ⟨ends_7a, ends_7b⟩, ⟨begins_7a, begins_7b⟩, x_7_0, x_7_1, x_7_2, x_7_3⟩ := jo9
      refine iz_get (D := (dC, dI)) (ci := 2) (v := .int (kz cost_7)) (C := RX2) (T := TX2) (N := 8) hx hb hts hinX2 hown hK co_7 rfl 4 (by decide) hL111 (fun _ h9 => h9) rfl dX11_cost_23 ?_
      refine lv_istore (lv' := [(4, .int (kz cost_7)), (3, .ref b_4), (0, .ref o), (1, .int (kz f)), (2, .int (kz c1))]) hx hb dX11_cost_26 hl (by decide) rfl (fun ls hl => ?_)
      refine lv_aload_n hx hb dX11_cost_28 rfl (lv_at hl 1 rfl) ?_
      refine lv_iload_n hx hb dX11_cost_29 rfl (lv_at hl 4 rfl) ?_
      refine iz_any (fun z_8 z_8a z_8b z_8e => ?_)
      refine iz_put (D := (dC, dI)) (ci := 2) (v := .int (kz z_8)) (ty := .int) (C := RX2) (T := TX2) (N := 8) hx hb hts hinX2 tyX2 tyX2_ok nmX2 hown hK co_7 hS (jv_A hI g_b_4 (show (30 : Nat) ≠ 0 by decide)) rfl 4 (by decide) hL111 (fun _ h9 => h9) rfl (by decide +kernel) rfl rfl (Nat.le_of_ble_eq_true rfl) dX11_cost_30 (fun H locs c9 oq hS => ?_)
      have hI := jv_set hI c9 oq (by rw [g_b_4]; exact jv_c2 ⟨ln_7, letters_7, kind_7, stem_7, kept_7, z_8, number_7, ends_7, begins_7, rfl, g_letters_7, ⟨by omega, by omega⟩, ⟨by omega, by omega⟩, ⟨by omega, by omega⟩, ⟨by omega, by omega⟩, ⟨by omega, by omega⟩, ⟨by omega, by omega⟩, ⟨by omega, by omega⟩, by omega, by omega, x_7_2, by omega⟩)
      have hF := fm_put hF g_b_4 (show (2 : Nat) ∈ [2] by decide) oq
      have hO := hO.kept (oq _ (kn_ne g_o g_b_4 (show (999 : Nat) ≠ 2 by decide)))
      have co_1 := co_1.kept (oq _ (kn_ne g_j_tongue g_b_4 (show (9 : Nat) ≠ 2 by decide)))
      have co_7 := c9
      clear oq c9
      refine lv_iload hx hb dX11_cost_33 (lv_at hl 0 rfl) ?_
      exact W.iret (v := kz cost_7) hx hb hr (fun t9 ht hW => ⟨⟨kz cost_7, st, rfl, rfl, jK_warm hW ⟨hK, hN⟩, by rw [ht]; exact ⟨hI, hO⟩⟩, hS.F ht⟩) hS.2.2 dX11_cost_35
    · refine iz_nez (tgt := 22) hx hb dX11_cost_17 (by decide) (by unfold rg2; omega) (fun q9 => absurd q9 (by decide)) (fun _ => ?_)
      refine lv_iconst (v := kz (-1)) hx hb dX11_cost_20 rfl ?_
      exact W.iret (v := kz (-1)) hx hb hr (fun t9 ht hW => ⟨⟨kz (-1), st, rfl, rfl, jK_warm hW ⟨hK, hN⟩, by rw [ht]; exact ⟨hI, hO⟩⟩, hS.F ht⟩) hS.2.2 dX11_cost_21
set_option maxHeartbeats 4000000 in
set_option maxRecDepth 100000 in
/-- X11_about -/
theorem j_about (l : Launch) (dC : Nat → ClassId) (dI : Nat → Nat → Nat) (ca : Nat → ClassId) (A : Nat → Prop) (X : jG) (hU : jU X) (o : Nat) (j_tape : Nat) (j_tongue : Nat) (j_row : Nat) (j_trees : Nat) (j_choices : Nat) (pv : Option Nat) (st : Int) (f : Int) (what : Int) (g_o : X.1 o = (999, 0, 0, 0, 0)) (hAo : A o) (g_j_tape : X.1 j_tape = (8, 30, 0, 0, 0)) (g_j_tongue : X.1 j_tongue = (9, 30, 0, 0, 0)) (g_j_row : X.1 j_row = (6, 30, 0, 0, 0)) (g_j_trees : X.1 j_trees = (10, 30, 0, 0, 0)) (g_j_choices : X.1 j_choices = (1, 30, 0, 0, 0)) (hpv : ∀ b : Nat, pv = some b → X.1 b = (4, 30, 0, 0, 0)) (hst : 0 ≤ st ∧ st ≤ 20) (fr : -2147483648 ≤ f ∧ f ≤ 2147483647) (whatr : -2147483648 ≤ what ∧ what ≤ 2147483647) : Met l yX11_about wsX11_about ({ frames := 1, cells := 0, slots := 0, locals := 21 }) (va_Pc [.ref o, .int (kz f), .int (kz what)] (fun U => jK (dC, dI) ca U ∧ jv (dC, dI) ca A X U.heap ∧ va_at (dC, dI) vwCl (o, .inr (11, [.ref j_tape, .ref j_tongue, .ref j_row, .ref j_trees, .ref j_choices, va_rf pv, .int (kz st)])) U.heap)) (vp_Si (fun r => True)) 0 0 (fun _ => False) := by
  refine Met.ofW (cc := cX11_about) (maxL := 4) (ret := (some .int)) (by decide) rfl ?_
  intro p e s m args below meth c s₁ B hml hv
  obtain ⟨rfl, ⟨hK, hN⟩, hI, hO⟩ := hv
  have hx := B.exec
  have hb := B.bytes
  have hr := B.returns
  have hts := atoms_spec (ws := wsX11_about) B.pre
  have hown : s.vm.findClass RX11 = some m.cls := findClass_of_methodNamed B.named
  have hL19 := hts (.fieldLink RX11 19 "JoinBench" "tongue" "LJoinBench$Tongue;") (by decide +kernel)
  have hL241 := hts (.fieldLink RX11 241 "JoinBench$Form" "kind" "I") (by decide +kernel)
  have hL244 := hts (.fieldLink RX11 244 "JoinBench$Form" "stem" "I") (by decide +kernel)
  have hL111 := hts (.fieldLink RX11 111 "JoinBench$Form" "cost" "I") (by decide +kernel)
  have hL247 := hts (.fieldLink RX11 247 "JoinBench$Form" "kept" "Z") (by decide +kernel)
  have hL250 := hts (.fieldLink RX11 250 "JoinBench$Form" "letters" "[B") (by decide +kernel)
  have hinX11 : ∀ w ∈ u_ws RX11 TX11 7, w ∈ wsX11_about := by decide +kernel
  have hinX2 : ∀ w ∈ u_ws RX2 TX2 8, w ∈ wsX11_about := by decide +kernel
  have hl := lv_entry ([.ref o, .int (kz f), .int (kz what)]) (n := 4) (Nat.le_of_ble_eq_true rfl)
  rw [lg_entry_eq]
  generalize (lg_sl ([.ref o, .int (kz f), .int (kz what)]) ++ List.replicate (4 - (lg_sl ([.ref o, .int (kz f), .int (kz what)])).length) Slot.unset).toArray = ls at hl ⊢
  have hl : lv_has ls 4 [(0, .ref o), (1, .int (kz f)), (2, .int (kz what))] := hl
  refine lv_aload_n hx hb dX11_about_0 rfl (lv_at hl 0 rfl) ?_
  refine iz_get (D := (dC, dI)) (ci := 11) (v := .ref j_tongue) (C := RX11) (T := TX11) (N := 7) hx hb hts hinX11 hown hK hO rfl 1 (by decide) hL19 (fun _ h9 => h9) rfl dX11_about_1 ?_
  refine lv_iload_n hx hb dX11_about_4 rfl (lv_at hl 1 rfl) ?_
  obtain ⟨fs9, co_1, jo9⟩ := jv_o9 hI g_j_tongue
  obtain ⟨forms_1, rules_1, formCount_1, ruleCount_1, forbidden_1, rfl, g_forms_1, g_rules_1, ⟨formCount_1a, formCount_1b⟩, ⟨ruleCount_1a, ruleCount_1b⟩, g_forbidden_1, x_1_0, x_1_1, x_1_2⟩ := jo9
  refine va_csq (va_Run.run (va_runV (As := [.int (kz f)]) (rest := []) ⟨hx, hb, hml, hown, hts⟩ (c_formAt l dC dI ca A X hU j_tongue f g_j_tongue (by omega)) (cwV 1 hts gX11_about_X9_formAt rfl rfl rfl (by decide +kernel) ⟨Nat.le_of_ble_eq_true rfl, Nat.le_of_ble_eq_true rfl⟩) ⟨fun a U g mk q => by obtain ⟨q0, ⟨qK, qN⟩, qI⟩ := q; exact ⟨q0, ⟨va_K.moved (u := U) (U := U.calling g mk a) (Vm.Alike.refl U.vm) qK, jN_same (U := U.calling g mk a) rfl qN⟩, qI⟩, va_recv hK (at_P co_1) (ci := 9) (q0 := 0) rfl rfl, fun U hU hW => ⟨rfl, jK_warm hW ⟨hK, hN⟩, by rw [hU]; exact hI⟩⟩ rfl rfl hl.1 rfl (lv_room (Nat.le_of_ble_eq_true rfl)) dX11_about_5 ⟨Nat.le_of_ble_eq_true rfl, Nat.le_of_ble_eq_true rfl⟩)) (fun r_3 hw_2 => ?_)
  rcases r_3 with _ | b_4
  · refine W.eq (g2 := F0 m 8 ls [.null]) rfl ?_
    refine lv_astore_nN (lv' := [(3, .null), (0, .ref o), (1, .int (kz f)), (2, .int (kz what))]) hx hb dX11_about_8 rfl hl (by decide) rfl (fun ls hl => ?_)
    refine lv_aload_nN hx hb dX11_about_9 rfl (lv_at hl 0 rfl) ?_
    refine lv_ifnonnullN hx hb dX11_about_10 ?_
    refine lv_iconst (v := kz (-1)) hx hb dX11_about_13 rfl ?_
    exact W.iret (v := kz (-1)) hx hb hr (fun t9 ht hW => ⟨kz (-1), rfl, trivial, ht⟩) (fun q h => absurd h List.not_mem_nil) dX11_about_14
  · have g_b_4 := hw_2 b_4 rfl
    refine W.eq (g2 := F0 m 8 ls [.ref b_4]) rfl ?_
    refine lv_astore_n (lv' := [(3, .ref b_4), (0, .ref o), (1, .int (kz f)), (2, .int (kz what))]) hx hb dX11_about_8 rfl hl (by decide) rfl (fun ls hl => ?_)
    refine lv_aload_n hx hb dX11_about_9 rfl (lv_at hl 0 rfl) ?_
    refine lv_ifnonnull (tgt := 15) hx hb dX11_about_10 (by decide) ?_
    refine lv_iload_n hx hb dX11_about_15 rfl (lv_at hl 3 rfl) ?_
    rcases ks_5 what (by omega) with c_5 | rfl | rfl | rfl | rfl | rfl
    · refine lv_tableOut (tgt := 86) hx hb dX11_about_16 (by rw [kz_toInt (by omega) (by omega)]; omega) (by decide) ?_
      refine lv_iconst (v := kz (-1)) hx hb dX11_about_86 rfl ?_
      exact W.iret (v := kz (-1)) hx hb hr (fun t9 ht hW => ⟨kz (-1), rfl, trivial, ht⟩) (fun q h => absurd h List.not_mem_nil) dX11_about_87
    · refine lv_tableIn (off := 36) (tgt := 52) hx hb dX11_about_16 (by decide) (by decide) rfl (by decide) ?_
      refine lv_aload_n hx hb dX11_about_52 rfl (lv_at hl 0 rfl) ?_
      obtain ⟨fs9, co_6, jo9⟩ := jv_o2 hI g_b_4
      obtain ⟨ln_6, letters_6, kind_6, stem_6, kept_6, cost_6, number_6, ends_6, begins_6, rfl, g_letters_6, ⟨kind_6a, kind_6b⟩, ⟨stem_6a, stem_6b⟩, ⟨kept_6a, kept_6b⟩, ⟨cost_6a, cost_6b⟩, ⟨number_6a, number_6b⟩, ⟨ends_6a, ends_6b⟩, ⟨begins_6a, begins_6b⟩, x_6_0, x_6_1, x_6_2, x_6_3⟩ := jo9
      refine iz_get (D := (dC, dI)) (ci := 2) (v := .int (kz kind_6)) (C := RX2) (T := TX2) (N := 8) hx hb hts hinX2 hown hK co_6 rfl 1 (by decide) hL241 (fun _ h9 => h9) rfl dX11_about_53 ?_
      exact W.iret (v := kz kind_6) hx hb hr (fun t9 ht hW => ⟨kz kind_6, rfl, trivial, ht⟩) (fun q h => absurd h List.not_mem_nil) dX11_about_56
    · refine lv_tableIn (off := 41) (tgt := 57) hx hb dX11_about_16 (by decide) (by decide) rfl (by decide) ?_
      refine lv_aload_n hx hb dX11_about_57 rfl (lv_at hl 0 rfl) ?_
      obtain ⟨fs9, co_7, jo9⟩ := jv_o2 hI g_b_4
      obtain ⟨ln_7, letters_7, kind_7, stem_7, kept_7, cost_7, number_7, ends_7, begins_7, rfl, g_letters_7, ⟨kind_7a, kind_7b⟩, ⟨stem_7a, stem_7b⟩, ⟨kept_7a, kept_7b⟩, ⟨cost_7a, cost_7b⟩, ⟨number_7a, number_7b⟩, ⟨ends_7a, ends_7b⟩, ⟨begins_7a, begins_7b⟩, x_7_0, x_7_1, x_7_2, x_7_3⟩ := jo9
      refine iz_get (D := (dC, dI)) (ci := 2) (v := .int (kz stem_7)) (C := RX2) (T := TX2) (N := 8) hx hb hts hinX2 hown hK co_7 rfl 2 (by decide) hL244 (fun _ h9 => h9) rfl dX11_about_58 ?_
      exact W.iret (v := kz stem_7) hx hb hr (fun t9 ht hW => ⟨kz stem_7, rfl, trivial, ht⟩) (fun q h => absurd h List.not_mem_nil) dX11_about_61
    · refine lv_tableIn (off := 46) (tgt := 62) hx hb dX11_about_16 (by decide) (by decide) rfl (by decide) ?_
      refine lv_aload_n hx hb dX11_about_62 rfl (lv_at hl 0 rfl) ?_
      obtain ⟨fs9, co_8, jo9⟩ := jv_o2 hI g_b_4
      obtain ⟨ln_8, letters_8, kind_8, stem_8, kept_8, cost_8, number_8, ends_8, begins_8, rfl, g_letters_8, ⟨kind_8a, kind_8b⟩, ⟨stem_8a, stem_8b⟩, ⟨kept_8a, kept_8b⟩, ⟨cost_8a, cost_8b⟩, ⟨number_8a, number_8b⟩, ⟨ends_8a, ends_8b⟩, ⟨begins_8a, begins_8b⟩, x_8_0, x_8_1, x_8_2, x_8_3⟩ := jo9
      refine iz_get (D := (dC, dI)) (ci := 2) (v := .int (kz cost_8)) (C := RX2) (T := TX2) (N := 8) hx hb hts hinX2 hown hK co_8 rfl 4 (by decide) hL111 (fun _ h9 => h9) rfl dX11_about_63 ?_
      exact W.iret (v := kz cost_8) hx hb hr (fun t9 ht hW => ⟨kz cost_8, rfl, trivial, ht⟩) (fun q h => absurd h List.not_mem_nil) dX11_about_66
    · refine lv_tableIn (off := 51) (tgt := 67) hx hb dX11_about_16 (by decide) (by decide) rfl (by decide) ?_
      refine lv_aload_n hx hb dX11_about_67 rfl (lv_at hl 0 rfl) ?_
      obtain ⟨fs9, co_9, jo9⟩ := jv_o2 hI g_b_4
      obtain ⟨ln_9, letters_9, kind_9, stem_9, kept_9, cost_9, number_9, ends_9, begins_9, rfl, g_letters_9, ⟨kind_9a, kind_9b⟩, ⟨stem_9a, stem_9b⟩, ⟨kept_9a, kept_9b⟩, ⟨cost_9a, cost_9b⟩, ⟨number_9a, number_9b⟩, ⟨ends_9a, ends_9b⟩, ⟨begins_9a, begins_9b⟩, x_9_0, x_9_1, x_9_2, x_9_3⟩ := jo9
      refine iz_get (D := (dC, dI)) (ci := 2) (v := .int (kz kept_9)) (C := RX2) (T := TX2) (N := 8) hx hb hts hinX2 hown hK co_9 rfl 3 (by decide) hL247 (fun _ h9 => h9) rfl dX11_about_68 ?_
      refine iz_eqz (tgt := 78) hx hb dX11_about_71 (by decide) (by unfold rg2; omega) (fun br_10 => ?_) (fun br_10 => ?_)
      · refine lv_iconst (v := kz 0) hx hb dX11_about_78 rfl ?_
        exact W.iret (v := kz 0) hx hb hr (fun t9 ht hW => ⟨kz 0, rfl, trivial, ht⟩) (fun q h => absurd h List.not_mem_nil) dX11_about_79
      · refine lv_iconst (v := kz 1) hx hb dX11_about_74 rfl ?_
        refine lv_goto (tgt := 79) hx hb dX11_about_75 (by decide) ?_
        exact W.iret (v := kz 1) hx hb hr (fun t9 ht hW => ⟨kz 1, rfl, trivial, ht⟩) (fun q h => absurd h List.not_mem_nil) dX11_about_79
    · refine lv_tableIn (off := 64) (tgt := 80) hx hb dX11_about_16 (by decide) (by decide) rfl (by decide) ?_
      refine lv_aload_n hx hb dX11_about_80 rfl (lv_at hl 0 rfl) ?_
      obtain ⟨fs9, co_11, jo9⟩ := jv_o2 hI g_b_4
      obtain ⟨ln_11, letters_11, kind_11, stem_11, kept_11, cost_11, number_11, ends_11, begins_11, rfl, g_letters_11, ⟨kind_11a, kind_11b⟩, ⟨stem_11a, stem_11b⟩, ⟨kept_11a, kept_11b⟩, ⟨cost_11a, cost_11b⟩, ⟨number_11a, number_11b⟩, ⟨ends_11a, ends_11b⟩, ⟨begins_11a, begins_11b⟩, x_11_0, x_11_1, x_11_2, x_11_3⟩ := jo9
      refine iz_get (D := (dC, dI)) (ci := 2) (v := .ref letters_11) (C := RX2) (T := TX2) (N := 8) hx hb hts hinX2 hown hK co_11 rfl 0 (by decide) hL250 (fun _ h9 => h9) rfl dX11_about_81 ?_
      obtain ⟨f_12, c_f_12⟩ := iv_o21 (jv_iv hI) g_letters_11
      refine va_alen hx hb hK (at_P c_f_12) 0 1 rfl rfl (v := kz (ln_11 : Int)) rfl dX11_about_84 ?_
      exact W.iret (v := kz (ln_11 : Int)) hx hb hr (fun t9 ht hW => ⟨kz (ln_11 : Int), rfl, trivial, ht⟩) (fun q h => absurd h List.not_mem_nil) dX11_about_85
set_option maxHeartbeats 4000000 in
set_option maxRecDepth 100000 in
/-- X11_count -/
theorem j_count (l : Launch) (dC : Nat → ClassId) (dI : Nat → Nat → Nat) (ca : Nat → ClassId) (A : Nat → Prop) (X : jG) (hU : jU X) (o : Nat) (j_tape : Nat) (j_tongue : Nat) (j_row : Nat) (j_trees : Nat) (j_choices : Nat) (pv : Option Nat) (st : Int) (what : Int) (g_o : X.1 o = (999, 0, 0, 0, 0)) (hAo : A o) (g_j_tape : X.1 j_tape = (8, 30, 0, 0, 0)) (g_j_tongue : X.1 j_tongue = (9, 30, 0, 0, 0)) (g_j_row : X.1 j_row = (6, 30, 0, 0, 0)) (g_j_trees : X.1 j_trees = (10, 30, 0, 0, 0)) (g_j_choices : X.1 j_choices = (1, 30, 0, 0, 0)) (hpv : ∀ b : Nat, pv = some b → X.1 b = (4, 30, 0, 0, 0)) (hst : 0 ≤ st ∧ st ≤ 20) (whatr : -2147483648 ≤ what ∧ what ≤ 2147483647) : Met l yX11_count wsX11_count ({ frames := 1, cells := 0, slots := 0, locals := 22 }) (va_Pc [.ref o, .int (kz what)] (fun U => jK (dC, dI) ca U ∧ jv (dC, dI) ca A X U.heap ∧ va_at (dC, dI) vwCl (o, .inr (11, [.ref j_tape, .ref j_tongue, .ref j_row, .ref j_trees, .ref j_choices, va_rf pv, .int (kz st)])) U.heap)) (vp_Si (fun r => True)) 0 0 (fun _ => False) := by
  refine Met.ofW (cc := cX11_count) (maxL := 2) (ret := (some .int)) (by decide) rfl ?_
  intro p e s m args below meth c s₁ B hml hv
  obtain ⟨rfl, ⟨hK, hN⟩, hI, hO⟩ := hv
  have hx := B.exec
  have hb := B.bytes
  have hr := B.returns
  have hts := atoms_spec (ws := wsX11_count) B.pre
  have hown : s.vm.findClass RX11 = some m.cls := findClass_of_methodNamed B.named
  have hL19 := hts (.fieldLink RX11 19 "JoinBench" "tongue" "LJoinBench$Tongue;") (by decide +kernel)
  have hL67 := hts (.fieldLink RX11 67 "JoinBench$Tongue" "formCount" "I") (by decide +kernel)
  have hL92 := hts (.fieldLink RX11 92 "JoinBench$Tongue" "ruleCount" "I") (by decide +kernel)
  have hL12 := hts (.fieldLink RX11 12 "JoinBench" "tape" "LJoinBench$Tape;") (by decide +kernel)
  have hL60 := hts (.fieldLink RX11 60 "JoinBench$Tape" "size" "I") (by decide +kernel)
  have hL26 := hts (.fieldLink RX11 26 "JoinBench" "row" "LJoinBench$Row;") (by decide +kernel)
  have hL164 := hts (.fieldLink RX11 164 "JoinBench$Row" "outSize" "I") (by decide +kernel)
  have hL135 := hts (.fieldLink RX11 135 "JoinBench$Row" "chain" "LJoinBench$Chain;") (by decide +kernel)
  have hL139 := hts (.fieldLink RX11 139 "JoinBench$Chain" "size" "I") (by decide +kernel)
  have hL40 := hts (.fieldLink RX11 40 "JoinBench" "choices" "LJoinBench$Choices;") (by decide +kernel)
  have hL232 := hts (.fieldLink RX11 232 "JoinBench$Choices" "size" "I") (by decide +kernel)
  have hL48 := hts (.fieldLink RX11 48 "JoinBench" "step" "I") (by decide +kernel)
  have hinX0 : ∀ w ∈ u_ws RX0 TX0 3, w ∈ wsX11_count := by decide +kernel
  have hinX1 : ∀ w ∈ u_ws RX1 TX1 6, w ∈ wsX11_count := by decide +kernel
  have hinX11 : ∀ w ∈ u_ws RX11 TX11 7, w ∈ wsX11_count := by decide +kernel
  have hinX6 : ∀ w ∈ u_ws RX6 TX6 4, w ∈ wsX11_count := by decide +kernel
  have hinX8 : ∀ w ∈ u_ws RX8 TX8 2, w ∈ wsX11_count := by decide +kernel
  have hinX9 : ∀ w ∈ u_ws RX9 TX9 5, w ∈ wsX11_count := by decide +kernel
  have hl := lv_entry ([.ref o, .int (kz what)]) (n := 2) (Nat.le_of_ble_eq_true rfl)
  rw [lg_entry_eq]
  generalize (lg_sl ([.ref o, .int (kz what)]) ++ List.replicate (2 - (lg_sl ([.ref o, .int (kz what)])).length) Slot.unset).toArray = ls at hl ⊢
  have hl : lv_has ls 2 [(0, .ref o), (1, .int (kz what))] := hl
  refine lv_iload_n hx hb dX11_count_0 rfl (lv_at hl 1 rfl) ?_
  rcases ks_8 what (by omega) with c_1 | rfl | rfl | rfl | rfl | rfl | rfl | rfl | rfl
  · refine lv_tableOut (tgt := 115) hx hb dX11_count_1 (by rw [kz_toInt (by omega) (by omega)]; omega) (by decide) ?_
    refine lv_iconst (v := kz (-1)) hx hb dX11_count_115 rfl ?_
    exact W.iret (v := kz (-1)) hx hb hr (fun t9 ht hW => ⟨kz (-1), rfl, trivial, ht⟩) (fun q h => absurd h List.not_mem_nil) dX11_count_116
  · refine lv_tableIn (off := 47) (tgt := 48) hx hb dX11_count_1 (by decide) (by decide) rfl (by decide) ?_
    refine lv_aload_n hx hb dX11_count_48 rfl (lv_at hl 0 rfl) ?_
    refine iz_get (D := (dC, dI)) (ci := 11) (v := .ref j_tongue) (C := RX11) (T := TX11) (N := 7) hx hb hts hinX11 hown hK hO rfl 1 (by decide) hL19 (fun _ h9 => h9) rfl dX11_count_49 ?_
    obtain ⟨fs9, co_2, jo9⟩ := jv_o9 hI g_j_tongue
    obtain ⟨forms_2, rules_2, formCount_2, ruleCount_2, forbidden_2, rfl, g_forms_2, g_rules_2, ⟨formCount_2a, formCount_2b⟩, ⟨ruleCount_2a, ruleCount_2b⟩, g_forbidden_2, x_2_0, x_2_1, x_2_2⟩ := jo9
    refine iz_get (D := (dC, dI)) (ci := 9) (v := .int (kz formCount_2)) (C := RX9) (T := TX9) (N := 5) hx hb hts hinX9 hown hK co_2 rfl 2 (by decide) hL67 (fun _ h9 => h9) rfl dX11_count_52 ?_
    exact W.iret (v := kz formCount_2) hx hb hr (fun t9 ht hW => ⟨kz formCount_2, rfl, trivial, ht⟩) (fun q h => absurd h List.not_mem_nil) dX11_count_55
  · refine lv_tableIn (off := 55) (tgt := 56) hx hb dX11_count_1 (by decide) (by decide) rfl (by decide) ?_
    refine lv_aload_n hx hb dX11_count_56 rfl (lv_at hl 0 rfl) ?_
    refine iz_get (D := (dC, dI)) (ci := 11) (v := .ref j_tongue) (C := RX11) (T := TX11) (N := 7) hx hb hts hinX11 hown hK hO rfl 1 (by decide) hL19 (fun _ h9 => h9) rfl dX11_count_57 ?_
    obtain ⟨fs9, co_3, jo9⟩ := jv_o9 hI g_j_tongue
    obtain ⟨forms_3, rules_3, formCount_3, ruleCount_3, forbidden_3, rfl, g_forms_3, g_rules_3, ⟨formCount_3a, formCount_3b⟩, ⟨ruleCount_3a, ruleCount_3b⟩, g_forbidden_3, x_3_0, x_3_1, x_3_2⟩ := jo9
    refine iz_get (D := (dC, dI)) (ci := 9) (v := .int (kz ruleCount_3)) (C := RX9) (T := TX9) (N := 5) hx hb hts hinX9 hown hK co_3 rfl 3 (by decide) hL92 (fun _ h9 => h9) rfl dX11_count_60 ?_
    exact W.iret (v := kz ruleCount_3) hx hb hr (fun t9 ht hW => ⟨kz ruleCount_3, rfl, trivial, ht⟩) (fun q h => absurd h List.not_mem_nil) dX11_count_63
  · refine lv_tableIn (off := 63) (tgt := 64) hx hb dX11_count_1 (by decide) (by decide) rfl (by decide) ?_
    refine lv_aload_n hx hb dX11_count_64 rfl (lv_at hl 0 rfl) ?_
    refine iz_get (D := (dC, dI)) (ci := 11) (v := .ref j_tape) (C := RX11) (T := TX11) (N := 7) hx hb hts hinX11 hown hK hO rfl 0 (by decide) hL12 (fun _ h9 => h9) rfl dX11_count_65 ?_
    obtain ⟨fs9, co_4, jo9⟩ := jv_o8 hI g_j_tape
    obtain ⟨bytes_4, size_4, rfl, g_bytes_4, ⟨size_4a, size_4b⟩⟩ := jo9
    refine iz_get (D := (dC, dI)) (ci := 8) (v := .int (kz size_4)) (C := RX8) (T := TX8) (N := 2) hx hb hts hinX8 hown hK co_4 rfl 1 (by decide) hL60 (fun _ h9 => h9) rfl dX11_count_68 ?_
    exact W.iret (v := kz size_4) hx hb hr (fun t9 ht hW => ⟨kz size_4, rfl, trivial, ht⟩) (fun q h => absurd h List.not_mem_nil) dX11_count_71
  · refine lv_tableIn (off := 71) (tgt := 72) hx hb dX11_count_1 (by decide) (by decide) rfl (by decide) ?_
    refine lv_aload_n hx hb dX11_count_72 rfl (lv_at hl 0 rfl) ?_
    refine iz_get (D := (dC, dI)) (ci := 11) (v := .ref j_row) (C := RX11) (T := TX11) (N := 7) hx hb hts hinX11 hown hK hO rfl 2 (by decide) hL26 (fun _ h9 => h9) rfl dX11_count_73 ?_
    obtain ⟨fs9, co_5, jo9⟩ := jv_o6 hI g_j_row
    obtain ⟨chain_5, out_5, day_5, outSize_5, rfl, g_chain_5, g_out_5, ⟨day_5a, day_5b⟩, ⟨outSize_5a, outSize_5b⟩⟩ := jo9
    refine iz_get (D := (dC, dI)) (ci := 6) (v := .int (kz outSize_5)) (C := RX6) (T := TX6) (N := 4) hx hb hts hinX6 hown hK co_5 rfl 3 (by decide) hL164 (fun _ h9 => h9) rfl dX11_count_76 ?_
    exact W.iret (v := kz outSize_5) hx hb hr (fun t9 ht hW => ⟨kz outSize_5, rfl, trivial, ht⟩) (fun q h => absurd h List.not_mem_nil) dX11_count_79
  · refine lv_tableIn (off := 79) (tgt := 80) hx hb dX11_count_1 (by decide) (by decide) rfl (by decide) ?_
    refine lv_aload_n hx hb dX11_count_80 rfl (lv_at hl 0 rfl) ?_
    refine iz_get (D := (dC, dI)) (ci := 11) (v := .ref j_row) (C := RX11) (T := TX11) (N := 7) hx hb hts hinX11 hown hK hO rfl 2 (by decide) hL26 (fun _ h9 => h9) rfl dX11_count_81 ?_
    obtain ⟨fs9, co_6, jo9⟩ := jv_o6 hI g_j_row
    obtain ⟨chain_6, out_6, day_6, outSize_6, rfl, g_chain_6, g_out_6, ⟨day_6a, day_6b⟩, ⟨outSize_6a, outSize_6b⟩⟩ := jo9
    refine iz_get (D := (dC, dI)) (ci := 6) (v := .ref chain_6) (C := RX6) (T := TX6) (N := 4) hx hb hts hinX6 hown hK co_6 rfl 0 (by decide) hL135 (fun _ h9 => h9) rfl dX11_count_84 ?_
    obtain ⟨fs9, co_7, jo9⟩ := jv_o0 hI g_chain_6
    obtain ⟨forms_7, rules_7, size_7, rfl, g_forms_7, g_rules_7, ⟨size_7a, size_7b⟩, x_7_0⟩ := jo9
    refine iz_get (D := (dC, dI)) (ci := 0) (v := .int (kz size_7)) (C := RX0) (T := TX0) (N := 3) hx hb hts hinX0 hown hK co_7 rfl 2 (by decide) hL139 (fun _ h9 => h9) rfl dX11_count_87 ?_
    exact W.iret (v := kz size_7) hx hb hr (fun t9 ht hW => ⟨kz size_7, rfl, trivial, ht⟩) (fun q h => absurd h List.not_mem_nil) dX11_count_90
  · refine lv_tableIn (off := 90) (tgt := 91) hx hb dX11_count_1 (by decide) (by decide) rfl (by decide) ?_
    refine lv_aload_n hx hb dX11_count_91 rfl (lv_at hl 0 rfl) ?_
    refine iz_get (D := (dC, dI)) (ci := 11) (v := .ref j_choices) (C := RX11) (T := TX11) (N := 7) hx hb hts hinX11 hown hK hO rfl 4 (by decide) hL40 (fun _ h9 => h9) rfl dX11_count_92 ?_
    obtain ⟨fs9, co_8, jo9⟩ := jv_o1 hI g_j_choices
    obtain ⟨uses_8, size_8, cb_8, ub_8, fb_8, oldest_8, rfl, g_uses_8, ⟨size_8a, size_8b⟩, g_cb_8, g_ub_8, g_fb_8, ⟨oldest_8a, oldest_8b⟩⟩ := jo9
    refine iz_get (D := (dC, dI)) (ci := 1) (v := .int (kz size_8)) (C := RX1) (T := TX1) (N := 6) hx hb hts hinX1 hown hK co_8 rfl 1 (by decide) hL232 (fun _ h9 => h9) rfl dX11_count_95 ?_
    exact W.iret (v := kz size_8) hx hb hr (fun t9 ht hW => ⟨kz size_8, rfl, trivial, ht⟩) (fun q h => absurd h List.not_mem_nil) dX11_count_98
  · refine lv_tableIn (off := 98) (tgt := 99) hx hb dX11_count_1 (by decide) (by decide) rfl (by decide) ?_
    refine lv_aload_n hx hb dX11_count_99 rfl (lv_at hl 0 rfl) ?_
    refine iz_get (D := (dC, dI)) (ci := 11) (v := .int (kz st)) (C := RX11) (T := TX11) (N := 7) hx hb hts hinX11 hown hK hO rfl 6 (by decide) hL48 (fun _ h9 => h9) rfl dX11_count_100 ?_
    exact W.iret (v := kz st) hx hb hr (fun t9 ht hW => ⟨kz st, rfl, trivial, ht⟩) (fun q h => absurd h List.not_mem_nil) dX11_count_103
  · refine lv_tableIn (off := 103) (tgt := 104) hx hb dX11_count_1 (by decide) (by decide) rfl (by decide) ?_
    refine lv_aload_n hx hb dX11_count_104 rfl (lv_at hl 0 rfl) ?_
    refine iz_get (D := (dC, dI)) (ci := 11) (v := .ref j_row) (C := RX11) (T := TX11) (N := 7) hx hb hts hinX11 hown hK hO rfl 2 (by decide) hL26 (fun _ h9 => h9) rfl dX11_count_105 ?_
    obtain ⟨fs9, co_9, jo9⟩ := jv_o6 hI g_j_row
    obtain ⟨chain_9, out_9, day_9, outSize_9, rfl, g_chain_9, g_out_9, ⟨day_9a, day_9b⟩, ⟨outSize_9a, outSize_9b⟩⟩ := jo9
    refine iz_get (D := (dC, dI)) (ci := 6) (v := .ref chain_9) (C := RX6) (T := TX6) (N := 4) hx hb hts hinX6 hown hK co_9 rfl 0 (by decide) hL135 (fun _ h9 => h9) rfl dX11_count_108 ?_
    obtain ⟨fs9, co_10, jo9⟩ := jv_o0 hI g_chain_9
    obtain ⟨forms_10, rules_10, size_10, rfl, g_forms_10, g_rules_10, ⟨size_10a, size_10b⟩, x_10_0⟩ := jo9
    refine vp_callSi (va_Run.run (va_runV (As := []) (rest := []) ⟨hx, hb, hml, hown, hts⟩ (c_price l dC dI ca A X hU chain_9 16 g_chain_9) (cwV 0 hts gX11_count_X0_price rfl rfl rfl (by decide +kernel) ⟨Nat.le_of_ble_eq_true rfl, Nat.le_of_ble_eq_true rfl⟩) ⟨fun a U g mk q => by obtain ⟨q0, ⟨qK, qN⟩, qI⟩ := q; exact ⟨q0, ⟨va_K.moved (u := U) (U := U.calling g mk a) (Vm.Alike.refl U.vm) qK, jN_same (U := U.calling g mk a) rfl qN⟩, qI⟩, va_recv hK (at_P co_10) (ci := 0) (q0 := 0) rfl rfl, fun U hU hW => ⟨rfl, jK_warm hW ⟨hK, hN⟩, by rw [hU]; exact hI⟩⟩ rfl rfl hl.1 rfl (lv_room (Nat.le_of_ble_eq_true rfl)) dX11_count_111 ⟨Nat.le_of_ble_eq_true rfl, Nat.le_of_ble_eq_true rfl⟩)) (fun r_12 hw_11 => ?_)
    obtain ⟨z_13, z_13a, z_13b, rfl⟩ := kz_ex r_12
    exact W.iret (v := kz z_13) hx hb hr (fun t9 ht hW => ⟨kz z_13, rfl, trivial, ht⟩) (fun q h => absurd h List.not_mem_nil) dX11_count_114
