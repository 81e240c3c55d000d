set_option maxHeartbeats 4000000 in
set_option maxRecDepth 100000 in
/-- X12_tells -/
theorem m_tells (l : Launch) (dC : Nat → ClassId) (dI : Nat → Nat → Nat) (ca : Nat → ClassId) (A : Nat → Prop) (X : kGh) (o : Nat) (am : Nat → Nat) (zi : Nat → Int) (zl : Nat → Int64) (fc : Nat → Nat → Int32) (hM : mS X A o am) (hz : mZ X am zi) (hk : frk X am fc) (f : Int) (which : Int) (fi : 0 ≤ f ∧ f < zi 2) (wi : 0 ≤ which) (hw : which < ge1 (fc 33) (pl f 0 0)) (ht : zi 39 ≤ 7) (hR : rc fc (zi 28) (zi 34) (zi 2) (zi 9) (fc 30)) (hE : ∀ f9 b9 t9 : Int, (0 ≤ f9 ∧ f9 < zi 2) → (0 ≤ b9 ∧ b9 ≤ 3) → (0 ≤ t9 ∧ t9 ≤ zi 28) → ¬ ge1 (fc 30) (pl f9 b9 t9) = 0 → ∀ w9 : Int, 0 ≤ w9 → w9 < ge1 (fc 33) (pl f9 b9 t9) → ev1 fc (zi 28) (zi 34) (zi 2) (zi 9) f9 b9 t9 (ge1 (fc 32) (8 * pl f9 b9 t9 + w9))) : Met l yX12_tells wsX12_tells ({ frames := 2, cells := 0, slots := 0, locals := 51 }) (va_Pc [.ref o, .int (kz f), .int (kz which)] (fun U => va_K (dC, dI) vwCl (k_tys ca) U ∧ mI (dC, dI) ca A X o am zi zl U.heap ∧ frz (dC, dI) ca am fc U.heap)) (va_Qv (fun (u : kGh × (Nat → Int)) => mS u.1 A o am ∧ mZ u.1 am u.2 ∧ frk u.1 am fc ∧ u.2 = fup zi 39 (zi 39 + 1)) (fun u U => va_K (dC, dI) vwCl (k_tys ca) U ∧ mI (dC, dI) ca A u.1 o am u.2 zl U.heap ∧ frz (dC, dI) ca am fc U.heap) A) 0 0 A := by
  refine Met.ofW (cc := cX12_tells) (maxL := 10) (ret := none) (by decide) rfl ?_
  intro p e s m args below meth c s₁ B hml hv
  obtain ⟨rfl, hK, ⟨hI, hO⟩, c_3, c_4, c_5, c_10, c_11, c_12, c_13, c_17, c_27, c_29, c_30, c_32, c_33, c_44⟩ := hv
  have hx := B.exec
  have hb := B.bytes
  have hr := B.returns
  have hts := atoms_spec (ws := wsX12_tells) B.pre
  have hown : s.vm.findClass RX12 = some m.cls := findClass_of_methodNamed B.named
  have hin : ∀ w ∈ u_ws RX12 TX12 49, w ∈ wsX12_tells := by decide +kernel
  have hL96 := hts (.fieldLink RX12 96 "JoinBenchModel" "toldCost" "[I") (by decide +kernel)
  have hL218 := hts (.fieldLink RX12 218 "JoinBenchModel" "told" "I") (by decide +kernel)
  have hL90 := hts (.fieldLink RX12 90 "JoinBenchModel" "best" "[I") (by decide +kernel)
  have hL102 := hts (.fieldLink RX12 102 "JoinBenchModel" "toldForm" "[I") (by decide +kernel)
  have hL105 := hts (.fieldLink RX12 105 "JoinBenchModel" "toldRule" "[I") (by decide +kernel)
  have hL39 := hts (.fieldLink RX12 39 "JoinBenchModel" "begins" "[I") (by decide +kernel)
  have hL99 := hts (.fieldLink RX12 99 "JoinBenchModel" "toldMany" "[I") (by decide +kernel)
  have g40 : X.1 (am 40) = (140, 20, 8, -2147483648, 2147483647) := hM.1 40 _ rfl (by decide)
  have w40 : X.2 (am 40) = 0 := hM.2.2.2 40 _ rfl (by decide) (by decide) (by decide)
  have g32 : X.1 (am 32) = (132, 20, 52480, -2147483648, 2147483647) := hM.1 32 _ rfl (by decide)
  have w32 : X.2 (am 32) = 0 := hM.2.2.2 32 _ rfl (by decide) (by decide) (by decide)
  have g42 : X.1 (am 42) = (142, 20, 320, 0, 39) := hM.1 42 _ rfl (by decide)
  have w42 : X.2 (am 42) = 0 := hM.2.2.2 42 _ rfl (by decide) (by decide) (by decide)
  have g43 : X.1 (am 43) = (143, 20, 320, -2147483648, 2147483647) := hM.1 43 _ rfl (by decide)
  have w43 : X.2 (am 43) = 0 := hM.2.2.2 43 _ rfl (by decide) (by decide) (by decide)
  have g12 : X.1 (am 12) = (112, 20, 24, 0, 3) := hM.1 12 _ rfl (by decide)
  have w12 : X.2 (am 12) = 0 := hM.2.2.2 12 _ rfl (by decide) (by decide) (by decide)
  have g41 : X.1 (am 41) = (141, 20, 8, 0, 40) := hM.1 41 _ rfl (by decide)
  have g3 : X.1 (am 3) = (103, 21, 320, 0, 0) := hM.1 3 _ rfl (by decide)
  have g4 : X.1 (am 4) = (104, 20, 40, 0, 8) := hM.1 4 _ rfl (by decide)
  have g5 : X.1 (am 5) = (105, 20, 40, 0, 5) := hM.1 5 _ rfl (by decide)
  have w5 : X.2 (am 5) = 0 := hM.2.2.2 5 _ rfl (by decide) (by decide) (by decide)
  have g10 : X.1 (am 10) = (110, 21, 240, 0, 0) := hM.1 10 _ rfl (by decide)
  have g11 : X.1 (am 11) = (111, 20, 24, 0, 3) := hM.1 11 _ rfl (by decide)
  have w11 : X.2 (am 11) = 0 := hM.2.2.2 11 _ rfl (by decide) (by decide) (by decide)
  have g13 : X.1 (am 13) = (113, 20, 24, 0, 4) := hM.1 13 _ rfl (by decide)
  have w13 : X.2 (am 13) = 0 := hM.2.2.2 13 _ rfl (by decide) (by decide) (by decide)
  have g17 : X.1 (am 17) = (117, 22, 36, 0, 0) := hM.1 17 _ rfl (by decide)
  have g27 : X.1 (am 27) = (127, 21, 40, 0, 0) := hM.1 27 _ rfl (by decide)
  have g29 : X.1 (am 29) = (129, 20, 1600, -2147483648, 2147483647) := hM.1 29 _ rfl (by decide)
  have w29 : X.2 (am 29) = 0 := hM.2.2.2 29 _ rfl (by decide) (by decide) (by decide)
  have g30 : X.1 (am 30) = (130, 22, 6560, 0, 0) := hM.1 30 _ rfl (by decide)
  have g33 : X.1 (am 33) = (133, 20, 6560, 0, 8) := hM.1 33 _ rfl (by decide)
  have w33 : X.2 (am 33) = 0 := hM.2.2.2 33 _ rfl (by decide) (by decide) (by decide)
  have g44 : X.1 (am 44) = (144, 20, 40, 0, 8) := hM.1 44 _ rfl (by decide)
  have w44 : X.2 (am 44) = 0 := hM.2.2.2 44 _ rfl (by decide) (by decide) (by decide)
  obtain ⟨⟨z1a, z1b⟩, ⟨z2a, z2b⟩, ⟨z9a, z9b⟩, ⟨z20a, z20b⟩, ⟨z21a, z21b⟩, ⟨z22a, z22b⟩, ⟨z26a, z26b⟩, ⟨z28a, z28b⟩, ⟨z34a, z34b⟩, ⟨z35a, z35b⟩, ⟨z38a, z38b⟩, ⟨z39a, z39b⟩, ⟨z46a, z46b⟩, hzA, hzB⟩ := id hz
  obtain ⟨k_4, k_5, k_11, k_12, k_13, k_29, k_32, k_33, k_44⟩ := id hk
  obtain ⟨H, hH⟩ : ∃ H : Heap, H = s.heap := ⟨_, rfl⟩
  have hS : va_S A s.heap H [] := by rw [hH]; exact va_S.rf
  rw [← hH] at hI hO c_3 c_4 c_5 c_10 c_11 c_12 c_13 c_17 c_27 c_29 c_30 c_32 c_33 c_44 ⊢
  clear hH
  have hl := lv_entry ([.ref o, .int (kz f), .int (kz which)]) (n := 10) (Nat.le_of_ble_eq_true rfl)
  rw [lg_entry_eq]
  generalize (lg_sl ([.ref o, .int (kz f), .int (kz which)]) ++ List.replicate (10 - (lg_sl ([.ref o, .int (kz f), .int (kz which)])).length) Slot.unset).toArray = ls at hl ⊢
  have hl : lv_has ls 10 [(0, .ref o), (1, .int (kz f)), (2, .int (kz which))] := hl
  have hw2 : which ≤ 7 := by have q9 := (k_33 (pl f 0 0) ⟨by unfold pl; omega, by unfold pl; omega⟩).2.1; omega
  refine lv_iconst (v := kz 0) hx hb dX12_tells_0 rfl ?_
  refine lv_istore_n (lv' := [(3, .int (kz 0)), (0, .ref o), (1, .int (kz f)), (2, .int (kz which))]) hx hb dX12_tells_1 rfl hl (by decide) rfl (fun ls hl => ?_)
  refine lv_iconst (v := kz 0) hx hb dX12_tells_2 rfl ?_
  refine lv_istore (lv' := [(4, .int (kz 0)), (3, .int (kz 0)), (0, .ref o), (1, .int (kz f)), (2, .int (kz which))]) hx hb dX12_tells_3 hl (by decide) rfl (fun ls hl => ?_)
  refine lv_iload_n hx hb dX12_tells_5 rfl (lv_at hl 3 rfl) ?_
  refine lv_istore (lv' := [(5, .int (kz f)), (4, .int (kz 0)), (3, .int (kz 0)), (0, .ref o), (1, .int (kz f)), (2, .int (kz which))]) hx hb dX12_tells_6 hl (by decide) rfl (fun ls hl => ?_)
  refine lv_iconst (v := kz 0) hx hb dX12_tells_8 rfl ?_
  refine lv_istore (lv' := [(6, .int (kz 0)), (5, .int (kz f)), (4, .int (kz 0)), (3, .int (kz 0)), (0, .ref o), (1, .int (kz f)), (2, .int (kz which))]) hx hb dX12_tells_9 hl (by decide) rfl (fun ls hl => ?_)
  refine lv_iload_n hx hb dX12_tells_11 rfl (lv_at hl 6 rfl) ?_
  refine lv_istore (lv' := [(7, .int (kz which)), (6, .int (kz 0)), (5, .int (kz f)), (4, .int (kz 0)), (3, .int (kz 0)), (0, .ref o), (1, .int (kz f)), (2, .int (kz which))]) hx hb dX12_tells_12 hl (by decide) rfl (fun ls hl => ?_)
  refine lv_iconst (v := kz (-1)) hx hb dX12_tells_14 rfl ?_
  refine lv_istore (lv' := [(8, .int (kz (-1))), (7, .int (kz which)), (6, .int (kz 0)), (5, .int (kz f)), (4, .int (kz 0)), (3, .int (kz 0)), (0, .ref o), (1, .int (kz f)), (2, .int (kz which))]) hx hb dX12_tells_15 hl (by decide) rfl (fun ls hl => ?_)
  refine lv_aload_n hx hb dX12_tells_17 rfl (lv_at hl 6 rfl) ?_
  refine iz_get (D := (dC, dI)) (ci := 12) (v := .ref (am 40)) (C := RX12) (T := TX12) (N := 49) hx hb hts hin hown hK hO rfl 40 (by decide) hL96 (fun _ h9 => h9) rfl dX12_tells_18 ?_
  refine lv_aload_n hx hb dX12_tells_21 rfl (lv_at hl 6 rfl) ?_
  refine iz_get (D := (dC, dI)) (ci := 12) (v := .int (kz (zi 39))) (C := RX12) (T := TX12) (N := 49) hx hb hts hin hown hK hO rfl 39 (by decide) hL218 (fun _ h9 => h9) rfl dX12_tells_22 ?_
  refine lv_aload_n hx hb dX12_tells_25 rfl (lv_at hl 6 rfl) ?_
  refine iz_get (D := (dC, dI)) (ci := 12) (v := .ref (am 32)) (C := RX12) (T := TX12) (N := 49) hx hb hts hin hown hK hO rfl 32 (by decide) hL90 (fun _ h9 => h9) rfl dX12_tells_26 ?_
  refine lv_bipush (v := kz 8) hx hb dX12_tells_29 (by decide) ?_
  refine lv_iload_n hx hb dX12_tells_31 rfl (lv_at hl 7 rfl) ?_
  refine lv_iconst (v := kz 0) hx hb dX12_tells_32 rfl ?_
  refine lv_iconst (v := kz 0) hx hb dX12_tells_33 rfl ?_
  refine vp_callSi (va_Run.run (va_runS (As := [.int (kz f), .int (kz 0), .int (kz 0)]) (rest := [.int (kz 8), .ref (am 32), .int (kz (zi 39)), .ref (am 40)]) ⟨hx, hb, hml, hown, hts⟩ (m_placeOf l f 0 0) (va_cwS 3 hts gX12_tells_X12_placeOf rfl rfl rfl (by decide +kernel) ⟨Nat.le_of_ble_eq_true rfl, Nat.le_of_ble_eq_true rfl⟩) ⟨fun a U g mk q => q, fun U hU hW => ⟨rfl, trivial⟩⟩ rfl rfl hl.1 rfl (lv_room (Nat.le_of_ble_eq_true rfl)) dX12_tells_34 ⟨Nat.le_of_ble_eq_true rfl, Nat.le_of_ble_eq_true rfl⟩)) (fun r_2 hw_1 => ?_)
  obtain ⟨z_3, rfl, z_3h⟩ := hw_1
  refine iz_imul hx hb dX12_tells_37 ?_
  refine lv_iload_n hx hb dX12_tells_38 rfl (lv_at hl 8 rfl) ?_
  refine iz_iadd hx hb dX12_tells_39 ?_
  refine iz_iald hx hb hK 0 c_32 rfl (by omega) (by decide) dX12_tells_40 ?_
  obtain ⟨v_4a, v_4b, v_4c⟩ := k_32 ((8 * z_3) + which) (by omega)
  clear v_4c
  obtain ⟨v_4, ev_4⟩ : ∃ z9 : Int, ge1 (fc 32) ((8 * z_3) + which) = z9 := ⟨_, rfl⟩
  rw [ev_4] at v_4a v_4b ⊢
  refine vp_callSi (va_Run.run (va_runS (As := [.int (kz v_4)]) (rest := [.int (kz (zi 39)), .ref (am 40)]) ⟨hx, hb, hml, hown, hts⟩ (m_costOf l v_4) (va_cwS 1 hts gX12_tells_X12_costOf rfl rfl rfl (by decide +kernel) ⟨Nat.le_of_ble_eq_true rfl, Nat.le_of_ble_eq_true rfl⟩) ⟨fun a U g mk q => q, fun U hU hW => ⟨rfl, trivial⟩⟩ rfl rfl hl.1 rfl (lv_room (Nat.le_of_ble_eq_true rfl)) dX12_tells_41 ⟨Nat.le_of_ble_eq_true rfl, Nat.le_of_ble_eq_true rfl⟩)) (fun r_6 hw_5 => ?_)
  obtain ⟨z_7, z_7a, z_7b, rfl⟩ := kz_ex r_6
  obtain ⟨f40_8, c_f40_8, k_f40_8⟩ := iv_o20 hI g40
  refine iz_any (fun z_9 z_9a z_9b z_9e => ?_)
  refine iz_iast hx hb hK 0 c_f40_8 hS (iv_A hI g40 (by decide)) rfl (by omega) (by decide) dX12_tells_44 (fun H locs c9 oq hS => ?_)
  have hI := iv_s20 hI g40 k_f40_8 c9 oq (by omega) (by omega) (by decide) (by omega)
  have hO := hO.kept (oq _ (iv_ne0 g40 hM.2.1 (by decide)).symm)
  have c_3 := c_3.kept (oq _ (iv_ne g3 g40 (by decide)))
  have c_4 := c_4.kept (oq _ (iv_ne g4 g40 (by decide)))
  have c_5 := c_5.kept (oq _ (iv_ne g5 g40 (by decide)))
  have c_10 := c_10.kept (oq _ (iv_ne g10 g40 (by decide)))
  have c_11 := c_11.kept (oq _ (iv_ne g11 g40 (by decide)))
  have c_12 := c_12.kept (oq _ (iv_ne g12 g40 (by decide)))
  have c_13 := c_13.kept (oq _ (iv_ne g13 g40 (by decide)))
  have c_17 := c_17.kept (oq _ (iv_ne g17 g40 (by decide)))
  have c_27 := c_27.kept (oq _ (iv_ne g27 g40 (by decide)))
  have c_29 := c_29.kept (oq _ (iv_ne g29 g40 (by decide)))
  have c_30 := c_30.kept (oq _ (iv_ne g30 g40 (by decide)))
  have c_32 := c_32.kept (oq _ (iv_ne g32 g40 (by decide)))
  have c_33 := c_33.kept (oq _ (iv_ne g33 g40 (by decide)))
  have c_44 := c_44.kept (oq _ (iv_ne g44 g40 (by decide)))
  clear oq c9
  refine iz_loopA6 (α := Unit) (P := fun N9 fn9 t1 b1 g1 n1 w1 q1 H locs ls => (0 ≤ t1 ∧ t1 ≤ zi 28) ∧ (0 ≤ n1 ∧ n1 ≤ t1) ∧ (0 ≤ b1 ∧ b1 ≤ 3) ∧ (0 ≤ g1 ∧ g1 < zi 2) ∧ (-1 ≤ q1 ∧ q1 ≤ 31) ∧ (zi 39 ≤ 7) ∧ (¬ ge1 (fc 30) (pl g1 b1 t1) = 0 ∧ 0 ≤ w1 ∧ w1 < ge1 (fc 33) (pl g1 b1 t1)) ∧ 40 - t1 ≤ (N9 : Int) ∧ lv_has ls 10 [(8, .int (kz q1)), (7, .int (kz w1)), (6, .int (kz n1)), (5, .int (kz g1)), (4, .int (kz b1)), (3, .int (kz t1)), (0, .ref o), (1, .int (kz f)), (2, .int (kz which))] ∧ iv (dC, dI) ca A X H ∧ va_at (dC, dI) vwCl (o, .inr (12, mM am zi zl)) H ∧ va_S A s.heap H locs ∧ va_at (dC, dI) vwCl (am 3, .inl (ca 21, 320, .inl (fc 3))) H ∧ va_at (dC, dI) vwCl (am 4, .inl (ca 20, 40, .inl (fc 4))) H ∧ va_at (dC, dI) vwCl (am 5, .inl (ca 20, 40, .inl (fc 5))) H ∧ va_at (dC, dI) vwCl (am 10, .inl (ca 21, 240, .inl (fc 10))) H ∧ va_at (dC, dI) vwCl (am 11, .inl (ca 20, 24, .inl (fc 11))) H ∧ va_at (dC, dI) vwCl (am 12, .inl (ca 20, 24, .inl (fc 12))) H ∧ va_at (dC, dI) vwCl (am 13, .inl (ca 20, 24, .inl (fc 13))) H ∧ va_at (dC, dI) vwCl (am 17, .inl (ca 22, 36, .inl (fc 17))) H ∧ va_at (dC, dI) vwCl (am 27, .inl (ca 21, 40, .inl (fc 27))) H ∧ va_at (dC, dI) vwCl (am 29, .inl (ca 20, 1600, .inl (fc 29))) H ∧ va_at (dC, dI) vwCl (am 30, .inl (ca 22, 6560, .inl (fc 30))) H ∧ va_at (dC, dI) vwCl (am 32, .inl (ca 20, 52480, .inl (fc 32))) H ∧ va_at (dC, dI) vwCl (am 33, .inl (ca 20, 6560, .inl (fc 33))) H ∧ va_at (dC, dI) vwCl (am 44, .inl (ca 20, 40, .inl (fc 44))) H) 100000 () (x0 := 0) (x1 := 0) (x2 := f) (x3 := 0) (x4 := which) (x5 := (-1)) ?_ ⟨by omega, by omega, by omega, by omega, by omega, by omega, ⟨hR.2.1 f (by omega) (by omega), by omega, hw⟩, by omega, lv_sub hl [0, 1, 2, 3, 4, 5, 6, 7, 8] rfl, hI, hO, hS, c_3, c_4, c_5, c_10, c_11, c_12, c_13, c_17, c_27, c_29, c_30, c_32, c_33, c_44⟩
  intro n_10 fn9 t1 b1 g1 n1 w1 q1 H locs ls ⟨n_10f0, n_10f1, n_10f2, n_10f3, n_10f4, n_10f5, n_10f6, n_10f7, hl, hI, hO, hS, c_3, c_4, c_5, c_10, c_11, c_12, c_13, c_17, c_27, c_29, c_30, c_32, c_33, c_44⟩ ihn_10
  have hev := hE g1 b1 t1 (by omega) (by omega) (by omega) n_10f6.1 w1 n_10f6.2.1 n_10f6.2.2
  have hlt := hev.1
  have hb33 := (k_33 (pl g1 b1 t1) ⟨by unfold pl; omega, by unfold pl; omega⟩).2.1
  refine lv_aload_n hx hb dX12_tells_45 rfl (lv_at hl 6 rfl) ?_
  refine iz_get (D := (dC, dI)) (ci := 12) (v := .ref (am 42)) (C := RX12) (T := TX12) (N := 49) hx hb hts hin hown hK hO rfl 42 (by decide) hL102 (fun _ h9 => h9) rfl dX12_tells_46 ?_
  refine lv_bipush (v := kz 40) hx hb dX12_tells_49 (by decide) ?_
  refine lv_aload_n hx hb dX12_tells_51 rfl (lv_at hl 6 rfl) ?_
  refine iz_get (D := (dC, dI)) (ci := 12) (v := .int (kz (zi 39))) (C := RX12) (T := TX12) (N := 49) hx hb hts hin hown hK hO rfl 39 (by decide) hL218 (fun _ h9 => h9) rfl dX12_tells_52 ?_
  refine iz_imul hx hb dX12_tells_55 ?_
  refine lv_iload hx hb dX12_tells_56 (lv_at hl 2 rfl) ?_
  refine iz_iadd hx hb dX12_tells_58 ?_
  refine lv_iload hx hb dX12_tells_59 (lv_at hl 3 rfl) ?_
  obtain ⟨f42_11, c_f42_11, k_f42_11⟩ := iv_o20 hI g42
  refine iz_iast hx hb hK 0 c_f42_11 hS (iv_A hI g42 (by decide)) rfl (by omega) (by decide) dX12_tells_61 (fun H locs c9 oq hS => ?_)
  have hI := iv_s20 hI g42 k_f42_11 c9 oq (by omega) (by omega) (by decide) (by omega)
  have hO := hO.kept (oq _ (iv_ne0 g42 hM.2.1 (by decide)).symm)
  have c_3 := c_3.kept (oq _ (iv_ne g3 g42 (by decide)))
  have c_4 := c_4.kept (oq _ (iv_ne g4 g42 (by decide)))
  have c_5 := c_5.kept (oq _ (iv_ne g5 g42 (by decide)))
  have c_10 := c_10.kept (oq _ (iv_ne g10 g42 (by decide)))
  have c_11 := c_11.kept (oq _ (iv_ne g11 g42 (by decide)))
  have c_12 := c_12.kept (oq _ (iv_ne g12 g42 (by decide)))
  have c_13 := c_13.kept (oq _ (iv_ne g13 g42 (by decide)))
  have c_17 := c_17.kept (oq _ (iv_ne g17 g42 (by decide)))
  have c_27 := c_27.kept (oq _ (iv_ne g27 g42 (by decide)))
  have c_29 := c_29.kept (oq _ (iv_ne g29 g42 (by decide)))
  have c_30 := c_30.kept (oq _ (iv_ne g30 g42 (by decide)))
  have c_32 := c_32.kept (oq _ (iv_ne g32 g42 (by decide)))
  have c_33 := c_33.kept (oq _ (iv_ne g33 g42 (by decide)))
  have c_44 := c_44.kept (oq _ (iv_ne g44 g42 (by decide)))
  clear oq c9
  refine lv_aload_n hx hb dX12_tells_62 rfl (lv_at hl 6 rfl) ?_
  refine iz_get (D := (dC, dI)) (ci := 12) (v := .ref (am 43)) (C := RX12) (T := TX12) (N := 49) hx hb hts hin hown hK hO rfl 43 (by decide) hL105 (fun _ h9 => h9) rfl dX12_tells_63 ?_
  refine lv_bipush (v := kz 40) hx hb dX12_tells_66 (by decide) ?_
  refine lv_aload_n hx hb dX12_tells_68 rfl (lv_at hl 6 rfl) ?_
  refine iz_get (D := (dC, dI)) (ci := 12) (v := .int (kz (zi 39))) (C := RX12) (T := TX12) (N := 49) hx hb hts hin hown hK hO rfl 39 (by decide) hL218 (fun _ h9 => h9) rfl dX12_tells_69 ?_
  refine iz_imul hx hb dX12_tells_72 ?_
  refine lv_iload hx hb dX12_tells_73 (lv_at hl 2 rfl) ?_
  refine iz_iadd hx hb dX12_tells_75 ?_
  refine lv_iload hx hb dX12_tells_76 (lv_at hl 0 rfl) ?_
  obtain ⟨f43_12, c_f43_12, k_f43_12⟩ := iv_o20 hI g43
  refine iz_any (fun z_13 z_13a z_13b z_13e => ?_)
  refine iz_iast hx hb hK 0 c_f43_12 hS (iv_A hI g43 (by decide)) rfl (by omega) (by decide) dX12_tells_78 (fun H locs c9 oq hS => ?_)
  have hI := iv_s20 hI g43 k_f43_12 c9 oq (by omega) (by omega) (by decide) (by omega)
  have hO := hO.kept (oq _ (iv_ne0 g43 hM.2.1 (by decide)).symm)
  have c_3 := c_3.kept (oq _ (iv_ne g3 g43 (by decide)))
  have c_4 := c_4.kept (oq _ (iv_ne g4 g43 (by decide)))
  have c_5 := c_5.kept (oq _ (iv_ne g5 g43 (by decide)))
  have c_10 := c_10.kept (oq _ (iv_ne g10 g43 (by decide)))
  have c_11 := c_11.kept (oq _ (iv_ne g11 g43 (by decide)))
  have c_12 := c_12.kept (oq _ (iv_ne g12 g43 (by decide)))
  have c_13 := c_13.kept (oq _ (iv_ne g13 g43 (by decide)))
  have c_17 := c_17.kept (oq _ (iv_ne g17 g43 (by decide)))
  have c_27 := c_27.kept (oq _ (iv_ne g27 g43 (by decide)))
  have c_29 := c_29.kept (oq _ (iv_ne g29 g43 (by decide)))
  have c_30 := c_30.kept (oq _ (iv_ne g30 g43 (by decide)))
  have c_32 := c_32.kept (oq _ (iv_ne g32 g43 (by decide)))
  have c_33 := c_33.kept (oq _ (iv_ne g33 g43 (by decide)))
  have c_44 := c_44.kept (oq _ (iv_ne g44 g43 (by decide)))
  clear oq c9
  refine lv_aload_n hx hb dX12_tells_79 rfl (lv_at hl 6 rfl) ?_
  refine iz_get (D := (dC, dI)) (ci := 12) (v := .ref (am 32)) (C := RX12) (T := TX12) (N := 49) hx hb hts hin hown hK hO rfl 32 (by decide) hL90 (fun _ h9 => h9) rfl dX12_tells_80 ?_
  refine lv_bipush (v := kz 8) hx hb dX12_tells_83 (by decide) ?_
  refine lv_iload hx hb dX12_tells_85 (lv_at hl 3 rfl) ?_
  refine lv_iload hx hb dX12_tells_87 (lv_at hl 4 rfl) ?_
  refine lv_iload_n hx hb dX12_tells_89 rfl (lv_at hl 5 rfl) ?_
  refine vp_callSi (va_Run.run (va_runS (As := [.int (kz g1), .int (kz b1), .int (kz t1)]) (rest := [.int (kz 8), .ref (am 32)]) ⟨hx, hb, hml, hown, hts⟩ (m_placeOf l g1 b1 t1) (va_cwS 3 hts gX12_tells_X12_placeOf rfl rfl rfl (by decide +kernel) ⟨Nat.le_of_ble_eq_true rfl, Nat.le_of_ble_eq_true rfl⟩) ⟨fun a U g mk q => q, fun U hU hW => ⟨rfl, trivial⟩⟩ rfl rfl hl.1 rfl (lv_room (Nat.le_of_ble_eq_true rfl)) dX12_tells_90 ⟨Nat.le_of_ble_eq_true rfl, Nat.le_of_ble_eq_true rfl⟩)) (fun r_15 hw_14 => ?_)
  obtain ⟨z_16, rfl, z_16h⟩ := hw_14
  refine iz_imul hx hb dX12_tells_93 ?_
  refine lv_iload hx hb dX12_tells_94 (lv_at hl 1 rfl) ?_
  refine iz_iadd hx hb dX12_tells_96 ?_
  refine iz_iald hx hb hK 0 c_32 rfl (by omega) (by decide) dX12_tells_97 ?_
  obtain ⟨v_17a, v_17b, v_17c⟩ := k_32 ((8 * z_16) + w1) (by omega)
  clear v_17c
  obtain ⟨v_17, ev_17⟩ : ∃ z9 : Int, ge1 (fc 32) ((8 * z_16) + w1) = z9 := ⟨_, rfl⟩
  rw [ev_17] at v_17a v_17b ⊢
  refine lv_istore (lv' := [(9, .int (kz v_17)), (8, .int (kz q1)), (7, .int (kz w1)), (6, .int (kz n1)), (5, .int (kz g1)), (4, .int (kz b1)), (3, .int (kz t1)), (0, .ref o), (1, .int (kz f)), (2, .int (kz which))]) hx hb dX12_tells_98 hl (by decide) rfl (fun ls hl => ?_)
  refine lv_iinc (v := kz (n1 + 1)) (lv' := [(6, .int (kz (n1 + 1))), (9, .int (kz v_17)), (8, .int (kz q1)), (7, .int (kz w1)), (5, .int (kz g1)), (4, .int (kz b1)), (3, .int (kz t1)), (0, .ref o), (1, .int (kz f)), (2, .int (kz which))]) hx hb dX12_tells_100 hl (k := 3) rfl (kz_add n1 1) (by decide) rfl (fun ls hl => ?_)
  rw [show pl g1 b1 t1 = z_16 from z_16h.symm, ev_17] at hev
  refine lv_iload hx hb dX12_tells_103 (lv_at hl 1 rfl) ?_
  refine lv_bipush (v := kz 14) hx hb dX12_tells_105 (by decide) ?_
  refine lv_ishr hx hb dX12_tells_107 ?_
  refine iz_any (fun z_18 z_18a z_18b z_18e => ?_)
  refine lv_iconst (v := kz 1) hx hb dX12_tells_108 rfl ?_
  refine iz_iand hx hb dX12_tells_109 (by decide) (fun z_19 z_19a z_19b z_19e => ?_)
  refine iz_nez (tgt := 116) hx hb dX12_tells_110 (by decide) (by unfold rg2; omega) (fun br_20 => ?_) (fun br_20 => ?_)
  · rcases hev.2 with h9 | ⟨g9, q9, w9, hs9, hq9, hg9, hw9, h09, hl9⟩
    · exfalso
      unfold d14 at h9
      rw [z_18e, z_19e, kz_toInt (by omega) (by omega)] at h9
      omega
    refine lv_iload hx hb dX12_tells_116 (lv_at hl 1 rfl) ?_
    refine lv_bipush (v := kz 9) hx hb dX12_tells_118 (by decide) ?_
    refine lv_ishr hx hb dX12_tells_120 ?_
    refine iz_any (fun z_21 z_21a z_21b z_21e => ?_)
    refine lv_bipush (v := kz 31) hx hb dX12_tells_121 (by decide) ?_
    refine iz_iand hx hb dX12_tells_123 (by decide) (fun z_22 z_22a z_22b z_22e => ?_)
    have hq8 : z_22 = q9 + 1 := by unfold dq at hq9; rw [z_21e, z_22e, kz_toInt (by omega) (by omega)] at hq9; exact hq9
    have e9 : z_22 - 1 = q9 := by omega
    have hr9 := hs9.2.1
    have hgr9 := hs9.1
    refine lv_iconst (v := kz 1) hx hb dX12_tells_124 rfl ?_
    refine iz_isub hx hb dX12_tells_125 ?_
    refine lv_istore (lv' := [(8, .int (kz (z_22 - 1))), (6, .int (kz (n1 + 1))), (9, .int (kz v_17)), (7, .int (kz w1)), (5, .int (kz g1)), (4, .int (kz b1)), (3, .int (kz t1)), (0, .ref o), (1, .int (kz f)), (2, .int (kz which))]) hx hb dX12_tells_126 hl (by decide) rfl (fun ls hl => ?_)
    have hbs : b1 < ge1 (fc 4) g1 := vl_bs hR.1 (by omega) (by omega) (by omega) (by omega) z_16h (by rw [show z_16 = pl g1 b1 t1 from z_16h]; exact n_10f6.1)
    refine lv_aload_n hx hb dX12_tells_128 rfl (lv_at hl 7 rfl) ?_
    refine lv_iload hx hb dX12_tells_129 (lv_at hl 4 rfl) ?_
    refine lv_iload hx hb dX12_tells_131 (lv_at hl 5 rfl) ?_
    refine lv_iload_n hx hb dX12_tells_133 rfl (lv_at hl 6 rfl) ?_
    refine lv_iload hx hb dX12_tells_134 (lv_at hl 0 rfl) ?_
    refine vp_callSi (va_Run.run (va_runV (As := [.int (kz g1), .int (kz b1), .int (kz t1), .int (kz (z_22 - 1))]) (rest := []) ⟨hx, hb, hml, hown, hts⟩ (m_passes l dC dI ca A X o am zi zl fc hM hz ⟨k_4, k_5, k_11, k_12, k_13, k_29, k_32, k_33, k_44⟩ g1 b1 t1 (z_22 - 1) (by omega) (by omega) (by show b1 ≤ ge1 (fc 4) g1; omega) (by omega) (by omega)) (cwV 4 hts gX12_tells_X12_passes rfl rfl rfl (by decide +kernel) ⟨Nat.le_of_ble_eq_true rfl, Nat.le_of_ble_eq_true rfl⟩) ⟨fun a U g mk q => by obtain ⟨q0, qK, qI⟩ := q; exact ⟨q0, va_K.moved (u := U) (U := U.calling g mk a) (Vm.Alike.refl U.vm) qK, qI⟩, va_recv hK (at_P hO) (ci := 12) (q0 := 0) rfl rfl, fun U hU hW => ⟨rfl, va_K.moved hW.alike hK, by rw [hU]; exact ⟨⟨hI, hO⟩, c_3, c_4, c_5, c_10, c_11, c_12, c_13, c_17, c_27, c_29, c_30, c_32, c_33, c_44⟩⟩⟩ rfl rfl hl.1 rfl (lv_room (Nat.le_of_ble_eq_true rfl)) dX12_tells_136 ⟨Nat.le_of_ble_eq_true rfl, Nat.le_of_ble_eq_true rfl⟩)) (fun r_24 hw_23 => ?_)
    rcases hw_23 with ⟨hw_23, rfl⟩ | ⟨hw_23, rfl⟩
    rotate_left
    · exact absurd (show ps fc (zi 28) g1 b1 t1 (z_22 - 1) by rw [e9]; exact hs9.2.2.2) hw_23
    obtain ⟨z_25, ez_25⟩ : ∃ z9 : Int, z9 = ds fc g1 b1 t1 (z_22 - 1) := ⟨_, rfl⟩
    rw [← ez_25]
    have rz_25 := ds_rng (X := X) (am := am) (fc := fc) hk (by omega) ⟨by omega, hbs⟩ (by omega) (by omega) hw_23
    rw [← ez_25] at rz_25
    have ez9 : z_25 = ds fc g1 b1 t1 q9 := by rw [ez_25, e9]
    refine lv_istore_n (lv' := [(3, .int (kz z_25)), (8, .int (kz (z_22 - 1))), (6, .int (kz (n1 + 1))), (9, .int (kz v_17)), (7, .int (kz w1)), (5, .int (kz g1)), (4, .int (kz b1)), (0, .ref o), (1, .int (kz f)), (2, .int (kz which))]) hx hb dX12_tells_139 rfl hl (by decide) rfl (fun ls hl => ?_)
    refine lv_iload hx hb dX12_tells_140 (lv_at hl 1 rfl) ?_
    refine iz_gez (tgt := 149) hx hb dX12_tells_142 (by decide) (by unfold rg2; omega) (fun br_26 => ?_) (fun br_26 => ?_)
    · refine lv_aload_n hx hb dX12_tells_149 rfl (lv_at hl 7 rfl) ?_
      refine iz_get (D := (dC, dI)) (ci := 12) (v := .ref (am 12)) (C := RX12) (T := TX12) (N := 49) hx hb hts hin hown hK hO rfl 12 (by decide) hL39 (fun _ h9 => h9) rfl dX12_tells_150 ?_
      refine lv_iload hx hb dX12_tells_153 (lv_at hl 1 rfl) ?_
      refine iz_iald hx hb hK 0 c_12 rfl (by omega) (by decide) dX12_tells_155 ?_
      obtain ⟨v_27a, v_27b, v_27c⟩ := k_12 (z_22 - 1) (by omega)
      clear v_27c
      obtain ⟨v_27, ev_27⟩ : ∃ z9 : Int, ge1 (fc 12) (z_22 - 1) = z9 := ⟨_, rfl⟩
      rw [ev_27] at v_27a v_27b ⊢
      refine lv_istore (lv' := [(4, .int (kz v_27)), (3, .int (kz z_25)), (8, .int (kz (z_22 - 1))), (6, .int (kz (n1 + 1))), (9, .int (kz v_17)), (7, .int (kz w1)), (5, .int (kz g1)), (0, .ref o), (1, .int (kz f)), (2, .int (kz which))]) hx hb dX12_tells_156 hl (by decide) rfl (fun ls hl => ?_)
      refine lv_iload hx hb dX12_tells_158 (lv_at hl 4 rfl) ?_
      refine lv_iconst (v := kz 3) hx hb dX12_tells_160 rfl ?_
      refine lv_ishr hx hb dX12_tells_161 ?_
      refine iz_any (fun z_28 z_28a z_28b z_28e => ?_)
      refine lv_bipush (v := kz 63) hx hb dX12_tells_162 (by decide) ?_
      refine iz_iand hx hb dX12_tells_164 (by decide) (fun z_29 z_29a z_29b z_29e => ?_)
      refine lv_istore (lv' := [(5, .int (kz z_29)), (4, .int (kz v_27)), (3, .int (kz z_25)), (8, .int (kz (z_22 - 1))), (6, .int (kz (n1 + 1))), (9, .int (kz v_17)), (7, .int (kz w1)), (0, .ref o), (1, .int (kz f)), (2, .int (kz which))]) hx hb dX12_tells_165 hl (by decide) rfl (fun ls hl => ?_)
      refine lv_iload hx hb dX12_tells_167 (lv_at hl 5 rfl) ?_
      refine lv_bipush (v := kz 7) hx hb dX12_tells_169 (by decide) ?_
      refine iz_iand hx hb dX12_tells_171 (by decide) (fun z_30 z_30a z_30b z_30e => ?_)
      refine lv_istore (lv' := [(7, .int (kz z_30)), (5, .int (kz z_29)), (4, .int (kz v_27)), (3, .int (kz z_25)), (8, .int (kz (z_22 - 1))), (6, .int (kz (n1 + 1))), (9, .int (kz v_17)), (0, .ref o), (1, .int (kz f)), (2, .int (kz which))]) hx hb dX12_tells_172 hl (by decide) rfl (fun ls hl => ?_)
      refine lv_goto (tgt := 45) hx hb dX12_tells_174 (by decide) ?_
      have hg8 : z_29 = g9 := by unfold dg at hg9; rw [z_28e, z_29e, kz_toInt (by omega) (by omega)] at hg9; exact hg9
      have hw8 : z_30 = w9 := by unfold dw at hw9; rw [z_30e, kz_toInt (by omega) (by omega)] at hw9; exact hw9
      have eb : nb fc q9 = v_27 := by unfold nb; rw [if_neg (by omega), ← e9]; exact ev_27
      have hc9 := hR.2.2 g1 b1 t1 (by omega) (by omega) (by omega) n_10f6.1 g9 q9 hs9
      rw [eb, ← ez9, ← hg8] at hc9 hl9
      exact ihn_10 (n_10 - 1) (by omega) () z_25 v_27 z_29 (n1 + 1) z_30 (z_22 - 1) _ _ _ ⟨by omega, by omega, by omega, by omega, by omega, by omega, ⟨hc9, by omega, by rw [hw8]; exact hl9⟩, by omega, lv_sub hl [4, 0, 5, 1, 2, 3, 7, 8, 9] rfl, hI, hO, hS, c_3, c_4, c_5, c_10, c_11, c_12, c_13, c_17, c_27, c_29, c_30, c_32, c_33, c_44⟩
    · refine lv_iconst (v := kz 0) hx hb dX12_tells_145 rfl ?_
      refine lv_goto (tgt := 156) hx hb dX12_tells_146 (by decide) ?_
      refine lv_istore (lv' := [(4, .int (kz 0)), (3, .int (kz z_25)), (8, .int (kz (z_22 - 1))), (6, .int (kz (n1 + 1))), (9, .int (kz v_17)), (7, .int (kz w1)), (5, .int (kz g1)), (0, .ref o), (1, .int (kz f)), (2, .int (kz which))]) hx hb dX12_tells_156 hl (by decide) rfl (fun ls hl => ?_)
      refine lv_iload hx hb dX12_tells_158 (lv_at hl 4 rfl) ?_
      refine lv_iconst (v := kz 3) hx hb dX12_tells_160 rfl ?_
      refine lv_ishr hx hb dX12_tells_161 ?_
      refine iz_any (fun z_31 z_31a z_31b z_31e => ?_)
      refine lv_bipush (v := kz 63) hx hb dX12_tells_162 (by decide) ?_
      refine iz_iand hx hb dX12_tells_164 (by decide) (fun z_32 z_32a z_32b z_32e => ?_)
      refine lv_istore (lv' := [(5, .int (kz z_32)), (4, .int (kz 0)), (3, .int (kz z_25)), (8, .int (kz (z_22 - 1))), (6, .int (kz (n1 + 1))), (9, .int (kz v_17)), (7, .int (kz w1)), (0, .ref o), (1, .int (kz f)), (2, .int (kz which))]) hx hb dX12_tells_165 hl (by decide) rfl (fun ls hl => ?_)
      refine lv_iload hx hb dX12_tells_167 (lv_at hl 5 rfl) ?_
      refine lv_bipush (v := kz 7) hx hb dX12_tells_169 (by decide) ?_
      refine iz_iand hx hb dX12_tells_171 (by decide) (fun z_33 z_33a z_33b z_33e => ?_)
      refine lv_istore (lv' := [(7, .int (kz z_33)), (5, .int (kz z_32)), (4, .int (kz 0)), (3, .int (kz z_25)), (8, .int (kz (z_22 - 1))), (6, .int (kz (n1 + 1))), (9, .int (kz v_17)), (0, .ref o), (1, .int (kz f)), (2, .int (kz which))]) hx hb dX12_tells_172 hl (by decide) rfl (fun ls hl => ?_)
      refine lv_goto (tgt := 45) hx hb dX12_tells_174 (by decide) ?_
      have hg8 : z_32 = g9 := by unfold dg at hg9; rw [z_31e, z_32e, kz_toInt (by omega) (by omega)] at hg9; exact hg9
      have hw8 : z_33 = w9 := by unfold dw at hw9; rw [z_33e, kz_toInt (by omega) (by omega)] at hw9; exact hw9
      have eb : nb fc q9 = 0 := by unfold nb; rw [if_pos (by omega)]
      have hc9 := hR.2.2 g1 b1 t1 (by omega) (by omega) (by omega) n_10f6.1 g9 q9 hs9
      rw [eb, ← ez9, ← hg8] at hc9 hl9
      exact ihn_10 (n_10 - 1) (by omega) () z_25 0 z_32 (n1 + 1) z_33 (z_22 - 1) _ _ _ ⟨by omega, by omega, by omega, by omega, by omega, by omega, ⟨hc9, by omega, by rw [hw8]; exact hl9⟩, by omega, lv_sub hl [4, 0, 5, 1, 2, 3, 7, 8, 9] rfl, hI, hO, hS, c_3, c_4, c_5, c_10, c_11, c_12, c_13, c_17, c_27, c_29, c_30, c_32, c_33, c_44⟩
  · refine lv_goto (tgt := 177) hx hb dX12_tells_113 (by decide) ?_
    refine lv_aload_n hx hb dX12_tells_177 rfl (lv_at hl 7 rfl) ?_
    refine iz_get (D := (dC, dI)) (ci := 12) (v := .ref (am 41)) (C := RX12) (T := TX12) (N := 49) hx hb hts hin hown hK hO rfl 41 (by decide) hL99 (fun _ h9 => h9) rfl dX12_tells_178 ?_
    refine lv_aload_n hx hb dX12_tells_181 rfl (lv_at hl 7 rfl) ?_
    refine iz_get (D := (dC, dI)) (ci := 12) (v := .int (kz (zi 39))) (C := RX12) (T := TX12) (N := 49) hx hb hts hin hown hK hO rfl 39 (by decide) hL218 (fun _ h9 => h9) rfl dX12_tells_182 ?_
    refine lv_iload hx hb dX12_tells_185 (lv_at hl 0 rfl) ?_
    obtain ⟨f41_34, c_f41_34, k_f41_34⟩ := iv_o20 hI g41
    refine iz_iast hx hb hK 0 c_f41_34 hS (iv_A hI g41 (by decide)) rfl (by omega) (by decide) dX12_tells_187 (fun H locs c9 oq hS => ?_)
    have hI := iv_s20 hI g41 k_f41_34 c9 oq (by omega) (by omega) (by decide) (by omega)
    have hO := hO.kept (oq _ (iv_ne0 g41 hM.2.1 (by decide)).symm)
    have c_3 := c_3.kept (oq _ (iv_ne g3 g41 (by decide)))
    have c_4 := c_4.kept (oq _ (iv_ne g4 g41 (by decide)))
    have c_5 := c_5.kept (oq _ (iv_ne g5 g41 (by decide)))
    have c_10 := c_10.kept (oq _ (iv_ne g10 g41 (by decide)))
    have c_11 := c_11.kept (oq _ (iv_ne g11 g41 (by decide)))
    have c_12 := c_12.kept (oq _ (iv_ne g12 g41 (by decide)))
    have c_13 := c_13.kept (oq _ (iv_ne g13 g41 (by decide)))
    have c_17 := c_17.kept (oq _ (iv_ne g17 g41 (by decide)))
    have c_27 := c_27.kept (oq _ (iv_ne g27 g41 (by decide)))
    have c_29 := c_29.kept (oq _ (iv_ne g29 g41 (by decide)))
    have c_30 := c_30.kept (oq _ (iv_ne g30 g41 (by decide)))
    have c_32 := c_32.kept (oq _ (iv_ne g32 g41 (by decide)))
    have c_33 := c_33.kept (oq _ (iv_ne g33 g41 (by decide)))
    have c_44 := c_44.kept (oq _ (iv_ne g44 g41 (by decide)))
    have k_g_35 : ok20 X (am 41) 8 (0) (40) (upd f41_34 (Int.toNat (zi 39)) (kz (n1 + 1))) := ok20_set k_f41_34 (by omega) (by omega) (by decide) (by omega)
    obtain ⟨g_35, eg_35⟩ : ∃ g9 : Nat → Int32, g9 = upd f41_34 (Int.toNat (zi 39)) (kz (n1 + 1)) := ⟨_, rfl⟩
    rw [← eg_35] at c9 k_g_35
    have ug_35 : ∀ w : Int, 0 ≤ w → ge1 g_35 w = if w = zi 39 then (n1 + 1) else ge1 f41_34 w := fun w hw => by rw [eg_35]; exact ge1_upd f41_34 (by omega) hw (by omega) (by omega)
    have c_g_35 := c9
    clear oq c9
    refine lv_aload_n hx hb dX12_tells_188 rfl (lv_at hl 7 rfl) ?_
    refine lv_dup hx hb dX12_tells_189 rfl ?_
    refine iz_get (D := (dC, dI)) (ci := 12) (v := .int (kz (zi 39))) (C := RX12) (T := TX12) (N := 49) hx hb hts hin hown hK hO rfl 39 (by decide) hL218 (fun _ h9 => h9) rfl dX12_tells_190 ?_
    refine lv_iconst (v := kz 1) hx hb dX12_tells_193 rfl ?_
    refine iz_iadd hx hb dX12_tells_194 ?_
    refine iz_put (D := (dC, dI)) (ci := 12) (v := .int (kz (zi 39 + 1))) (ty := .int) (C := RX12) (T := TX12) (N := 49) hx hb hts hin tyX12 tyX12_ok nmX12 hown hK hO hS hM.2.2.1 rfl 39 (by decide) hL218 (fun _ h9 => h9) rfl (by decide +kernel) rfl rfl (Nat.le_of_ble_eq_true rfl) dX12_tells_195 (fun H locs hO oq hS => ?_)
    rw [mM_39] at hO
    have hI := iv_skip hI hM.2.1 oq
    have c_3 := c_3.kept (oq _ (iv_ne0 g3 hM.2.1 (by decide)))
    have c_4 := c_4.kept (oq _ (iv_ne0 g4 hM.2.1 (by decide)))
    have c_5 := c_5.kept (oq _ (iv_ne0 g5 hM.2.1 (by decide)))
    have c_10 := c_10.kept (oq _ (iv_ne0 g10 hM.2.1 (by decide)))
    have c_11 := c_11.kept (oq _ (iv_ne0 g11 hM.2.1 (by decide)))
    have c_12 := c_12.kept (oq _ (iv_ne0 g12 hM.2.1 (by decide)))
    have c_13 := c_13.kept (oq _ (iv_ne0 g13 hM.2.1 (by decide)))
    have c_17 := c_17.kept (oq _ (iv_ne0 g17 hM.2.1 (by decide)))
    have c_27 := c_27.kept (oq _ (iv_ne0 g27 hM.2.1 (by decide)))
    have c_29 := c_29.kept (oq _ (iv_ne0 g29 hM.2.1 (by decide)))
    have c_30 := c_30.kept (oq _ (iv_ne0 g30 hM.2.1 (by decide)))
    have c_32 := c_32.kept (oq _ (iv_ne0 g32 hM.2.1 (by decide)))
    have c_33 := c_33.kept (oq _ (iv_ne0 g33 hM.2.1 (by decide)))
    have c_44 := c_44.kept (oq _ (iv_ne0 g44 hM.2.1 (by decide)))
    have c_g_35 := c_g_35.kept (oq _ (iv_ne0 g41 hM.2.1 (by decide)))
    have hO : va_at (dC, dI) vwCl (o, .inr (12, mM am (fup zi 39 (zi 39 + 1)) zl)) H := hO
    clear oq
    have hI := iv_xr (n := Int.toNat (zi 39 + 1)) hI g41 c_g_35 k_g_35 (fun z9 h0 h1 h2 => by rw [ug_35 z9 h0]; by_cases e8 : z9 = zi 39; rw [if_pos e8]; omega; rw [if_neg e8]; exact (k_f41_34 z9 ⟨h0, by omega⟩).2.2 (by omega))
    exact W.vret hx hb hr (fun t9 ht hW => ⟨⟨(xr X (am 41) (Int.toNat (zi 39 + 1)), (fup zi 39 (zi 39 + 1))), rfl, ⟨mS_xr hM (k := 41) rfl (by decide) (Or.inr rfl), ⟨⟨z1a, z1b⟩, ⟨z2a, z2b⟩, ⟨z9a, z9b⟩, ⟨z20a, z20b⟩, ⟨z21a, z21b⟩, ⟨z22a, z22b⟩, ⟨z26a, z26b⟩, ⟨z28a, z28b⟩, ⟨z34a, z34b⟩, ⟨z35a, z35b⟩, ⟨z38a, z38b⟩, ⟨by show (0 : Int) ≤ (zi 39 + 1); omega, by show (zi 39 + 1) ≤ (8 : Int); omega⟩, ⟨z46a, z46b⟩, by show zi 2 ≤ ((xr X (am 41) (Int.toNat (zi 39 + 1))).2 (am 4) : Int); rw [xr_ne X _ (iv_ne g4 g41 (by decide))]; omega, by show (zi 39 + 1) ≤ ((xr X (am 41) (Int.toNat (zi 39 + 1))).2 (am 41) : Int); rw [xr_self]; omega⟩, ⟨ok20_xr k_4 (iv_ne g4 g41 (by decide)), ok20_xr k_5 (iv_ne g5 g41 (by decide)), ok20_xr k_11 (iv_ne g11 g41 (by decide)), ok20_xr k_12 (iv_ne g12 g41 (by decide)), ok20_xr k_13 (iv_ne g13 g41 (by decide)), ok20_xr k_29 (iv_ne g29 g41 (by decide)), ok20_xr k_32 (iv_ne g32 g41 (by decide)), ok20_xr k_33 (iv_ne g33 g41 (by decide)), ok20_xr k_44 (iv_ne g44 g41 (by decide))⟩, rfl⟩, va_K.moved hW.alike hK, by rw [ht]; exact ⟨hI, hO⟩, by rw [ht]; exact ⟨c_3, c_4, c_5, c_10, c_11, c_12, c_13, c_17, c_27, c_29, c_30, c_32, c_33, c_44⟩⟩, hS.F ht⟩) hS.2.2 dX12_tells_198
