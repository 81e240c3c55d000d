set_option maxHeartbeats 4000000 in
set_option maxRecDepth 100000 in
/-- X12_keeps -/
theorem m_keeps (l : Launch) (dC : Nat → ClassId) (dI : Nat → Nat → Nat) (ca : Nat → ClassId) (A : Nat → Prop) (X : kGh) (o : Nat) (am : Nat → Nat) (zi : Nat → Int) (zl : Nat → Int64) (fc : Nat → Nat → Int32) (hM : mS X A o am) (hz : mZ X am zi) (hk : frk X am fc) (p1 : Int) (v1 : Int) (p1i : 0 ≤ p1 ∧ p1 ≤ 6559) (v1r : -2147483648 ≤ v1 ∧ v1 ≤ 2147483647) : Met l yX12_keeps wsX12_keeps ({ frames := 0, cells := 0, slots := 0, locals := 0 }) (va_Pc [.ref o, .int (kz p1), .int (kz v1)] (fun U => va_K (dC, dI) vwCl (k_tys ca) U ∧ mI (dC, dI) ca A X o am zi zl U.heap ∧ frz (dC, dI) ca am fc U.heap)) (va_Qv (fun (u : Nat → Nat → Int32) => ∃ gb gm : Nat → Int32, u = cup (cup fc 32 gb) 33 gm ∧ ok20 X (am 32) 52480 (-2147483648) (2147483647) gb ∧ ok20 X (am 33) 6560 (0) (8) gm ∧ kp fc p1 v1 gb gm) (fun u U => va_K (dC, dI) vwCl (k_tys ca) U ∧ mI (dC, dI) ca A X o am zi zl U.heap ∧ frz (dC, dI) ca am u U.heap) A) 0 0 A := by
  refine Met.ofW (cc := cX12_keeps) (maxL := 5) (ret := none) (by decide) rfl ?_
  intro p e s m args below meth c s₁ B hml hv
  obtain ⟨rfl, hK, ⟨hI, hO⟩, c_3, c_4, c_5, c_10, c_11, c_12, c_13, c_17, c_27, c_29, c_30, c_32, c_33, c_44⟩ := hv
  have hx := B.exec
  have hb := B.bytes
  have hr := B.returns
  have hts := atoms_spec (ws := wsX12_keeps) B.pre
  have hown : s.vm.findClass RX12 = some m.cls := findClass_of_methodNamed B.named
  have hin : ∀ w ∈ u_ws RX12 TX12 49, w ∈ wsX12_keeps := by decide +kernel
  have hL93 := hts (.fieldLink RX12 93 "JoinBenchModel" "bestMany" "[I") (by decide +kernel)
  have hL90 := hts (.fieldLink RX12 90 "JoinBenchModel" "best" "[I") (by decide +kernel)
  have g33 : X.1 (am 33) = (133, 20, 6560, 0, 8) := hM.1 33 _ rfl (by decide)
  have w33 : X.2 (am 33) = 0 := hM.2.2.2 33 _ rfl (by decide) (by decide) (by decide)
  have g32 : X.1 (am 32) = (132, 20, 52480, -2147483648, 2147483647) := hM.1 32 _ rfl (by decide)
  have w32 : X.2 (am 32) = 0 := hM.2.2.2 32 _ rfl (by decide) (by decide) (by decide)
  have g3 : X.1 (am 3) = (103, 21, 320, 0, 0) := hM.1 3 _ rfl (by decide)
  have g4 : X.1 (am 4) = (104, 20, 40, 0, 8) := hM.1 4 _ rfl (by decide)
  have g5 : X.1 (am 5) = (105, 20, 40, 0, 5) := hM.1 5 _ rfl (by decide)
  have w5 : X.2 (am 5) = 0 := hM.2.2.2 5 _ rfl (by decide) (by decide) (by decide)
  have g10 : X.1 (am 10) = (110, 21, 240, 0, 0) := hM.1 10 _ rfl (by decide)
  have g11 : X.1 (am 11) = (111, 20, 24, 0, 3) := hM.1 11 _ rfl (by decide)
  have w11 : X.2 (am 11) = 0 := hM.2.2.2 11 _ rfl (by decide) (by decide) (by decide)
  have g12 : X.1 (am 12) = (112, 20, 24, 0, 3) := hM.1 12 _ rfl (by decide)
  have w12 : X.2 (am 12) = 0 := hM.2.2.2 12 _ rfl (by decide) (by decide) (by decide)
  have g13 : X.1 (am 13) = (113, 20, 24, 0, 4) := hM.1 13 _ rfl (by decide)
  have w13 : X.2 (am 13) = 0 := hM.2.2.2 13 _ rfl (by decide) (by decide) (by decide)
  have g17 : X.1 (am 17) = (117, 22, 36, 0, 0) := hM.1 17 _ rfl (by decide)
  have g27 : X.1 (am 27) = (127, 21, 40, 0, 0) := hM.1 27 _ rfl (by decide)
  have g29 : X.1 (am 29) = (129, 20, 1600, -2147483648, 2147483647) := hM.1 29 _ rfl (by decide)
  have w29 : X.2 (am 29) = 0 := hM.2.2.2 29 _ rfl (by decide) (by decide) (by decide)
  have g30 : X.1 (am 30) = (130, 22, 6560, 0, 0) := hM.1 30 _ rfl (by decide)
  have g44 : X.1 (am 44) = (144, 20, 40, 0, 8) := hM.1 44 _ rfl (by decide)
  have w44 : X.2 (am 44) = 0 := hM.2.2.2 44 _ rfl (by decide) (by decide) (by decide)
  obtain ⟨⟨z1a, z1b⟩, ⟨z2a, z2b⟩, ⟨z9a, z9b⟩, ⟨z20a, z20b⟩, ⟨z21a, z21b⟩, ⟨z22a, z22b⟩, ⟨z26a, z26b⟩, ⟨z28a, z28b⟩, ⟨z34a, z34b⟩, ⟨z35a, z35b⟩, ⟨z38a, z38b⟩, ⟨z39a, z39b⟩, ⟨z46a, z46b⟩, hzA, hzB⟩ := id hz
  obtain ⟨k_4, k_5, k_11, k_12, k_13, k_29, k_32, k_33, k_44⟩ := id hk
  obtain ⟨H, hH⟩ : ∃ H : Heap, H = s.heap := ⟨_, rfl⟩
  have hS : va_S A s.heap H [] := by rw [hH]; exact va_S.rf
  rw [← hH] at hI hO c_3 c_4 c_5 c_10 c_11 c_12 c_13 c_17 c_27 c_29 c_30 c_32 c_33 c_44 ⊢
  clear hH
  have hl := lv_entry ([.ref o, .int (kz p1), .int (kz v1)]) (n := 5) (Nat.le_of_ble_eq_true rfl)
  rw [lg_entry_eq]
  generalize (lg_sl ([.ref o, .int (kz p1), .int (kz v1)]) ++ List.replicate (5 - (lg_sl ([.ref o, .int (kz p1), .int (kz v1)])).length) Slot.unset).toArray = ls at hl ⊢
  have hl : lv_has ls 5 [(0, .ref o), (1, .int (kz p1)), (2, .int (kz v1))] := hl
  refine lv_aload_n hx hb dX12_keeps_0 rfl (lv_at hl 0 rfl) ?_
  refine iz_get (D := (dC, dI)) (ci := 12) (v := .ref (am 33)) (C := RX12) (T := TX12) (N := 49) hx hb hts hin hown hK hO rfl 33 (by decide) hL93 (fun _ h9 => h9) rfl dX12_keeps_1 ?_
  refine lv_iload_n hx hb dX12_keeps_4 rfl (lv_at hl 1 rfl) ?_
  refine iz_iald hx hb hK 0 c_33 rfl (by omega) (by decide) dX12_keeps_5 ?_
  obtain ⟨v_1a, v_1b, v_1c⟩ := k_33 p1 (by omega)
  clear v_1c
  obtain ⟨v_1, ev_1⟩ : ∃ z9 : Int, ge1 (fc 33) p1 = z9 := ⟨_, rfl⟩
  rw [ev_1] at v_1a v_1b ⊢
  refine lv_istore_n (lv' := [(3, .int (kz v_1)), (0, .ref o), (1, .int (kz p1)), (2, .int (kz v1))]) hx hb dX12_keeps_6 rfl hl (by decide) rfl (fun ls hl => ?_)
  refine lv_iload_n hx hb dX12_keeps_7 rfl (lv_at hl 0 rfl) ?_
  refine lv_bipush (v := kz 8) hx hb dX12_keeps_8 (by decide) ?_
  refine iz_ne (tgt := 32) hx hb dX12_keeps_10 (by decide) (by unfold rg2; omega) (fun br_2 => ?_) (fun br_2 => ?_)
  · refine lv_iload_n hx hb dX12_keeps_32 rfl (lv_at hl 0 rfl) ?_
    refine lv_bipush (v := kz 8) hx hb dX12_keeps_33 (by decide) ?_
    refine iz_ne (tgt := 43) hx hb dX12_keeps_35 (by decide) (by unfold rg2; omega) (fun br_3 => ?_) (fun br_3 => ?_)
    · refine lv_iload_n hx hb dX12_keeps_43 rfl (lv_at hl 0 rfl) ?_
      refine lv_istore (lv' := [(4, .int (kz v_1)), (3, .int (kz v_1)), (0, .ref o), (1, .int (kz p1)), (2, .int (kz v1))]) hx hb dX12_keeps_44 hl (by decide) rfl (fun ls hl => ?_)
      refine iz_loopA1 (α := (Nat → Int32)) (P := fun N9 gb k H locs ls => (0 ≤ k) ∧ (k ≤ 7) ∧ (k ≤ v_1) ∧ (∀ z9 : Int, 0 ≤ z9 → z9 < 8 * p1 ∨ 8 * p1 + 8 ≤ z9 → ge1 gb z9 = ge1 (fc 32) z9) ∧ (∀ j9 : Int, 0 ≤ j9 → j9 < k → ge1 gb (8 * p1 + j9) = ge1 (fc 32) (8 * p1 + j9)) ∧ (∀ j9 : Int, k < j9 → j9 ≤ v_1 → ge1 gb (8 * p1 + j9) = ge1 (fc 32) (8 * p1 + (j9 - 1))) ∧ k ≤ (N9 : Int) ∧ lv_has ls 5 [(4, .int (kz k)), (3, .int (kz v_1)), (0, .ref o), (1, .int (kz p1)), (2, .int (kz v1))] ∧ iv (dC, dI) ca A X H ∧ va_at (dC, dI) vwCl (o, .inr (12, mM am zi zl)) H ∧ va_S A s.heap H locs ∧ va_at (dC, dI) vwCl (am 3, .inl (ca 21, 320, .inl (fc 3))) H ∧ va_at (dC, dI) vwCl (am 4, .inl (ca 20, 40, .inl (fc 4))) H ∧ va_at (dC, dI) vwCl (am 5, .inl (ca 20, 40, .inl (fc 5))) H ∧ va_at (dC, dI) vwCl (am 10, .inl (ca 21, 240, .inl (fc 10))) H ∧ va_at (dC, dI) vwCl (am 11, .inl (ca 20, 24, .inl (fc 11))) H ∧ va_at (dC, dI) vwCl (am 12, .inl (ca 20, 24, .inl (fc 12))) H ∧ va_at (dC, dI) vwCl (am 13, .inl (ca 20, 24, .inl (fc 13))) H ∧ va_at (dC, dI) vwCl (am 17, .inl (ca 22, 36, .inl (fc 17))) H ∧ va_at (dC, dI) vwCl (am 27, .inl (ca 21, 40, .inl (fc 27))) H ∧ va_at (dC, dI) vwCl (am 29, .inl (ca 20, 1600, .inl (fc 29))) H ∧ va_at (dC, dI) vwCl (am 30, .inl (ca 22, 6560, .inl (fc 30))) H ∧ va_at (dC, dI) vwCl (am 32, .inl (ca 20, 52480, .inl gb)) H ∧ va_at (dC, dI) vwCl (am 33, .inl (ca 20, 6560, .inl (fc 33))) H ∧ va_at (dC, dI) vwCl (am 44, .inl (ca 20, 40, .inl (fc 44))) H ∧ ok20 X (am 32) 52480 (-2147483648) (2147483647) gb) 100000 (fc 32) (x0 := v_1) ?_ ⟨by omega, by omega, by omega, fun _ _ _ => rfl, fun _ _ _ => rfl, fun j9 h0 h1 => absurd h0 (by omega), by omega, lv_sub hl [0, 1, 2, 3, 4] rfl, hI, hO, hS, c_3, c_4, c_5, c_10, c_11, c_12, c_13, c_17, c_27, c_29, c_30, c_32, c_33, c_44, k_32⟩
      intro n_4 gb k H locs ls ⟨n_4f0, n_4f1, n_4f2, n_4f3, n_4f4, n_4f5, n_4f6, hl, hI, hO, hS, c_3, c_4, c_5, c_10, c_11, c_12, c_13, c_17, c_27, c_29, c_30, c_32, c_33, c_44, k_gb⟩ ihn_4
      refine lv_iload hx hb dX12_keeps_46 (lv_at hl 0 rfl) ?_
      refine iz_lez (tgt := 101) hx hb dX12_keeps_48 (by decide) (by unfold rg2; omega) (fun br_5 => ?_) (fun br_5 => ?_)
      · refine lv_aload_n hx hb dX12_keeps_101 rfl (lv_at hl 2 rfl) ?_
        refine iz_get (D := (dC, dI)) (ci := 12) (v := .ref (am 32)) (C := RX12) (T := TX12) (N := 49) hx hb hts hin hown hK hO rfl 32 (by decide) hL90 (fun _ h9 => h9) rfl dX12_keeps_102 ?_
        refine lv_bipush (v := kz 8) hx hb dX12_keeps_105 (by decide) ?_
        refine lv_iload_n hx hb dX12_keeps_107 rfl (lv_at hl 3 rfl) ?_
        refine iz_imul hx hb dX12_keeps_108 ?_
        refine lv_iload hx hb dX12_keeps_109 (lv_at hl 0 rfl) ?_
        refine iz_iadd hx hb dX12_keeps_111 ?_
        refine lv_iload_n hx hb dX12_keeps_112 rfl (lv_at hl 4 rfl) ?_
        refine iz_iast hx hb hK 0 c_32 hS (iv_A hI g32 (by decide)) rfl (by omega) (by decide) dX12_keeps_113 (fun H locs c9 oq hS => ?_)
        have hI := iv_s20 hI g32 k_gb c9 oq (by omega) (by omega) (by decide) (by omega)
        have hO := hO.kept (oq _ (iv_ne0 g32 hM.2.1 (by decide)).symm)
        have c_3 := c_3.kept (oq _ (iv_ne g3 g32 (by decide)))
        have c_4 := c_4.kept (oq _ (iv_ne g4 g32 (by decide)))
        have c_5 := c_5.kept (oq _ (iv_ne g5 g32 (by decide)))
        have c_10 := c_10.kept (oq _ (iv_ne g10 g32 (by decide)))
        have c_11 := c_11.kept (oq _ (iv_ne g11 g32 (by decide)))
        have c_12 := c_12.kept (oq _ (iv_ne g12 g32 (by decide)))
        have c_13 := c_13.kept (oq _ (iv_ne g13 g32 (by decide)))
        have c_17 := c_17.kept (oq _ (iv_ne g17 g32 (by decide)))
        have c_27 := c_27.kept (oq _ (iv_ne g27 g32 (by decide)))
        have c_29 := c_29.kept (oq _ (iv_ne g29 g32 (by decide)))
        have c_30 := c_30.kept (oq _ (iv_ne g30 g32 (by decide)))
        have c_33 := c_33.kept (oq _ (iv_ne g33 g32 (by decide)))
        have c_44 := c_44.kept (oq _ (iv_ne g44 g32 (by decide)))
        have k_g_6 : ok20 X (am 32) 52480 (-2147483648) (2147483647) (upd gb (Int.toNat ((8 * p1) + k)) (kz v1)) := ok20_set k_gb (by omega) (by omega) (by decide) (by omega)
        obtain ⟨g_6, eg_6⟩ : ∃ g9 : Nat → Int32, g9 = upd gb (Int.toNat ((8 * p1) + k)) (kz v1) := ⟨_, rfl⟩
        rw [← eg_6] at c9 k_g_6
        clear oq
        have c_32 := c9
        clear c9
        have ug_6 : ∀ w : Int, 0 ≤ w → ge1 g_6 w = if w = ((8 * p1) + k) then v1 else ge1 gb w := fun w hw => by rw [eg_6]; exact ge1_upd gb (by omega) hw (by omega) (by omega)
        refine lv_aload_n hx hb dX12_keeps_114 rfl (lv_at hl 2 rfl) ?_
        refine iz_get (D := (dC, dI)) (ci := 12) (v := .ref (am 33)) (C := RX12) (T := TX12) (N := 49) hx hb hts hin hown hK hO rfl 33 (by decide) hL93 (fun _ h9 => h9) rfl dX12_keeps_115 ?_
        refine lv_iload_n hx hb dX12_keeps_118 rfl (lv_at hl 3 rfl) ?_
        refine lv_iload_n hx hb dX12_keeps_119 rfl (lv_at hl 1 rfl) ?_
        refine lv_bipush (v := kz 8) hx hb dX12_keeps_120 (by decide) ?_
        refine iz_ge (tgt := 131) hx hb dX12_keeps_122 (by decide) (by unfold rg2; omega) (fun br_7 => ?_) (fun br_7 => ?_)
        · refine lv_bipush (v := kz 8) hx hb dX12_keeps_131 (by decide) ?_
          refine iz_iast hx hb hK 0 c_33 hS (iv_A hI g33 (by decide)) rfl (by omega) (by decide) dX12_keeps_133 (fun H locs c9 oq hS => ?_)
          have hI := iv_s20 hI g33 k_33 c9 oq (by omega) (by omega) (by decide) (by omega)
          have hO := hO.kept (oq _ (iv_ne0 g33 hM.2.1 (by decide)).symm)
          have c_3 := c_3.kept (oq _ (iv_ne g3 g33 (by decide)))
          have c_4 := c_4.kept (oq _ (iv_ne g4 g33 (by decide)))
          have c_5 := c_5.kept (oq _ (iv_ne g5 g33 (by decide)))
          have c_10 := c_10.kept (oq _ (iv_ne g10 g33 (by decide)))
          have c_11 := c_11.kept (oq _ (iv_ne g11 g33 (by decide)))
          have c_12 := c_12.kept (oq _ (iv_ne g12 g33 (by decide)))
          have c_13 := c_13.kept (oq _ (iv_ne g13 g33 (by decide)))
          have c_17 := c_17.kept (oq _ (iv_ne g17 g33 (by decide)))
          have c_27 := c_27.kept (oq _ (iv_ne g27 g33 (by decide)))
          have c_29 := c_29.kept (oq _ (iv_ne g29 g33 (by decide)))
          have c_30 := c_30.kept (oq _ (iv_ne g30 g33 (by decide)))
          have c_32 := c_32.kept (oq _ (iv_ne g32 g33 (by decide)))
          have c_44 := c_44.kept (oq _ (iv_ne g44 g33 (by decide)))
          have k_g_8 : ok20 X (am 33) 6560 (0) (8) (upd (fc 33) (Int.toNat p1) (kz 8)) := ok20_set k_33 (by omega) (by omega) (by decide) (by omega)
          obtain ⟨g_8, eg_8⟩ : ∃ g9 : Nat → Int32, g9 = upd (fc 33) (Int.toNat p1) (kz 8) := ⟨_, rfl⟩
          rw [← eg_8] at c9 k_g_8
          clear oq
          have c_33 := c9
          clear c9
          have ug_8 : ∀ w : Int, 0 ≤ w → ge1 g_8 w = if w = p1 then 8 else ge1 (fc 33) w := fun w hw => by rw [eg_8]; exact ge1_upd (fc 33) (by omega) hw (by omega) (by omega)
          exact W.vret hx hb hr (fun t9 ht hW => ⟨⟨(cup (cup fc 32 g_6) 33 g_8), rfl, ⟨g_6, g_8, rfl, k_g_6, k_g_8, fun z9 h0 h1 => by rw [ug_6 z9 h0, if_neg (by omega)]; exact n_4f3 z9 h0 h1, fun z9 h0 h1 => by rw [ug_8 z9 h0, if_neg h1], fun j9 h0 h1 => by rw [ug_8 p1 (by omega), if_pos rfl] at h1; exact kp_in (ug_6 (8 * p1 + j9) (by omega)) (by omega) (fun q9 => n_4f4 j9 h0 q9) (fun q9 => n_4f5 j9 q9 (by omega)) (by omega) (by omega)⟩, va_K.moved hW.alike hK, by rw [ht]; exact ⟨hI, hO⟩, by rw [ht]; exact ⟨c_3, c_4, c_5, c_10, c_11, c_12, c_13, c_17, c_27, c_29, c_30, c_32, c_33, c_44⟩⟩, hS.F ht⟩) hS.2.2 dX12_keeps_134
        · refine lv_iload_n hx hb dX12_keeps_125 rfl (lv_at hl 1 rfl) ?_
          refine lv_iconst (v := kz 1) hx hb dX12_keeps_126 rfl ?_
          refine iz_iadd hx hb dX12_keeps_127 ?_
          refine lv_goto (tgt := 133) hx hb dX12_keeps_128 (by decide) ?_
          refine iz_iast hx hb hK 0 c_33 hS (iv_A hI g33 (by decide)) rfl (by omega) (by decide) dX12_keeps_133 (fun H locs c9 oq hS => ?_)
          have hI := iv_s20 hI g33 k_33 c9 oq (by omega) (by omega) (by decide) (by omega)
          have hO := hO.kept (oq _ (iv_ne0 g33 hM.2.1 (by decide)).symm)
          have c_3 := c_3.kept (oq _ (iv_ne g3 g33 (by decide)))
          have c_4 := c_4.kept (oq _ (iv_ne g4 g33 (by decide)))
          have c_5 := c_5.kept (oq _ (iv_ne g5 g33 (by decide)))
          have c_10 := c_10.kept (oq _ (iv_ne g10 g33 (by decide)))
          have c_11 := c_11.kept (oq _ (iv_ne g11 g33 (by decide)))
          have c_12 := c_12.kept (oq _ (iv_ne g12 g33 (by decide)))
          have c_13 := c_13.kept (oq _ (iv_ne g13 g33 (by decide)))
          have c_17 := c_17.kept (oq _ (iv_ne g17 g33 (by decide)))
          have c_27 := c_27.kept (oq _ (iv_ne g27 g33 (by decide)))
          have c_29 := c_29.kept (oq _ (iv_ne g29 g33 (by decide)))
          have c_30 := c_30.kept (oq _ (iv_ne g30 g33 (by decide)))
          have c_32 := c_32.kept (oq _ (iv_ne g32 g33 (by decide)))
          have c_44 := c_44.kept (oq _ (iv_ne g44 g33 (by decide)))
          have k_g_9 : ok20 X (am 33) 6560 (0) (8) (upd (fc 33) (Int.toNat p1) (kz (v_1 + 1))) := ok20_set k_33 (by omega) (by omega) (by decide) (by omega)
          obtain ⟨g_9, eg_9⟩ : ∃ g9 : Nat → Int32, g9 = upd (fc 33) (Int.toNat p1) (kz (v_1 + 1)) := ⟨_, rfl⟩
          rw [← eg_9] at c9 k_g_9
          clear oq
          have c_33 := c9
          clear c9
          have ug_9 : ∀ w : Int, 0 ≤ w → ge1 g_9 w = if w = p1 then (v_1 + 1) else ge1 (fc 33) w := fun w hw => by rw [eg_9]; exact ge1_upd (fc 33) (by omega) hw (by omega) (by omega)
          exact W.vret hx hb hr (fun t9 ht hW => ⟨⟨(cup (cup fc 32 g_6) 33 g_9), rfl, ⟨g_6, g_9, rfl, k_g_6, k_g_9, fun z9 h0 h1 => by rw [ug_6 z9 h0, if_neg (by omega)]; exact n_4f3 z9 h0 h1, fun z9 h0 h1 => by rw [ug_9 z9 h0, if_neg h1], fun j9 h0 h1 => by rw [ug_9 p1 (by omega), if_pos rfl] at h1; exact kp_in (ug_6 (8 * p1 + j9) (by omega)) (by omega) (fun q9 => n_4f4 j9 h0 q9) (fun q9 => n_4f5 j9 q9 (by omega)) (by omega) (by omega)⟩, va_K.moved hW.alike hK, by rw [ht]; exact ⟨hI, hO⟩, by rw [ht]; exact ⟨c_3, c_4, c_5, c_10, c_11, c_12, c_13, c_17, c_27, c_29, c_30, c_32, c_33, c_44⟩⟩, hS.F ht⟩) hS.2.2 dX12_keeps_134
      · refine lv_aload_n hx hb dX12_keeps_51 rfl (lv_at hl 2 rfl) ?_
        refine iz_get (D := (dC, dI)) (ci := 12) (v := .ref (am 32)) (C := RX12) (T := TX12) (N := 49) hx hb hts hin hown hK hO rfl 32 (by decide) hL90 (fun _ h9 => h9) rfl dX12_keeps_52 ?_
        refine lv_bipush (v := kz 8) hx hb dX12_keeps_55 (by decide) ?_
        refine lv_iload_n hx hb dX12_keeps_57 rfl (lv_at hl 3 rfl) ?_
        refine iz_imul hx hb dX12_keeps_58 ?_
        refine lv_iload hx hb dX12_keeps_59 (lv_at hl 0 rfl) ?_
        refine iz_iadd hx hb dX12_keeps_61 ?_
        refine lv_iconst (v := kz 1) hx hb dX12_keeps_62 rfl ?_
        refine iz_isub hx hb dX12_keeps_63 ?_
        refine iz_iald hx hb hK 0 c_32 rfl (by omega) (by decide) dX12_keeps_64 ?_
        obtain ⟨v_10a, v_10b, v_10c⟩ := k_gb (((8 * p1) + k) - 1) (by omega)
        clear v_10c
        obtain ⟨v_10, ev_10⟩ : ∃ z9 : Int, ge1 gb (((8 * p1) + k) - 1) = z9 := ⟨_, rfl⟩
        rw [ev_10] at v_10a v_10b ⊢
        refine lv_iload_n hx hb dX12_keeps_65 rfl (lv_at hl 4 rfl) ?_
        refine iz_le (tgt := 101) hx hb dX12_keeps_66 (by decide) (by unfold rg2; omega) (fun br_11 => ?_) (fun br_11 => ?_)
        · refine lv_aload_n hx hb dX12_keeps_101 rfl (lv_at hl 2 rfl) ?_
          refine iz_get (D := (dC, dI)) (ci := 12) (v := .ref (am 32)) (C := RX12) (T := TX12) (N := 49) hx hb hts hin hown hK hO rfl 32 (by decide) hL90 (fun _ h9 => h9) rfl dX12_keeps_102 ?_
          refine lv_bipush (v := kz 8) hx hb dX12_keeps_105 (by decide) ?_
          refine lv_iload_n hx hb dX12_keeps_107 rfl (lv_at hl 3 rfl) ?_
          refine iz_imul hx hb dX12_keeps_108 ?_
          refine lv_iload hx hb dX12_keeps_109 (lv_at hl 0 rfl) ?_
          refine iz_iadd hx hb dX12_keeps_111 ?_
          refine lv_iload_n hx hb dX12_keeps_112 rfl (lv_at hl 4 rfl) ?_
          refine iz_iast hx hb hK 0 c_32 hS (iv_A hI g32 (by decide)) rfl (by omega) (by decide) dX12_keeps_113 (fun H locs c9 oq hS => ?_)
          have hI := iv_s20 hI g32 k_gb c9 oq (by omega) (by omega) (by decide) (by omega)
          have hO := hO.kept (oq _ (iv_ne0 g32 hM.2.1 (by decide)).symm)
          have c_3 := c_3.kept (oq _ (iv_ne g3 g32 (by decide)))
          have c_4 := c_4.kept (oq _ (iv_ne g4 g32 (by decide)))
          have c_5 := c_5.kept (oq _ (iv_ne g5 g32 (by decide)))
          have c_10 := c_10.kept (oq _ (iv_ne g10 g32 (by decide)))
          have c_11 := c_11.kept (oq _ (iv_ne g11 g32 (by decide)))
          have c_12 := c_12.kept (oq _ (iv_ne g12 g32 (by decide)))
          have c_13 := c_13.kept (oq _ (iv_ne g13 g32 (by decide)))
          have c_17 := c_17.kept (oq _ (iv_ne g17 g32 (by decide)))
          have c_27 := c_27.kept (oq _ (iv_ne g27 g32 (by decide)))
          have c_29 := c_29.kept (oq _ (iv_ne g29 g32 (by decide)))
          have c_30 := c_30.kept (oq _ (iv_ne g30 g32 (by decide)))
          have c_33 := c_33.kept (oq _ (iv_ne g33 g32 (by decide)))
          have c_44 := c_44.kept (oq _ (iv_ne g44 g32 (by decide)))
          have k_g_12 : ok20 X (am 32) 52480 (-2147483648) (2147483647) (upd gb (Int.toNat ((8 * p1) + k)) (kz v1)) := ok20_set k_gb (by omega) (by omega) (by decide) (by omega)
          obtain ⟨g_12, eg_12⟩ : ∃ g9 : Nat → Int32, g9 = upd gb (Int.toNat ((8 * p1) + k)) (kz v1) := ⟨_, rfl⟩
          rw [← eg_12] at c9 k_g_12
          clear oq
          have c_32 := c9
          clear c9
          have ug_12 : ∀ w : Int, 0 ≤ w → ge1 g_12 w = if w = ((8 * p1) + k) then v1 else ge1 gb w := fun w hw => by rw [eg_12]; exact ge1_upd gb (by omega) hw (by omega) (by omega)
          refine lv_aload_n hx hb dX12_keeps_114 rfl (lv_at hl 2 rfl) ?_
          refine iz_get (D := (dC, dI)) (ci := 12) (v := .ref (am 33)) (C := RX12) (T := TX12) (N := 49) hx hb hts hin hown hK hO rfl 33 (by decide) hL93 (fun _ h9 => h9) rfl dX12_keeps_115 ?_
          refine lv_iload_n hx hb dX12_keeps_118 rfl (lv_at hl 3 rfl) ?_
          refine lv_iload_n hx hb dX12_keeps_119 rfl (lv_at hl 1 rfl) ?_
          refine lv_bipush (v := kz 8) hx hb dX12_keeps_120 (by decide) ?_
          refine iz_ge (tgt := 131) hx hb dX12_keeps_122 (by decide) (by unfold rg2; omega) (fun br_13 => ?_) (fun br_13 => ?_)
          · refine lv_bipush (v := kz 8) hx hb dX12_keeps_131 (by decide) ?_
            refine iz_iast hx hb hK 0 c_33 hS (iv_A hI g33 (by decide)) rfl (by omega) (by decide) dX12_keeps_133 (fun H locs c9 oq hS => ?_)
            have hI := iv_s20 hI g33 k_33 c9 oq (by omega) (by omega) (by decide) (by omega)
            have hO := hO.kept (oq _ (iv_ne0 g33 hM.2.1 (by decide)).symm)
            have c_3 := c_3.kept (oq _ (iv_ne g3 g33 (by decide)))
            have c_4 := c_4.kept (oq _ (iv_ne g4 g33 (by decide)))
            have c_5 := c_5.kept (oq _ (iv_ne g5 g33 (by decide)))
            have c_10 := c_10.kept (oq _ (iv_ne g10 g33 (by decide)))
            have c_11 := c_11.kept (oq _ (iv_ne g11 g33 (by decide)))
            have c_12 := c_12.kept (oq _ (iv_ne g12 g33 (by decide)))
            have c_13 := c_13.kept (oq _ (iv_ne g13 g33 (by decide)))
            have c_17 := c_17.kept (oq _ (iv_ne g17 g33 (by decide)))
            have c_27 := c_27.kept (oq _ (iv_ne g27 g33 (by decide)))
            have c_29 := c_29.kept (oq _ (iv_ne g29 g33 (by decide)))
            have c_30 := c_30.kept (oq _ (iv_ne g30 g33 (by decide)))
            have c_32 := c_32.kept (oq _ (iv_ne g32 g33 (by decide)))
            have c_44 := c_44.kept (oq _ (iv_ne g44 g33 (by decide)))
            have k_g_14 : ok20 X (am 33) 6560 (0) (8) (upd (fc 33) (Int.toNat p1) (kz 8)) := ok20_set k_33 (by omega) (by omega) (by decide) (by omega)
            obtain ⟨g_14, eg_14⟩ : ∃ g9 : Nat → Int32, g9 = upd (fc 33) (Int.toNat p1) (kz 8) := ⟨_, rfl⟩
            rw [← eg_14] at c9 k_g_14
            clear oq
            have c_33 := c9
            clear c9
            have ug_14 : ∀ w : Int, 0 ≤ w → ge1 g_14 w = if w = p1 then 8 else ge1 (fc 33) w := fun w hw => by rw [eg_14]; exact ge1_upd (fc 33) (by omega) hw (by omega) (by omega)
            exact W.vret hx hb hr (fun t9 ht hW => ⟨⟨(cup (cup fc 32 g_12) 33 g_14), rfl, ⟨g_12, g_14, rfl, k_g_12, k_g_14, fun z9 h0 h1 => by rw [ug_12 z9 h0, if_neg (by omega)]; exact n_4f3 z9 h0 h1, fun z9 h0 h1 => by rw [ug_14 z9 h0, if_neg h1], fun j9 h0 h1 => by rw [ug_14 p1 (by omega), if_pos rfl] at h1; exact kp_in (ug_12 (8 * p1 + j9) (by omega)) (by omega) (fun q9 => n_4f4 j9 h0 q9) (fun q9 => n_4f5 j9 q9 (by omega)) (by omega) (by omega)⟩, va_K.moved hW.alike hK, by rw [ht]; exact ⟨hI, hO⟩, by rw [ht]; exact ⟨c_3, c_4, c_5, c_10, c_11, c_12, c_13, c_17, c_27, c_29, c_30, c_32, c_33, c_44⟩⟩, hS.F ht⟩) hS.2.2 dX12_keeps_134
          · refine lv_iload_n hx hb dX12_keeps_125 rfl (lv_at hl 1 rfl) ?_
            refine lv_iconst (v := kz 1) hx hb dX12_keeps_126 rfl ?_
            refine iz_iadd hx hb dX12_keeps_127 ?_
            refine lv_goto (tgt := 133) hx hb dX12_keeps_128 (by decide) ?_
            refine iz_iast hx hb hK 0 c_33 hS (iv_A hI g33 (by decide)) rfl (by omega) (by decide) dX12_keeps_133 (fun H locs c9 oq hS => ?_)
            have hI := iv_s20 hI g33 k_33 c9 oq (by omega) (by omega) (by decide) (by omega)
            have hO := hO.kept (oq _ (iv_ne0 g33 hM.2.1 (by decide)).symm)
            have c_3 := c_3.kept (oq _ (iv_ne g3 g33 (by decide)))
            have c_4 := c_4.kept (oq _ (iv_ne g4 g33 (by decide)))
            have c_5 := c_5.kept (oq _ (iv_ne g5 g33 (by decide)))
            have c_10 := c_10.kept (oq _ (iv_ne g10 g33 (by decide)))
            have c_11 := c_11.kept (oq _ (iv_ne g11 g33 (by decide)))
            have c_12 := c_12.kept (oq _ (iv_ne g12 g33 (by decide)))
            have c_13 := c_13.kept (oq _ (iv_ne g13 g33 (by decide)))
            have c_17 := c_17.kept (oq _ (iv_ne g17 g33 (by decide)))
            have c_27 := c_27.kept (oq _ (iv_ne g27 g33 (by decide)))
            have c_29 := c_29.kept (oq _ (iv_ne g29 g33 (by decide)))
            have c_30 := c_30.kept (oq _ (iv_ne g30 g33 (by decide)))
            have c_32 := c_32.kept (oq _ (iv_ne g32 g33 (by decide)))
            have c_44 := c_44.kept (oq _ (iv_ne g44 g33 (by decide)))
            have k_g_15 : ok20 X (am 33) 6560 (0) (8) (upd (fc 33) (Int.toNat p1) (kz (v_1 + 1))) := ok20_set k_33 (by omega) (by omega) (by decide) (by omega)
            obtain ⟨g_15, eg_15⟩ : ∃ g9 : Nat → Int32, g9 = upd (fc 33) (Int.toNat p1) (kz (v_1 + 1)) := ⟨_, rfl⟩
            rw [← eg_15] at c9 k_g_15
            clear oq
            have c_33 := c9
            clear c9
            have ug_15 : ∀ w : Int, 0 ≤ w → ge1 g_15 w = if w = p1 then (v_1 + 1) else ge1 (fc 33) w := fun w hw => by rw [eg_15]; exact ge1_upd (fc 33) (by omega) hw (by omega) (by omega)
            exact W.vret hx hb hr (fun t9 ht hW => ⟨⟨(cup (cup fc 32 g_12) 33 g_15), rfl, ⟨g_12, g_15, rfl, k_g_12, k_g_15, fun z9 h0 h1 => by rw [ug_12 z9 h0, if_neg (by omega)]; exact n_4f3 z9 h0 h1, fun z9 h0 h1 => by rw [ug_15 z9 h0, if_neg h1], fun j9 h0 h1 => by rw [ug_15 p1 (by omega), if_pos rfl] at h1; exact kp_in (ug_12 (8 * p1 + j9) (by omega)) (by omega) (fun q9 => n_4f4 j9 h0 q9) (fun q9 => n_4f5 j9 q9 (by omega)) (by omega) (by omega)⟩, va_K.moved hW.alike hK, by rw [ht]; exact ⟨hI, hO⟩, by rw [ht]; exact ⟨c_3, c_4, c_5, c_10, c_11, c_12, c_13, c_17, c_27, c_29, c_30, c_32, c_33, c_44⟩⟩, hS.F ht⟩) hS.2.2 dX12_keeps_134
        · refine lv_aload_n hx hb dX12_keeps_69 rfl (lv_at hl 2 rfl) ?_
          refine iz_get (D := (dC, dI)) (ci := 12) (v := .ref (am 32)) (C := RX12) (T := TX12) (N := 49) hx hb hts hin hown hK hO rfl 32 (by decide) hL90 (fun _ h9 => h9) rfl dX12_keeps_70 ?_
          refine lv_bipush (v := kz 8) hx hb dX12_keeps_73 (by decide) ?_
          refine lv_iload_n hx hb dX12_keeps_75 rfl (lv_at hl 3 rfl) ?_
          refine iz_imul hx hb dX12_keeps_76 ?_
          refine lv_iload hx hb dX12_keeps_77 (lv_at hl 0 rfl) ?_
          refine iz_iadd hx hb dX12_keeps_79 ?_
          refine lv_aload_n hx hb dX12_keeps_80 rfl (lv_at hl 2 rfl) ?_
          refine iz_get (D := (dC, dI)) (ci := 12) (v := .ref (am 32)) (C := RX12) (T := TX12) (N := 49) hx hb hts hin hown hK hO rfl 32 (by decide) hL90 (fun _ h9 => h9) rfl dX12_keeps_81 ?_
          refine lv_bipush (v := kz 8) hx hb dX12_keeps_84 (by decide) ?_
          refine lv_iload_n hx hb dX12_keeps_86 rfl (lv_at hl 3 rfl) ?_
          refine iz_imul hx hb dX12_keeps_87 ?_
          refine lv_iload hx hb dX12_keeps_88 (lv_at hl 0 rfl) ?_
          refine iz_iadd hx hb dX12_keeps_90 ?_
          refine lv_iconst (v := kz 1) hx hb dX12_keeps_91 rfl ?_
          refine iz_isub hx hb dX12_keeps_92 ?_
          refine iz_iald hx hb hK 0 c_32 rfl (by omega) (by decide) dX12_keeps_93 ?_
          rw [ev_10]
          refine iz_iast hx hb hK 0 c_32 hS (iv_A hI g32 (by decide)) rfl (by omega) (by decide) dX12_keeps_94 (fun H locs c9 oq hS => ?_)
          have hI := iv_s20 hI g32 k_gb c9 oq (by omega) (by omega) (by decide) (by omega)
          have hO := hO.kept (oq _ (iv_ne0 g32 hM.2.1 (by decide)).symm)
          have c_3 := c_3.kept (oq _ (iv_ne g3 g32 (by decide)))
          have c_4 := c_4.kept (oq _ (iv_ne g4 g32 (by decide)))
          have c_5 := c_5.kept (oq _ (iv_ne g5 g32 (by decide)))
          have c_10 := c_10.kept (oq _ (iv_ne g10 g32 (by decide)))
          have c_11 := c_11.kept (oq _ (iv_ne g11 g32 (by decide)))
          have c_12 := c_12.kept (oq _ (iv_ne g12 g32 (by decide)))
          have c_13 := c_13.kept (oq _ (iv_ne g13 g32 (by decide)))
          have c_17 := c_17.kept (oq _ (iv_ne g17 g32 (by decide)))
          have c_27 := c_27.kept (oq _ (iv_ne g27 g32 (by decide)))
          have c_29 := c_29.kept (oq _ (iv_ne g29 g32 (by decide)))
          have c_30 := c_30.kept (oq _ (iv_ne g30 g32 (by decide)))
          have c_33 := c_33.kept (oq _ (iv_ne g33 g32 (by decide)))
          have c_44 := c_44.kept (oq _ (iv_ne g44 g32 (by decide)))
          have k_g_16 : ok20 X (am 32) 52480 (-2147483648) (2147483647) (upd gb (Int.toNat ((8 * p1) + k)) (kz v_10)) := ok20_set k_gb (by omega) (by omega) (by decide) (by omega)
          obtain ⟨g_16, eg_16⟩ : ∃ g9 : Nat → Int32, g9 = upd gb (Int.toNat ((8 * p1) + k)) (kz v_10) := ⟨_, rfl⟩
          rw [← eg_16] at c9 k_g_16
          clear oq
          have c_32 := c9
          clear c9
          have ug_16 : ∀ w : Int, 0 ≤ w → ge1 g_16 w = if w = ((8 * p1) + k) then v_10 else ge1 gb w := fun w hw => by rw [eg_16]; exact ge1_upd gb (by omega) hw (by omega) (by omega)
          refine lv_iinc (v := kz (k + (-1))) (lv' := [(4, .int (kz (k + (-1)))), (3, .int (kz v_1)), (0, .ref o), (1, .int (kz p1)), (2, .int (kz v1))]) hx hb dX12_keeps_95 hl (k := 0) rfl (kz_add k (-1)) (by decide) rfl (fun ls hl => ?_)
          refine lv_goto (tgt := 46) hx hb dX12_keeps_98 (by decide) ?_
          exact ihn_4 (n_4 - 1) (by omega) g_16 (k + (-1)) _ _ _ ⟨by omega, by omega, by omega, (fun z9 h0 h1 => by rw [ug_16 z9 h0, if_neg (by omega)]; exact n_4f3 z9 h0 h1), (fun j9 h0 h1 => by rw [ug_16 _ (by omega), if_neg (by omega)]; exact n_4f4 j9 h0 (by omega)), (fun j9 h0 h1 => by by_cases e9 : j9 = k; rw [e9, ug_16 _ (by omega), if_pos rfl]; have q9 := n_4f4 (k - 1) (by omega) (by omega); rw [show (8 * p1 + (k - 1) : Int) = 8 * p1 + k - 1 by omega] at q9 ⊢; omega; rw [ug_16 _ (by omega), if_neg (by omega)]; exact n_4f5 j9 (by omega) h1), by omega, lv_sub hl [0, 1, 2, 3, 4] rfl, hI, hO, hS, c_3, c_4, c_5, c_10, c_11, c_12, c_13, c_17, c_27, c_29, c_30, c_32, c_33, c_44, k_g_16⟩
    · refine lv_bipush (v := kz 7) hx hb dX12_keeps_38 (by decide) ?_
      refine lv_goto (tgt := 44) hx hb dX12_keeps_40 (by decide) ?_
      refine lv_istore (lv' := [(4, .int (kz 7)), (3, .int (kz v_1)), (0, .ref o), (1, .int (kz p1)), (2, .int (kz v1))]) hx hb dX12_keeps_44 hl (by decide) rfl (fun ls hl => ?_)
      refine iz_loopA1 (α := (Nat → Int32)) (P := fun N9 gb k H locs ls => (0 ≤ k) ∧ (k ≤ 7) ∧ (k ≤ 7) ∧ (∀ z9 : Int, 0 ≤ z9 → z9 < 8 * p1 ∨ 8 * p1 + 8 ≤ z9 → ge1 gb z9 = ge1 (fc 32) z9) ∧ (∀ j9 : Int, 0 ≤ j9 → j9 < k → ge1 gb (8 * p1 + j9) = ge1 (fc 32) (8 * p1 + j9)) ∧ (∀ j9 : Int, k < j9 → j9 ≤ 7 → ge1 gb (8 * p1 + j9) = ge1 (fc 32) (8 * p1 + (j9 - 1))) ∧ k ≤ (N9 : Int) ∧ lv_has ls 5 [(4, .int (kz k)), (3, .int (kz v_1)), (0, .ref o), (1, .int (kz p1)), (2, .int (kz v1))] ∧ iv (dC, dI) ca A X H ∧ va_at (dC, dI) vwCl (o, .inr (12, mM am zi zl)) H ∧ va_S A s.heap H locs ∧ va_at (dC, dI) vwCl (am 3, .inl (ca 21, 320, .inl (fc 3))) H ∧ va_at (dC, dI) vwCl (am 4, .inl (ca 20, 40, .inl (fc 4))) H ∧ va_at (dC, dI) vwCl (am 5, .inl (ca 20, 40, .inl (fc 5))) H ∧ va_at (dC, dI) vwCl (am 10, .inl (ca 21, 240, .inl (fc 10))) H ∧ va_at (dC, dI) vwCl (am 11, .inl (ca 20, 24, .inl (fc 11))) H ∧ va_at (dC, dI) vwCl (am 12, .inl (ca 20, 24, .inl (fc 12))) H ∧ va_at (dC, dI) vwCl (am 13, .inl (ca 20, 24, .inl (fc 13))) H ∧ va_at (dC, dI) vwCl (am 17, .inl (ca 22, 36, .inl (fc 17))) H ∧ va_at (dC, dI) vwCl (am 27, .inl (ca 21, 40, .inl (fc 27))) H ∧ va_at (dC, dI) vwCl (am 29, .inl (ca 20, 1600, .inl (fc 29))) H ∧ va_at (dC, dI) vwCl (am 30, .inl (ca 22, 6560, .inl (fc 30))) H ∧ va_at (dC, dI) vwCl (am 32, .inl (ca 20, 52480, .inl gb)) H ∧ va_at (dC, dI) vwCl (am 33, .inl (ca 20, 6560, .inl (fc 33))) H ∧ va_at (dC, dI) vwCl (am 44, .inl (ca 20, 40, .inl (fc 44))) H ∧ ok20 X (am 32) 52480 (-2147483648) (2147483647) gb) 100000 (fc 32) (x0 := 7) ?_ ⟨by omega, by omega, by omega, fun _ _ _ => rfl, fun _ _ _ => rfl, fun j9 h0 h1 => absurd h0 (by omega), by omega, lv_sub hl [0, 1, 2, 3, 4] rfl, hI, hO, hS, c_3, c_4, c_5, c_10, c_11, c_12, c_13, c_17, c_27, c_29, c_30, c_32, c_33, c_44, k_32⟩
      intro n_17 gb k H locs ls ⟨n_17f0, n_17f1, n_17f2, n_17f3, n_17f4, n_17f5, n_17f6, hl, hI, hO, hS, c_3, c_4, c_5, c_10, c_11, c_12, c_13, c_17, c_27, c_29, c_30, c_32, c_33, c_44, k_gb⟩ ihn_17
      refine lv_iload hx hb dX12_keeps_46 (lv_at hl 0 rfl) ?_
      refine iz_lez (tgt := 101) hx hb dX12_keeps_48 (by decide) (by unfold rg2; omega) (fun br_18 => ?_) (fun br_18 => ?_)
      · refine lv_aload_n hx hb dX12_keeps_101 rfl (lv_at hl 2 rfl) ?_
        refine iz_get (D := (dC, dI)) (ci := 12) (v := .ref (am 32)) (C := RX12) (T := TX12) (N := 49) hx hb hts hin hown hK hO rfl 32 (by decide) hL90 (fun _ h9 => h9) rfl dX12_keeps_102 ?_
        refine lv_bipush (v := kz 8) hx hb dX12_keeps_105 (by decide) ?_
        refine lv_iload_n hx hb dX12_keeps_107 rfl (lv_at hl 3 rfl) ?_
        refine iz_imul hx hb dX12_keeps_108 ?_
        refine lv_iload hx hb dX12_keeps_109 (lv_at hl 0 rfl) ?_
        refine iz_iadd hx hb dX12_keeps_111 ?_
        refine lv_iload_n hx hb dX12_keeps_112 rfl (lv_at hl 4 rfl) ?_
        refine iz_iast hx hb hK 0 c_32 hS (iv_A hI g32 (by decide)) rfl (by omega) (by decide) dX12_keeps_113 (fun H locs c9 oq hS => ?_)
        have hI := iv_s20 hI g32 k_gb c9 oq (by omega) (by omega) (by decide) (by omega)
        have hO := hO.kept (oq _ (iv_ne0 g32 hM.2.1 (by decide)).symm)
        have c_3 := c_3.kept (oq _ (iv_ne g3 g32 (by decide)))
        have c_4 := c_4.kept (oq _ (iv_ne g4 g32 (by decide)))
        have c_5 := c_5.kept (oq _ (iv_ne g5 g32 (by decide)))
        have c_10 := c_10.kept (oq _ (iv_ne g10 g32 (by decide)))
        have c_11 := c_11.kept (oq _ (iv_ne g11 g32 (by decide)))
        have c_12 := c_12.kept (oq _ (iv_ne g12 g32 (by decide)))
        have c_13 := c_13.kept (oq _ (iv_ne g13 g32 (by decide)))
        have c_17 := c_17.kept (oq _ (iv_ne g17 g32 (by decide)))
        have c_27 := c_27.kept (oq _ (iv_ne g27 g32 (by decide)))
        have c_29 := c_29.kept (oq _ (iv_ne g29 g32 (by decide)))
        have c_30 := c_30.kept (oq _ (iv_ne g30 g32 (by decide)))
        have c_33 := c_33.kept (oq _ (iv_ne g33 g32 (by decide)))
        have c_44 := c_44.kept (oq _ (iv_ne g44 g32 (by decide)))
        have k_g_19 : ok20 X (am 32) 52480 (-2147483648) (2147483647) (upd gb (Int.toNat ((8 * p1) + k)) (kz v1)) := ok20_set k_gb (by omega) (by omega) (by decide) (by omega)
        obtain ⟨g_19, eg_19⟩ : ∃ g9 : Nat → Int32, g9 = upd gb (Int.toNat ((8 * p1) + k)) (kz v1) := ⟨_, rfl⟩
        rw [← eg_19] at c9 k_g_19
        clear oq
        have c_32 := c9
        clear c9
        have ug_19 : ∀ w : Int, 0 ≤ w → ge1 g_19 w = if w = ((8 * p1) + k) then v1 else ge1 gb w := fun w hw => by rw [eg_19]; exact ge1_upd gb (by omega) hw (by omega) (by omega)
        refine lv_aload_n hx hb dX12_keeps_114 rfl (lv_at hl 2 rfl) ?_
        refine iz_get (D := (dC, dI)) (ci := 12) (v := .ref (am 33)) (C := RX12) (T := TX12) (N := 49) hx hb hts hin hown hK hO rfl 33 (by decide) hL93 (fun _ h9 => h9) rfl dX12_keeps_115 ?_
        refine lv_iload_n hx hb dX12_keeps_118 rfl (lv_at hl 3 rfl) ?_
        refine lv_iload_n hx hb dX12_keeps_119 rfl (lv_at hl 1 rfl) ?_
        refine lv_bipush (v := kz 8) hx hb dX12_keeps_120 (by decide) ?_
        refine iz_ge (tgt := 131) hx hb dX12_keeps_122 (by decide) (by unfold rg2; omega) (fun br_20 => ?_) (fun br_20 => ?_)
        · refine lv_bipush (v := kz 8) hx hb dX12_keeps_131 (by decide) ?_
          refine iz_iast hx hb hK 0 c_33 hS (iv_A hI g33 (by decide)) rfl (by omega) (by decide) dX12_keeps_133 (fun H locs c9 oq hS => ?_)
          have hI := iv_s20 hI g33 k_33 c9 oq (by omega) (by omega) (by decide) (by omega)
          have hO := hO.kept (oq _ (iv_ne0 g33 hM.2.1 (by decide)).symm)
          have c_3 := c_3.kept (oq _ (iv_ne g3 g33 (by decide)))
          have c_4 := c_4.kept (oq _ (iv_ne g4 g33 (by decide)))
          have c_5 := c_5.kept (oq _ (iv_ne g5 g33 (by decide)))
          have c_10 := c_10.kept (oq _ (iv_ne g10 g33 (by decide)))
          have c_11 := c_11.kept (oq _ (iv_ne g11 g33 (by decide)))
          have c_12 := c_12.kept (oq _ (iv_ne g12 g33 (by decide)))
          have c_13 := c_13.kept (oq _ (iv_ne g13 g33 (by decide)))
          have c_17 := c_17.kept (oq _ (iv_ne g17 g33 (by decide)))
          have c_27 := c_27.kept (oq _ (iv_ne g27 g33 (by decide)))
          have c_29 := c_29.kept (oq _ (iv_ne g29 g33 (by decide)))
          have c_30 := c_30.kept (oq _ (iv_ne g30 g33 (by decide)))
          have c_32 := c_32.kept (oq _ (iv_ne g32 g33 (by decide)))
          have c_44 := c_44.kept (oq _ (iv_ne g44 g33 (by decide)))
          have k_g_21 : ok20 X (am 33) 6560 (0) (8) (upd (fc 33) (Int.toNat p1) (kz 8)) := ok20_set k_33 (by omega) (by omega) (by decide) (by omega)
          obtain ⟨g_21, eg_21⟩ : ∃ g9 : Nat → Int32, g9 = upd (fc 33) (Int.toNat p1) (kz 8) := ⟨_, rfl⟩
          rw [← eg_21] at c9 k_g_21
          clear oq
          have c_33 := c9
          clear c9
          have ug_21 : ∀ w : Int, 0 ≤ w → ge1 g_21 w = if w = p1 then 8 else ge1 (fc 33) w := fun w hw => by rw [eg_21]; exact ge1_upd (fc 33) (by omega) hw (by omega) (by omega)
          exact W.vret hx hb hr (fun t9 ht hW => ⟨⟨(cup (cup fc 32 g_19) 33 g_21), rfl, ⟨g_19, g_21, rfl, k_g_19, k_g_21, fun z9 h0 h1 => by rw [ug_19 z9 h0, if_neg (by omega)]; exact n_17f3 z9 h0 h1, fun z9 h0 h1 => by rw [ug_21 z9 h0, if_neg h1], fun j9 h0 h1 => by rw [ug_21 p1 (by omega), if_pos rfl] at h1; exact kp_in (ug_19 (8 * p1 + j9) (by omega)) (by omega) (fun q9 => n_17f4 j9 h0 q9) (fun q9 => n_17f5 j9 q9 (by omega)) (by omega) (by omega)⟩, va_K.moved hW.alike hK, by rw [ht]; exact ⟨hI, hO⟩, by rw [ht]; exact ⟨c_3, c_4, c_5, c_10, c_11, c_12, c_13, c_17, c_27, c_29, c_30, c_32, c_33, c_44⟩⟩, hS.F ht⟩) hS.2.2 dX12_keeps_134
        · refine lv_iload_n hx hb dX12_keeps_125 rfl (lv_at hl 1 rfl) ?_
          refine lv_iconst (v := kz 1) hx hb dX12_keeps_126 rfl ?_
          refine iz_iadd hx hb dX12_keeps_127 ?_
          refine lv_goto (tgt := 133) hx hb dX12_keeps_128 (by decide) ?_
          refine iz_iast hx hb hK 0 c_33 hS (iv_A hI g33 (by decide)) rfl (by omega) (by decide) dX12_keeps_133 (fun H locs c9 oq hS => ?_)
          have hI := iv_s20 hI g33 k_33 c9 oq (by omega) (by omega) (by decide) (by omega)
          have hO := hO.kept (oq _ (iv_ne0 g33 hM.2.1 (by decide)).symm)
          have c_3 := c_3.kept (oq _ (iv_ne g3 g33 (by decide)))
          have c_4 := c_4.kept (oq _ (iv_ne g4 g33 (by decide)))
          have c_5 := c_5.kept (oq _ (iv_ne g5 g33 (by decide)))
          have c_10 := c_10.kept (oq _ (iv_ne g10 g33 (by decide)))
          have c_11 := c_11.kept (oq _ (iv_ne g11 g33 (by decide)))
          have c_12 := c_12.kept (oq _ (iv_ne g12 g33 (by decide)))
          have c_13 := c_13.kept (oq _ (iv_ne g13 g33 (by decide)))
          have c_17 := c_17.kept (oq _ (iv_ne g17 g33 (by decide)))
          have c_27 := c_27.kept (oq _ (iv_ne g27 g33 (by decide)))
          have c_29 := c_29.kept (oq _ (iv_ne g29 g33 (by decide)))
          have c_30 := c_30.kept (oq _ (iv_ne g30 g33 (by decide)))
          have c_32 := c_32.kept (oq _ (iv_ne g32 g33 (by decide)))
          have c_44 := c_44.kept (oq _ (iv_ne g44 g33 (by decide)))
          have k_g_22 : ok20 X (am 33) 6560 (0) (8) (upd (fc 33) (Int.toNat p1) (kz (v_1 + 1))) := ok20_set k_33 (by omega) (by omega) (by decide) (by omega)
          obtain ⟨g_22, eg_22⟩ : ∃ g9 : Nat → Int32, g9 = upd (fc 33) (Int.toNat p1) (kz (v_1 + 1)) := ⟨_, rfl⟩
          rw [← eg_22] at c9 k_g_22
          clear oq
          have c_33 := c9
          clear c9
          have ug_22 : ∀ w : Int, 0 ≤ w → ge1 g_22 w = if w = p1 then (v_1 + 1) else ge1 (fc 33) w := fun w hw => by rw [eg_22]; exact ge1_upd (fc 33) (by omega) hw (by omega) (by omega)
          exact W.vret hx hb hr (fun t9 ht hW => ⟨⟨(cup (cup fc 32 g_19) 33 g_22), rfl, ⟨g_19, g_22, rfl, k_g_19, k_g_22, fun z9 h0 h1 => by rw [ug_19 z9 h0, if_neg (by omega)]; exact n_17f3 z9 h0 h1, fun z9 h0 h1 => by rw [ug_22 z9 h0, if_neg h1], fun j9 h0 h1 => by rw [ug_22 p1 (by omega), if_pos rfl] at h1; exact kp_in (ug_19 (8 * p1 + j9) (by omega)) (by omega) (fun q9 => n_17f4 j9 h0 q9) (fun q9 => n_17f5 j9 q9 (by omega)) (by omega) (by omega)⟩, va_K.moved hW.alike hK, by rw [ht]; exact ⟨hI, hO⟩, by rw [ht]; exact ⟨c_3, c_4, c_5, c_10, c_11, c_12, c_13, c_17, c_27, c_29, c_30, c_32, c_33, c_44⟩⟩, hS.F ht⟩) hS.2.2 dX12_keeps_134
      · refine lv_aload_n hx hb dX12_keeps_51 rfl (lv_at hl 2 rfl) ?_
        refine iz_get (D := (dC, dI)) (ci := 12) (v := .ref (am 32)) (C := RX12) (T := TX12) (N := 49) hx hb hts hin hown hK hO rfl 32 (by decide) hL90 (fun _ h9 => h9) rfl dX12_keeps_52 ?_
        refine lv_bipush (v := kz 8) hx hb dX12_keeps_55 (by decide) ?_
        refine lv_iload_n hx hb dX12_keeps_57 rfl (lv_at hl 3 rfl) ?_
        refine iz_imul hx hb dX12_keeps_58 ?_
        refine lv_iload hx hb dX12_keeps_59 (lv_at hl 0 rfl) ?_
        refine iz_iadd hx hb dX12_keeps_61 ?_
        refine lv_iconst (v := kz 1) hx hb dX12_keeps_62 rfl ?_
        refine iz_isub hx hb dX12_keeps_63 ?_
        refine iz_iald hx hb hK 0 c_32 rfl (by omega) (by decide) dX12_keeps_64 ?_
        obtain ⟨v_23a, v_23b, v_23c⟩ := k_gb (((8 * p1) + k) - 1) (by omega)
        clear v_23c
        obtain ⟨v_23, ev_23⟩ : ∃ z9 : Int, ge1 gb (((8 * p1) + k) - 1) = z9 := ⟨_, rfl⟩
        rw [ev_23] at v_23a v_23b ⊢
        refine lv_iload_n hx hb dX12_keeps_65 rfl (lv_at hl 4 rfl) ?_
        refine iz_le (tgt := 101) hx hb dX12_keeps_66 (by decide) (by unfold rg2; omega) (fun br_24 => ?_) (fun br_24 => ?_)
        · refine lv_aload_n hx hb dX12_keeps_101 rfl (lv_at hl 2 rfl) ?_
          refine iz_get (D := (dC, dI)) (ci := 12) (v := .ref (am 32)) (C := RX12) (T := TX12) (N := 49) hx hb hts hin hown hK hO rfl 32 (by decide) hL90 (fun _ h9 => h9) rfl dX12_keeps_102 ?_
          refine lv_bipush (v := kz 8) hx hb dX12_keeps_105 (by decide) ?_
          refine lv_iload_n hx hb dX12_keeps_107 rfl (lv_at hl 3 rfl) ?_
          refine iz_imul hx hb dX12_keeps_108 ?_
          refine lv_iload hx hb dX12_keeps_109 (lv_at hl 0 rfl) ?_
          refine iz_iadd hx hb dX12_keeps_111 ?_
          refine lv_iload_n hx hb dX12_keeps_112 rfl (lv_at hl 4 rfl) ?_
          refine iz_iast hx hb hK 0 c_32 hS (iv_A hI g32 (by decide)) rfl (by omega) (by decide) dX12_keeps_113 (fun H locs c9 oq hS => ?_)
          have hI := iv_s20 hI g32 k_gb c9 oq (by omega) (by omega) (by decide) (by omega)
          have hO := hO.kept (oq _ (iv_ne0 g32 hM.2.1 (by decide)).symm)
          have c_3 := c_3.kept (oq _ (iv_ne g3 g32 (by decide)))
          have c_4 := c_4.kept (oq _ (iv_ne g4 g32 (by decide)))
          have c_5 := c_5.kept (oq _ (iv_ne g5 g32 (by decide)))
          have c_10 := c_10.kept (oq _ (iv_ne g10 g32 (by decide)))
          have c_11 := c_11.kept (oq _ (iv_ne g11 g32 (by decide)))
          have c_12 := c_12.kept (oq _ (iv_ne g12 g32 (by decide)))
          have c_13 := c_13.kept (oq _ (iv_ne g13 g32 (by decide)))
          have c_17 := c_17.kept (oq _ (iv_ne g17 g32 (by decide)))
          have c_27 := c_27.kept (oq _ (iv_ne g27 g32 (by decide)))
          have c_29 := c_29.kept (oq _ (iv_ne g29 g32 (by decide)))
          have c_30 := c_30.kept (oq _ (iv_ne g30 g32 (by decide)))
          have c_33 := c_33.kept (oq _ (iv_ne g33 g32 (by decide)))
          have c_44 := c_44.kept (oq _ (iv_ne g44 g32 (by decide)))
          have k_g_25 : ok20 X (am 32) 52480 (-2147483648) (2147483647) (upd gb (Int.toNat ((8 * p1) + k)) (kz v1)) := ok20_set k_gb (by omega) (by omega) (by decide) (by omega)
          obtain ⟨g_25, eg_25⟩ : ∃ g9 : Nat → Int32, g9 = upd gb (Int.toNat ((8 * p1) + k)) (kz v1) := ⟨_, rfl⟩
          rw [← eg_25] at c9 k_g_25
          clear oq
          have c_32 := c9
          clear c9
          have ug_25 : ∀ w : Int, 0 ≤ w → ge1 g_25 w = if w = ((8 * p1) + k) then v1 else ge1 gb w := fun w hw => by rw [eg_25]; exact ge1_upd gb (by omega) hw (by omega) (by omega)
          refine lv_aload_n hx hb dX12_keeps_114 rfl (lv_at hl 2 rfl) ?_
          refine iz_get (D := (dC, dI)) (ci := 12) (v := .ref (am 33)) (C := RX12) (T := TX12) (N := 49) hx hb hts hin hown hK hO rfl 33 (by decide) hL93 (fun _ h9 => h9) rfl dX12_keeps_115 ?_
          refine lv_iload_n hx hb dX12_keeps_118 rfl (lv_at hl 3 rfl) ?_
          refine lv_iload_n hx hb dX12_keeps_119 rfl (lv_at hl 1 rfl) ?_
          refine lv_bipush (v := kz 8) hx hb dX12_keeps_120 (by decide) ?_
          refine iz_ge (tgt := 131) hx hb dX12_keeps_122 (by decide) (by unfold rg2; omega) (fun br_26 => ?_) (fun br_26 => ?_)
          · refine lv_bipush (v := kz 8) hx hb dX12_keeps_131 (by decide) ?_
            refine iz_iast hx hb hK 0 c_33 hS (iv_A hI g33 (by decide)) rfl (by omega) (by decide) dX12_keeps_133 (fun H locs c9 oq hS => ?_)
            have hI := iv_s20 hI g33 k_33 c9 oq (by omega) (by omega) (by decide) (by omega)
            have hO := hO.kept (oq _ (iv_ne0 g33 hM.2.1 (by decide)).symm)
            have c_3 := c_3.kept (oq _ (iv_ne g3 g33 (by decide)))
            have c_4 := c_4.kept (oq _ (iv_ne g4 g33 (by decide)))
            have c_5 := c_5.kept (oq _ (iv_ne g5 g33 (by decide)))
            have c_10 := c_10.kept (oq _ (iv_ne g10 g33 (by decide)))
            have c_11 := c_11.kept (oq _ (iv_ne g11 g33 (by decide)))
            have c_12 := c_12.kept (oq _ (iv_ne g12 g33 (by decide)))
            have c_13 := c_13.kept (oq _ (iv_ne g13 g33 (by decide)))
            have c_17 := c_17.kept (oq _ (iv_ne g17 g33 (by decide)))
            have c_27 := c_27.kept (oq _ (iv_ne g27 g33 (by decide)))
            have c_29 := c_29.kept (oq _ (iv_ne g29 g33 (by decide)))
            have c_30 := c_30.kept (oq _ (iv_ne g30 g33 (by decide)))
            have c_32 := c_32.kept (oq _ (iv_ne g32 g33 (by decide)))
            have c_44 := c_44.kept (oq _ (iv_ne g44 g33 (by decide)))
            have k_g_27 : ok20 X (am 33) 6560 (0) (8) (upd (fc 33) (Int.toNat p1) (kz 8)) := ok20_set k_33 (by omega) (by omega) (by decide) (by omega)
            obtain ⟨g_27, eg_27⟩ : ∃ g9 : Nat → Int32, g9 = upd (fc 33) (Int.toNat p1) (kz 8) := ⟨_, rfl⟩
            rw [← eg_27] at c9 k_g_27
            clear oq
            have c_33 := c9
            clear c9
            have ug_27 : ∀ w : Int, 0 ≤ w → ge1 g_27 w = if w = p1 then 8 else ge1 (fc 33) w := fun w hw => by rw [eg_27]; exact ge1_upd (fc 33) (by omega) hw (by omega) (by omega)
            exact W.vret hx hb hr (fun t9 ht hW => ⟨⟨(cup (cup fc 32 g_25) 33 g_27), rfl, ⟨g_25, g_27, rfl, k_g_25, k_g_27, fun z9 h0 h1 => by rw [ug_25 z9 h0, if_neg (by omega)]; exact n_17f3 z9 h0 h1, fun z9 h0 h1 => by rw [ug_27 z9 h0, if_neg h1], fun j9 h0 h1 => by rw [ug_27 p1 (by omega), if_pos rfl] at h1; exact kp_in (ug_25 (8 * p1 + j9) (by omega)) (by omega) (fun q9 => n_17f4 j9 h0 q9) (fun q9 => n_17f5 j9 q9 (by omega)) (by omega) (by omega)⟩, va_K.moved hW.alike hK, by rw [ht]; exact ⟨hI, hO⟩, by rw [ht]; exact ⟨c_3, c_4, c_5, c_10, c_11, c_12, c_13, c_17, c_27, c_29, c_30, c_32, c_33, c_44⟩⟩, hS.F ht⟩) hS.2.2 dX12_keeps_134
          · refine lv_iload_n hx hb dX12_keeps_125 rfl (lv_at hl 1 rfl) ?_
            refine lv_iconst (v := kz 1) hx hb dX12_keeps_126 rfl ?_
            refine iz_iadd hx hb dX12_keeps_127 ?_
            refine lv_goto (tgt := 133) hx hb dX12_keeps_128 (by decide) ?_
            refine iz_iast hx hb hK 0 c_33 hS (iv_A hI g33 (by decide)) rfl (by omega) (by decide) dX12_keeps_133 (fun H locs c9 oq hS => ?_)
            have hI := iv_s20 hI g33 k_33 c9 oq (by omega) (by omega) (by decide) (by omega)
            have hO := hO.kept (oq _ (iv_ne0 g33 hM.2.1 (by decide)).symm)
            have c_3 := c_3.kept (oq _ (iv_ne g3 g33 (by decide)))
            have c_4 := c_4.kept (oq _ (iv_ne g4 g33 (by decide)))
            have c_5 := c_5.kept (oq _ (iv_ne g5 g33 (by decide)))
            have c_10 := c_10.kept (oq _ (iv_ne g10 g33 (by decide)))
            have c_11 := c_11.kept (oq _ (iv_ne g11 g33 (by decide)))
            have c_12 := c_12.kept (oq _ (iv_ne g12 g33 (by decide)))
            have c_13 := c_13.kept (oq _ (iv_ne g13 g33 (by decide)))
            have c_17 := c_17.kept (oq _ (iv_ne g17 g33 (by decide)))
            have c_27 := c_27.kept (oq _ (iv_ne g27 g33 (by decide)))
            have c_29 := c_29.kept (oq _ (iv_ne g29 g33 (by decide)))
            have c_30 := c_30.kept (oq _ (iv_ne g30 g33 (by decide)))
            have c_32 := c_32.kept (oq _ (iv_ne g32 g33 (by decide)))
            have c_44 := c_44.kept (oq _ (iv_ne g44 g33 (by decide)))
            have k_g_28 : ok20 X (am 33) 6560 (0) (8) (upd (fc 33) (Int.toNat p1) (kz (v_1 + 1))) := ok20_set k_33 (by omega) (by omega) (by decide) (by omega)
            obtain ⟨g_28, eg_28⟩ : ∃ g9 : Nat → Int32, g9 = upd (fc 33) (Int.toNat p1) (kz (v_1 + 1)) := ⟨_, rfl⟩
            rw [← eg_28] at c9 k_g_28
            clear oq
            have c_33 := c9
            clear c9
            have ug_28 : ∀ w : Int, 0 ≤ w → ge1 g_28 w = if w = p1 then (v_1 + 1) else ge1 (fc 33) w := fun w hw => by rw [eg_28]; exact ge1_upd (fc 33) (by omega) hw (by omega) (by omega)
            exact W.vret hx hb hr (fun t9 ht hW => ⟨⟨(cup (cup fc 32 g_25) 33 g_28), rfl, ⟨g_25, g_28, rfl, k_g_25, k_g_28, fun z9 h0 h1 => by rw [ug_25 z9 h0, if_neg (by omega)]; exact n_17f3 z9 h0 h1, fun z9 h0 h1 => by rw [ug_28 z9 h0, if_neg h1], fun j9 h0 h1 => by rw [ug_28 p1 (by omega), if_pos rfl] at h1; exact kp_in (ug_25 (8 * p1 + j9) (by omega)) (by omega) (fun q9 => n_17f4 j9 h0 q9) (fun q9 => n_17f5 j9 q9 (by omega)) (by omega) (by omega)⟩, va_K.moved hW.alike hK, by rw [ht]; exact ⟨hI, hO⟩, by rw [ht]; exact ⟨c_3, c_4, c_5, c_10, c_11, c_12, c_13, c_17, c_27, c_29, c_30, c_32, c_33, c_44⟩⟩, hS.F ht⟩) hS.2.2 dX12_keeps_134
        · refine lv_aload_n hx hb dX12_keeps_69 rfl (lv_at hl 2 rfl) ?_
          refine iz_get (D := (dC, dI)) (ci := 12) (v := .ref (am 32)) (C := RX12) (T := TX12) (N := 49) hx hb hts hin hown hK hO rfl 32 (by decide) hL90 (fun _ h9 => h9) rfl dX12_keeps_70 ?_
          refine lv_bipush (v := kz 8) hx hb dX12_keeps_73 (by decide) ?_
          refine lv_iload_n hx hb dX12_keeps_75 rfl (lv_at hl 3 rfl) ?_
          refine iz_imul hx hb dX12_keeps_76 ?_
          refine lv_iload hx hb dX12_keeps_77 (lv_at hl 0 rfl) ?_
          refine iz_iadd hx hb dX12_keeps_79 ?_
          refine lv_aload_n hx hb dX12_keeps_80 rfl (lv_at hl 2 rfl) ?_
          refine iz_get (D := (dC, dI)) (ci := 12) (v := .ref (am 32)) (C := RX12) (T := TX12) (N := 49) hx hb hts hin hown hK hO rfl 32 (by decide) hL90 (fun _ h9 => h9) rfl dX12_keeps_81 ?_
          refine lv_bipush (v := kz 8) hx hb dX12_keeps_84 (by decide) ?_
          refine lv_iload_n hx hb dX12_keeps_86 rfl (lv_at hl 3 rfl) ?_
          refine iz_imul hx hb dX12_keeps_87 ?_
          refine lv_iload hx hb dX12_keeps_88 (lv_at hl 0 rfl) ?_
          refine iz_iadd hx hb dX12_keeps_90 ?_
          refine lv_iconst (v := kz 1) hx hb dX12_keeps_91 rfl ?_
          refine iz_isub hx hb dX12_keeps_92 ?_
          refine iz_iald hx hb hK 0 c_32 rfl (by omega) (by decide) dX12_keeps_93 ?_
          rw [ev_23]
          refine iz_iast hx hb hK 0 c_32 hS (iv_A hI g32 (by decide)) rfl (by omega) (by decide) dX12_keeps_94 (fun H locs c9 oq hS => ?_)
          have hI := iv_s20 hI g32 k_gb c9 oq (by omega) (by omega) (by decide) (by omega)
          have hO := hO.kept (oq _ (iv_ne0 g32 hM.2.1 (by decide)).symm)
          have c_3 := c_3.kept (oq _ (iv_ne g3 g32 (by decide)))
          have c_4 := c_4.kept (oq _ (iv_ne g4 g32 (by decide)))
          have c_5 := c_5.kept (oq _ (iv_ne g5 g32 (by decide)))
          have c_10 := c_10.kept (oq _ (iv_ne g10 g32 (by decide)))
          have c_11 := c_11.kept (oq _ (iv_ne g11 g32 (by decide)))
          have c_12 := c_12.kept (oq _ (iv_ne g12 g32 (by decide)))
          have c_13 := c_13.kept (oq _ (iv_ne g13 g32 (by decide)))
          have c_17 := c_17.kept (oq _ (iv_ne g17 g32 (by decide)))
          have c_27 := c_27.kept (oq _ (iv_ne g27 g32 (by decide)))
          have c_29 := c_29.kept (oq _ (iv_ne g29 g32 (by decide)))
          have c_30 := c_30.kept (oq _ (iv_ne g30 g32 (by decide)))
          have c_33 := c_33.kept (oq _ (iv_ne g33 g32 (by decide)))
          have c_44 := c_44.kept (oq _ (iv_ne g44 g32 (by decide)))
          have k_g_29 : ok20 X (am 32) 52480 (-2147483648) (2147483647) (upd gb (Int.toNat ((8 * p1) + k)) (kz v_23)) := ok20_set k_gb (by omega) (by omega) (by decide) (by omega)
          obtain ⟨g_29, eg_29⟩ : ∃ g9 : Nat → Int32, g9 = upd gb (Int.toNat ((8 * p1) + k)) (kz v_23) := ⟨_, rfl⟩
          rw [← eg_29] at c9 k_g_29
          clear oq
          have c_32 := c9
          clear c9
          have ug_29 : ∀ w : Int, 0 ≤ w → ge1 g_29 w = if w = ((8 * p1) + k) then v_23 else ge1 gb w := fun w hw => by rw [eg_29]; exact ge1_upd gb (by omega) hw (by omega) (by omega)
          refine lv_iinc (v := kz (k + (-1))) (lv' := [(4, .int (kz (k + (-1)))), (3, .int (kz v_1)), (0, .ref o), (1, .int (kz p1)), (2, .int (kz v1))]) hx hb dX12_keeps_95 hl (k := 0) rfl (kz_add k (-1)) (by decide) rfl (fun ls hl => ?_)
          refine lv_goto (tgt := 46) hx hb dX12_keeps_98 (by decide) ?_
          exact ihn_17 (n_17 - 1) (by omega) g_29 (k + (-1)) _ _ _ ⟨by omega, by omega, by omega, (fun z9 h0 h1 => by rw [ug_29 z9 h0, if_neg (by omega)]; exact n_17f3 z9 h0 h1), (fun j9 h0 h1 => by rw [ug_29 _ (by omega), if_neg (by omega)]; exact n_17f4 j9 h0 (by omega)), (fun j9 h0 h1 => by by_cases e9 : j9 = k; rw [e9, ug_29 _ (by omega), if_pos rfl]; have q9 := n_17f4 (k - 1) (by omega) (by omega); rw [show (8 * p1 + (k - 1) : Int) = 8 * p1 + k - 1 by omega] at q9 ⊢; omega; rw [ug_29 _ (by omega), if_neg (by omega)]; exact n_17f5 j9 (by omega) h1), by omega, lv_sub hl [0, 1, 2, 3, 4] rfl, hI, hO, hS, c_3, c_4, c_5, c_10, c_11, c_12, c_13, c_17, c_27, c_29, c_30, c_32, c_33, c_44, k_g_29⟩
  · refine lv_aload_n hx hb dX12_keeps_13 rfl (lv_at hl 1 rfl) ?_
    refine iz_get (D := (dC, dI)) (ci := 12) (v := .ref (am 32)) (C := RX12) (T := TX12) (N := 49) hx hb hts hin hown hK hO rfl 32 (by decide) hL90 (fun _ h9 => h9) rfl dX12_keeps_14 ?_
    refine lv_bipush (v := kz 8) hx hb dX12_keeps_17 (by decide) ?_
    refine lv_iload_n hx hb dX12_keeps_19 rfl (lv_at hl 2 rfl) ?_
    refine iz_imul hx hb dX12_keeps_20 ?_
    refine lv_bipush (v := kz 8) hx hb dX12_keeps_21 (by decide) ?_
    refine iz_iadd hx hb dX12_keeps_23 ?_
    refine lv_iconst (v := kz 1) hx hb dX12_keeps_24 rfl ?_
    refine iz_isub hx hb dX12_keeps_25 ?_
    refine iz_iald hx hb hK 0 c_32 rfl (by omega) (by decide) dX12_keeps_26 ?_
    obtain ⟨v_30a, v_30b, v_30c⟩ := k_32 (((8 * p1) + 8) - 1) (by omega)
    clear v_30c
    obtain ⟨v_30, ev_30⟩ : ∃ z9 : Int, ge1 (fc 32) (((8 * p1) + 8) - 1) = z9 := ⟨_, rfl⟩
    rw [ev_30] at v_30a v_30b ⊢
    refine lv_iload_n hx hb dX12_keeps_27 rfl (lv_at hl 3 rfl) ?_
    refine iz_ge (tgt := 32) hx hb dX12_keeps_28 (by decide) (by unfold rg2; omega) (fun br_31 => ?_) (fun br_31 => ?_)
    · refine lv_iload_n hx hb dX12_keeps_32 rfl (lv_at hl 0 rfl) ?_
      refine lv_bipush (v := kz 8) hx hb dX12_keeps_33 (by decide) ?_
      refine iz_ne (tgt := 43) hx hb dX12_keeps_35 (by decide) (by unfold rg2; omega) (fun br_32 => ?_) (fun br_32 => ?_)
      · refine lv_iload_n hx hb dX12_keeps_43 rfl (lv_at hl 0 rfl) ?_
        refine lv_istore (lv' := [(4, .int (kz v_1)), (3, .int (kz v_1)), (0, .ref o), (1, .int (kz p1)), (2, .int (kz v1))]) hx hb dX12_keeps_44 hl (by decide) rfl (fun ls hl => ?_)
        refine iz_loopA1 (α := (Nat → Int32)) (P := fun N9 gb k H locs ls => (0 ≤ k) ∧ (k ≤ 7) ∧ (k ≤ v_1) ∧ (∀ z9 : Int, 0 ≤ z9 → z9 < 8 * p1 ∨ 8 * p1 + 8 ≤ z9 → ge1 gb z9 = ge1 (fc 32) z9) ∧ (∀ j9 : Int, 0 ≤ j9 → j9 < k → ge1 gb (8 * p1 + j9) = ge1 (fc 32) (8 * p1 + j9)) ∧ (∀ j9 : Int, k < j9 → j9 ≤ v_1 → ge1 gb (8 * p1 + j9) = ge1 (fc 32) (8 * p1 + (j9 - 1))) ∧ k ≤ (N9 : Int) ∧ lv_has ls 5 [(4, .int (kz k)), (3, .int (kz v_1)), (0, .ref o), (1, .int (kz p1)), (2, .int (kz v1))] ∧ iv (dC, dI) ca A X H ∧ va_at (dC, dI) vwCl (o, .inr (12, mM am zi zl)) H ∧ va_S A s.heap H locs ∧ va_at (dC, dI) vwCl (am 3, .inl (ca 21, 320, .inl (fc 3))) H ∧ va_at (dC, dI) vwCl (am 4, .inl (ca 20, 40, .inl (fc 4))) H ∧ va_at (dC, dI) vwCl (am 5, .inl (ca 20, 40, .inl (fc 5))) H ∧ va_at (dC, dI) vwCl (am 10, .inl (ca 21, 240, .inl (fc 10))) H ∧ va_at (dC, dI) vwCl (am 11, .inl (ca 20, 24, .inl (fc 11))) H ∧ va_at (dC, dI) vwCl (am 12, .inl (ca 20, 24, .inl (fc 12))) H ∧ va_at (dC, dI) vwCl (am 13, .inl (ca 20, 24, .inl (fc 13))) H ∧ va_at (dC, dI) vwCl (am 17, .inl (ca 22, 36, .inl (fc 17))) H ∧ va_at (dC, dI) vwCl (am 27, .inl (ca 21, 40, .inl (fc 27))) H ∧ va_at (dC, dI) vwCl (am 29, .inl (ca 20, 1600, .inl (fc 29))) H ∧ va_at (dC, dI) vwCl (am 30, .inl (ca 22, 6560, .inl (fc 30))) H ∧ va_at (dC, dI) vwCl (am 32, .inl (ca 20, 52480, .inl gb)) H ∧ va_at (dC, dI) vwCl (am 33, .inl (ca 20, 6560, .inl (fc 33))) H ∧ va_at (dC, dI) vwCl (am 44, .inl (ca 20, 40, .inl (fc 44))) H ∧ ok20 X (am 32) 52480 (-2147483648) (2147483647) gb) 100000 (fc 32) (x0 := v_1) ?_ ⟨by omega, by omega, by omega, fun _ _ _ => rfl, fun _ _ _ => rfl, fun j9 h0 h1 => absurd h0 (by omega), by omega, lv_sub hl [0, 1, 2, 3, 4] rfl, hI, hO, hS, c_3, c_4, c_5, c_10, c_11, c_12, c_13, c_17, c_27, c_29, c_30, c_32, c_33, c_44, k_32⟩
        intro n_33 gb k H locs ls ⟨n_33f0, n_33f1, n_33f2, n_33f3, n_33f4, n_33f5, n_33f6, hl, hI, hO, hS, c_3, c_4, c_5, c_10, c_11, c_12, c_13, c_17, c_27, c_29, c_30, c_32, c_33, c_44, k_gb⟩ ihn_33
        refine lv_iload hx hb dX12_keeps_46 (lv_at hl 0 rfl) ?_
        refine iz_lez (tgt := 101) hx hb dX12_keeps_48 (by decide) (by unfold rg2; omega) (fun br_34 => ?_) (fun br_34 => ?_)
        · refine lv_aload_n hx hb dX12_keeps_101 rfl (lv_at hl 2 rfl) ?_
          refine iz_get (D := (dC, dI)) (ci := 12) (v := .ref (am 32)) (C := RX12) (T := TX12) (N := 49) hx hb hts hin hown hK hO rfl 32 (by decide) hL90 (fun _ h9 => h9) rfl dX12_keeps_102 ?_
          refine lv_bipush (v := kz 8) hx hb dX12_keeps_105 (by decide) ?_
          refine lv_iload_n hx hb dX12_keeps_107 rfl (lv_at hl 3 rfl) ?_
          refine iz_imul hx hb dX12_keeps_108 ?_
          refine lv_iload hx hb dX12_keeps_109 (lv_at hl 0 rfl) ?_
          refine iz_iadd hx hb dX12_keeps_111 ?_
          refine lv_iload_n hx hb dX12_keeps_112 rfl (lv_at hl 4 rfl) ?_
          refine iz_iast hx hb hK 0 c_32 hS (iv_A hI g32 (by decide)) rfl (by omega) (by decide) dX12_keeps_113 (fun H locs c9 oq hS => ?_)
          have hI := iv_s20 hI g32 k_gb c9 oq (by omega) (by omega) (by decide) (by omega)
          have hO := hO.kept (oq _ (iv_ne0 g32 hM.2.1 (by decide)).symm)
          have c_3 := c_3.kept (oq _ (iv_ne g3 g32 (by decide)))
          have c_4 := c_4.kept (oq _ (iv_ne g4 g32 (by decide)))
          have c_5 := c_5.kept (oq _ (iv_ne g5 g32 (by decide)))
          have c_10 := c_10.kept (oq _ (iv_ne g10 g32 (by decide)))
          have c_11 := c_11.kept (oq _ (iv_ne g11 g32 (by decide)))
          have c_12 := c_12.kept (oq _ (iv_ne g12 g32 (by decide)))
          have c_13 := c_13.kept (oq _ (iv_ne g13 g32 (by decide)))
          have c_17 := c_17.kept (oq _ (iv_ne g17 g32 (by decide)))
          have c_27 := c_27.kept (oq _ (iv_ne g27 g32 (by decide)))
          have c_29 := c_29.kept (oq _ (iv_ne g29 g32 (by decide)))
          have c_30 := c_30.kept (oq _ (iv_ne g30 g32 (by decide)))
          have c_33 := c_33.kept (oq _ (iv_ne g33 g32 (by decide)))
          have c_44 := c_44.kept (oq _ (iv_ne g44 g32 (by decide)))
          have k_g_35 : ok20 X (am 32) 52480 (-2147483648) (2147483647) (upd gb (Int.toNat ((8 * p1) + k)) (kz v1)) := ok20_set k_gb (by omega) (by omega) (by decide) (by omega)
          obtain ⟨g_35, eg_35⟩ : ∃ g9 : Nat → Int32, g9 = upd gb (Int.toNat ((8 * p1) + k)) (kz v1) := ⟨_, rfl⟩
          rw [← eg_35] at c9 k_g_35
          clear oq
          have c_32 := c9
          clear c9
          have ug_35 : ∀ w : Int, 0 ≤ w → ge1 g_35 w = if w = ((8 * p1) + k) then v1 else ge1 gb w := fun w hw => by rw [eg_35]; exact ge1_upd gb (by omega) hw (by omega) (by omega)
          refine lv_aload_n hx hb dX12_keeps_114 rfl (lv_at hl 2 rfl) ?_
          refine iz_get (D := (dC, dI)) (ci := 12) (v := .ref (am 33)) (C := RX12) (T := TX12) (N := 49) hx hb hts hin hown hK hO rfl 33 (by decide) hL93 (fun _ h9 => h9) rfl dX12_keeps_115 ?_
          refine lv_iload_n hx hb dX12_keeps_118 rfl (lv_at hl 3 rfl) ?_
          refine lv_iload_n hx hb dX12_keeps_119 rfl (lv_at hl 1 rfl) ?_
          refine lv_bipush (v := kz 8) hx hb dX12_keeps_120 (by decide) ?_
          refine iz_ge (tgt := 131) hx hb dX12_keeps_122 (by decide) (by unfold rg2; omega) (fun br_36 => ?_) (fun br_36 => ?_)
          · refine lv_bipush (v := kz 8) hx hb dX12_keeps_131 (by decide) ?_
            refine iz_iast hx hb hK 0 c_33 hS (iv_A hI g33 (by decide)) rfl (by omega) (by decide) dX12_keeps_133 (fun H locs c9 oq hS => ?_)
            have hI := iv_s20 hI g33 k_33 c9 oq (by omega) (by omega) (by decide) (by omega)
            have hO := hO.kept (oq _ (iv_ne0 g33 hM.2.1 (by decide)).symm)
            have c_3 := c_3.kept (oq _ (iv_ne g3 g33 (by decide)))
            have c_4 := c_4.kept (oq _ (iv_ne g4 g33 (by decide)))
            have c_5 := c_5.kept (oq _ (iv_ne g5 g33 (by decide)))
            have c_10 := c_10.kept (oq _ (iv_ne g10 g33 (by decide)))
            have c_11 := c_11.kept (oq _ (iv_ne g11 g33 (by decide)))
            have c_12 := c_12.kept (oq _ (iv_ne g12 g33 (by decide)))
            have c_13 := c_13.kept (oq _ (iv_ne g13 g33 (by decide)))
            have c_17 := c_17.kept (oq _ (iv_ne g17 g33 (by decide)))
            have c_27 := c_27.kept (oq _ (iv_ne g27 g33 (by decide)))
            have c_29 := c_29.kept (oq _ (iv_ne g29 g33 (by decide)))
            have c_30 := c_30.kept (oq _ (iv_ne g30 g33 (by decide)))
            have c_32 := c_32.kept (oq _ (iv_ne g32 g33 (by decide)))
            have c_44 := c_44.kept (oq _ (iv_ne g44 g33 (by decide)))
            have k_g_37 : ok20 X (am 33) 6560 (0) (8) (upd (fc 33) (Int.toNat p1) (kz 8)) := ok20_set k_33 (by omega) (by omega) (by decide) (by omega)
            obtain ⟨g_37, eg_37⟩ : ∃ g9 : Nat → Int32, g9 = upd (fc 33) (Int.toNat p1) (kz 8) := ⟨_, rfl⟩
            rw [← eg_37] at c9 k_g_37
            clear oq
            have c_33 := c9
            clear c9
            have ug_37 : ∀ w : Int, 0 ≤ w → ge1 g_37 w = if w = p1 then 8 else ge1 (fc 33) w := fun w hw => by rw [eg_37]; exact ge1_upd (fc 33) (by omega) hw (by omega) (by omega)
            exact W.vret hx hb hr (fun t9 ht hW => ⟨⟨(cup (cup fc 32 g_35) 33 g_37), rfl, ⟨g_35, g_37, rfl, k_g_35, k_g_37, fun z9 h0 h1 => by rw [ug_35 z9 h0, if_neg (by omega)]; exact n_33f3 z9 h0 h1, fun z9 h0 h1 => by rw [ug_37 z9 h0, if_neg h1], fun j9 h0 h1 => by rw [ug_37 p1 (by omega), if_pos rfl] at h1; exact kp_in (ug_35 (8 * p1 + j9) (by omega)) (by omega) (fun q9 => n_33f4 j9 h0 q9) (fun q9 => n_33f5 j9 q9 (by omega)) (by omega) (by omega)⟩, va_K.moved hW.alike hK, by rw [ht]; exact ⟨hI, hO⟩, by rw [ht]; exact ⟨c_3, c_4, c_5, c_10, c_11, c_12, c_13, c_17, c_27, c_29, c_30, c_32, c_33, c_44⟩⟩, hS.F ht⟩) hS.2.2 dX12_keeps_134
          · refine lv_iload_n hx hb dX12_keeps_125 rfl (lv_at hl 1 rfl) ?_
            refine lv_iconst (v := kz 1) hx hb dX12_keeps_126 rfl ?_
            refine iz_iadd hx hb dX12_keeps_127 ?_
            refine lv_goto (tgt := 133) hx hb dX12_keeps_128 (by decide) ?_
            refine iz_iast hx hb hK 0 c_33 hS (iv_A hI g33 (by decide)) rfl (by omega) (by decide) dX12_keeps_133 (fun H locs c9 oq hS => ?_)
            have hI := iv_s20 hI g33 k_33 c9 oq (by omega) (by omega) (by decide) (by omega)
            have hO := hO.kept (oq _ (iv_ne0 g33 hM.2.1 (by decide)).symm)
            have c_3 := c_3.kept (oq _ (iv_ne g3 g33 (by decide)))
            have c_4 := c_4.kept (oq _ (iv_ne g4 g33 (by decide)))
            have c_5 := c_5.kept (oq _ (iv_ne g5 g33 (by decide)))
            have c_10 := c_10.kept (oq _ (iv_ne g10 g33 (by decide)))
            have c_11 := c_11.kept (oq _ (iv_ne g11 g33 (by decide)))
            have c_12 := c_12.kept (oq _ (iv_ne g12 g33 (by decide)))
            have c_13 := c_13.kept (oq _ (iv_ne g13 g33 (by decide)))
            have c_17 := c_17.kept (oq _ (iv_ne g17 g33 (by decide)))
            have c_27 := c_27.kept (oq _ (iv_ne g27 g33 (by decide)))
            have c_29 := c_29.kept (oq _ (iv_ne g29 g33 (by decide)))
            have c_30 := c_30.kept (oq _ (iv_ne g30 g33 (by decide)))
            have c_32 := c_32.kept (oq _ (iv_ne g32 g33 (by decide)))
            have c_44 := c_44.kept (oq _ (iv_ne g44 g33 (by decide)))
            have k_g_38 : ok20 X (am 33) 6560 (0) (8) (upd (fc 33) (Int.toNat p1) (kz (v_1 + 1))) := ok20_set k_33 (by omega) (by omega) (by decide) (by omega)
            obtain ⟨g_38, eg_38⟩ : ∃ g9 : Nat → Int32, g9 = upd (fc 33) (Int.toNat p1) (kz (v_1 + 1)) := ⟨_, rfl⟩
            rw [← eg_38] at c9 k_g_38
            clear oq
            have c_33 := c9
            clear c9
            have ug_38 : ∀ w : Int, 0 ≤ w → ge1 g_38 w = if w = p1 then (v_1 + 1) else ge1 (fc 33) w := fun w hw => by rw [eg_38]; exact ge1_upd (fc 33) (by omega) hw (by omega) (by omega)
            exact W.vret hx hb hr (fun t9 ht hW => ⟨⟨(cup (cup fc 32 g_35) 33 g_38), rfl, ⟨g_35, g_38, rfl, k_g_35, k_g_38, fun z9 h0 h1 => by rw [ug_35 z9 h0, if_neg (by omega)]; exact n_33f3 z9 h0 h1, fun z9 h0 h1 => by rw [ug_38 z9 h0, if_neg h1], fun j9 h0 h1 => by rw [ug_38 p1 (by omega), if_pos rfl] at h1; exact kp_in (ug_35 (8 * p1 + j9) (by omega)) (by omega) (fun q9 => n_33f4 j9 h0 q9) (fun q9 => n_33f5 j9 q9 (by omega)) (by omega) (by omega)⟩, va_K.moved hW.alike hK, by rw [ht]; exact ⟨hI, hO⟩, by rw [ht]; exact ⟨c_3, c_4, c_5, c_10, c_11, c_12, c_13, c_17, c_27, c_29, c_30, c_32, c_33, c_44⟩⟩, hS.F ht⟩) hS.2.2 dX12_keeps_134
        · refine lv_aload_n hx hb dX12_keeps_51 rfl (lv_at hl 2 rfl) ?_
          refine iz_get (D := (dC, dI)) (ci := 12) (v := .ref (am 32)) (C := RX12) (T := TX12) (N := 49) hx hb hts hin hown hK hO rfl 32 (by decide) hL90 (fun _ h9 => h9) rfl dX12_keeps_52 ?_
          refine lv_bipush (v := kz 8) hx hb dX12_keeps_55 (by decide) ?_
          refine lv_iload_n hx hb dX12_keeps_57 rfl (lv_at hl 3 rfl) ?_
          refine iz_imul hx hb dX12_keeps_58 ?_
          refine lv_iload hx hb dX12_keeps_59 (lv_at hl 0 rfl) ?_
          refine iz_iadd hx hb dX12_keeps_61 ?_
          refine lv_iconst (v := kz 1) hx hb dX12_keeps_62 rfl ?_
          refine iz_isub hx hb dX12_keeps_63 ?_
          refine iz_iald hx hb hK 0 c_32 rfl (by omega) (by decide) dX12_keeps_64 ?_
          obtain ⟨v_39a, v_39b, v_39c⟩ := k_gb (((8 * p1) + k) - 1) (by omega)
          clear v_39c
          obtain ⟨v_39, ev_39⟩ : ∃ z9 : Int, ge1 gb (((8 * p1) + k) - 1) = z9 := ⟨_, rfl⟩
          rw [ev_39] at v_39a v_39b ⊢
          refine lv_iload_n hx hb dX12_keeps_65 rfl (lv_at hl 4 rfl) ?_
          refine iz_le (tgt := 101) hx hb dX12_keeps_66 (by decide) (by unfold rg2; omega) (fun br_40 => ?_) (fun br_40 => ?_)
          · refine lv_aload_n hx hb dX12_keeps_101 rfl (lv_at hl 2 rfl) ?_
            refine iz_get (D := (dC, dI)) (ci := 12) (v := .ref (am 32)) (C := RX12) (T := TX12) (N := 49) hx hb hts hin hown hK hO rfl 32 (by decide) hL90 (fun _ h9 => h9) rfl dX12_keeps_102 ?_
            refine lv_bipush (v := kz 8) hx hb dX12_keeps_105 (by decide) ?_
            refine lv_iload_n hx hb dX12_keeps_107 rfl (lv_at hl 3 rfl) ?_
            refine iz_imul hx hb dX12_keeps_108 ?_
            refine lv_iload hx hb dX12_keeps_109 (lv_at hl 0 rfl) ?_
            refine iz_iadd hx hb dX12_keeps_111 ?_
            refine lv_iload_n hx hb dX12_keeps_112 rfl (lv_at hl 4 rfl) ?_
            refine iz_iast hx hb hK 0 c_32 hS (iv_A hI g32 (by decide)) rfl (by omega) (by decide) dX12_keeps_113 (fun H locs c9 oq hS => ?_)
            have hI := iv_s20 hI g32 k_gb c9 oq (by omega) (by omega) (by decide) (by omega)
            have hO := hO.kept (oq _ (iv_ne0 g32 hM.2.1 (by decide)).symm)
            have c_3 := c_3.kept (oq _ (iv_ne g3 g32 (by decide)))
            have c_4 := c_4.kept (oq _ (iv_ne g4 g32 (by decide)))
            have c_5 := c_5.kept (oq _ (iv_ne g5 g32 (by decide)))
            have c_10 := c_10.kept (oq _ (iv_ne g10 g32 (by decide)))
            have c_11 := c_11.kept (oq _ (iv_ne g11 g32 (by decide)))
            have c_12 := c_12.kept (oq _ (iv_ne g12 g32 (by decide)))
            have c_13 := c_13.kept (oq _ (iv_ne g13 g32 (by decide)))
            have c_17 := c_17.kept (oq _ (iv_ne g17 g32 (by decide)))
            have c_27 := c_27.kept (oq _ (iv_ne g27 g32 (by decide)))
            have c_29 := c_29.kept (oq _ (iv_ne g29 g32 (by decide)))
            have c_30 := c_30.kept (oq _ (iv_ne g30 g32 (by decide)))
            have c_33 := c_33.kept (oq _ (iv_ne g33 g32 (by decide)))
            have c_44 := c_44.kept (oq _ (iv_ne g44 g32 (by decide)))
            have k_g_41 : ok20 X (am 32) 52480 (-2147483648) (2147483647) (upd gb (Int.toNat ((8 * p1) + k)) (kz v1)) := ok20_set k_gb (by omega) (by omega) (by decide) (by omega)
            obtain ⟨g_41, eg_41⟩ : ∃ g9 : Nat → Int32, g9 = upd gb (Int.toNat ((8 * p1) + k)) (kz v1) := ⟨_, rfl⟩
            rw [← eg_41] at c9 k_g_41
            clear oq
            have c_32 := c9
            clear c9
            have ug_41 : ∀ w : Int, 0 ≤ w → ge1 g_41 w = if w = ((8 * p1) + k) then v1 else ge1 gb w := fun w hw => by rw [eg_41]; exact ge1_upd gb (by omega) hw (by omega) (by omega)
            refine lv_aload_n hx hb dX12_keeps_114 rfl (lv_at hl 2 rfl) ?_
            refine iz_get (D := (dC, dI)) (ci := 12) (v := .ref (am 33)) (C := RX12) (T := TX12) (N := 49) hx hb hts hin hown hK hO rfl 33 (by decide) hL93 (fun _ h9 => h9) rfl dX12_keeps_115 ?_
            refine lv_iload_n hx hb dX12_keeps_118 rfl (lv_at hl 3 rfl) ?_
            refine lv_iload_n hx hb dX12_keeps_119 rfl (lv_at hl 1 rfl) ?_
            refine lv_bipush (v := kz 8) hx hb dX12_keeps_120 (by decide) ?_
            refine iz_ge (tgt := 131) hx hb dX12_keeps_122 (by decide) (by unfold rg2; omega) (fun br_42 => ?_) (fun br_42 => ?_)
            · refine lv_bipush (v := kz 8) hx hb dX12_keeps_131 (by decide) ?_
              refine iz_iast hx hb hK 0 c_33 hS (iv_A hI g33 (by decide)) rfl (by omega) (by decide) dX12_keeps_133 (fun H locs c9 oq hS => ?_)
              have hI := iv_s20 hI g33 k_33 c9 oq (by omega) (by omega) (by decide) (by omega)
              have hO := hO.kept (oq _ (iv_ne0 g33 hM.2.1 (by decide)).symm)
              have c_3 := c_3.kept (oq _ (iv_ne g3 g33 (by decide)))
              have c_4 := c_4.kept (oq _ (iv_ne g4 g33 (by decide)))
              have c_5 := c_5.kept (oq _ (iv_ne g5 g33 (by decide)))
              have c_10 := c_10.kept (oq _ (iv_ne g10 g33 (by decide)))
              have c_11 := c_11.kept (oq _ (iv_ne g11 g33 (by decide)))
              have c_12 := c_12.kept (oq _ (iv_ne g12 g33 (by decide)))
              have c_13 := c_13.kept (oq _ (iv_ne g13 g33 (by decide)))
              have c_17 := c_17.kept (oq _ (iv_ne g17 g33 (by decide)))
              have c_27 := c_27.kept (oq _ (iv_ne g27 g33 (by decide)))
              have c_29 := c_29.kept (oq _ (iv_ne g29 g33 (by decide)))
              have c_30 := c_30.kept (oq _ (iv_ne g30 g33 (by decide)))
              have c_32 := c_32.kept (oq _ (iv_ne g32 g33 (by decide)))
              have c_44 := c_44.kept (oq _ (iv_ne g44 g33 (by decide)))
              have k_g_43 : ok20 X (am 33) 6560 (0) (8) (upd (fc 33) (Int.toNat p1) (kz 8)) := ok20_set k_33 (by omega) (by omega) (by decide) (by omega)
              obtain ⟨g_43, eg_43⟩ : ∃ g9 : Nat → Int32, g9 = upd (fc 33) (Int.toNat p1) (kz 8) := ⟨_, rfl⟩
              rw [← eg_43] at c9 k_g_43
              clear oq
              have c_33 := c9
              clear c9
              have ug_43 : ∀ w : Int, 0 ≤ w → ge1 g_43 w = if w = p1 then 8 else ge1 (fc 33) w := fun w hw => by rw [eg_43]; exact ge1_upd (fc 33) (by omega) hw (by omega) (by omega)
              exact W.vret hx hb hr (fun t9 ht hW => ⟨⟨(cup (cup fc 32 g_41) 33 g_43), rfl, ⟨g_41, g_43, rfl, k_g_41, k_g_43, fun z9 h0 h1 => by rw [ug_41 z9 h0, if_neg (by omega)]; exact n_33f3 z9 h0 h1, fun z9 h0 h1 => by rw [ug_43 z9 h0, if_neg h1], fun j9 h0 h1 => by rw [ug_43 p1 (by omega), if_pos rfl] at h1; exact kp_in (ug_41 (8 * p1 + j9) (by omega)) (by omega) (fun q9 => n_33f4 j9 h0 q9) (fun q9 => n_33f5 j9 q9 (by omega)) (by omega) (by omega)⟩, va_K.moved hW.alike hK, by rw [ht]; exact ⟨hI, hO⟩, by rw [ht]; exact ⟨c_3, c_4, c_5, c_10, c_11, c_12, c_13, c_17, c_27, c_29, c_30, c_32, c_33, c_44⟩⟩, hS.F ht⟩) hS.2.2 dX12_keeps_134
            · refine lv_iload_n hx hb dX12_keeps_125 rfl (lv_at hl 1 rfl) ?_
              refine lv_iconst (v := kz 1) hx hb dX12_keeps_126 rfl ?_
              refine iz_iadd hx hb dX12_keeps_127 ?_
              refine lv_goto (tgt := 133) hx hb dX12_keeps_128 (by decide) ?_
              refine iz_iast hx hb hK 0 c_33 hS (iv_A hI g33 (by decide)) rfl (by omega) (by decide) dX12_keeps_133 (fun H locs c9 oq hS => ?_)
              have hI := iv_s20 hI g33 k_33 c9 oq (by omega) (by omega) (by decide) (by omega)
              have hO := hO.kept (oq _ (iv_ne0 g33 hM.2.1 (by decide)).symm)
              have c_3 := c_3.kept (oq _ (iv_ne g3 g33 (by decide)))
              have c_4 := c_4.kept (oq _ (iv_ne g4 g33 (by decide)))
              have c_5 := c_5.kept (oq _ (iv_ne g5 g33 (by decide)))
              have c_10 := c_10.kept (oq _ (iv_ne g10 g33 (by decide)))
              have c_11 := c_11.kept (oq _ (iv_ne g11 g33 (by decide)))
              have c_12 := c_12.kept (oq _ (iv_ne g12 g33 (by decide)))
              have c_13 := c_13.kept (oq _ (iv_ne g13 g33 (by decide)))
              have c_17 := c_17.kept (oq _ (iv_ne g17 g33 (by decide)))
              have c_27 := c_27.kept (oq _ (iv_ne g27 g33 (by decide)))
              have c_29 := c_29.kept (oq _ (iv_ne g29 g33 (by decide)))
              have c_30 := c_30.kept (oq _ (iv_ne g30 g33 (by decide)))
              have c_32 := c_32.kept (oq _ (iv_ne g32 g33 (by decide)))
              have c_44 := c_44.kept (oq _ (iv_ne g44 g33 (by decide)))
              have k_g_44 : ok20 X (am 33) 6560 (0) (8) (upd (fc 33) (Int.toNat p1) (kz (v_1 + 1))) := ok20_set k_33 (by omega) (by omega) (by decide) (by omega)
              obtain ⟨g_44, eg_44⟩ : ∃ g9 : Nat → Int32, g9 = upd (fc 33) (Int.toNat p1) (kz (v_1 + 1)) := ⟨_, rfl⟩
              rw [← eg_44] at c9 k_g_44
              clear oq
              have c_33 := c9
              clear c9
              have ug_44 : ∀ w : Int, 0 ≤ w → ge1 g_44 w = if w = p1 then (v_1 + 1) else ge1 (fc 33) w := fun w hw => by rw [eg_44]; exact ge1_upd (fc 33) (by omega) hw (by omega) (by omega)
              exact W.vret hx hb hr (fun t9 ht hW => ⟨⟨(cup (cup fc 32 g_41) 33 g_44), rfl, ⟨g_41, g_44, rfl, k_g_41, k_g_44, fun z9 h0 h1 => by rw [ug_41 z9 h0, if_neg (by omega)]; exact n_33f3 z9 h0 h1, fun z9 h0 h1 => by rw [ug_44 z9 h0, if_neg h1], fun j9 h0 h1 => by rw [ug_44 p1 (by omega), if_pos rfl] at h1; exact kp_in (ug_41 (8 * p1 + j9) (by omega)) (by omega) (fun q9 => n_33f4 j9 h0 q9) (fun q9 => n_33f5 j9 q9 (by omega)) (by omega) (by omega)⟩, va_K.moved hW.alike hK, by rw [ht]; exact ⟨hI, hO⟩, by rw [ht]; exact ⟨c_3, c_4, c_5, c_10, c_11, c_12, c_13, c_17, c_27, c_29, c_30, c_32, c_33, c_44⟩⟩, hS.F ht⟩) hS.2.2 dX12_keeps_134
          · refine lv_aload_n hx hb dX12_keeps_69 rfl (lv_at hl 2 rfl) ?_
            refine iz_get (D := (dC, dI)) (ci := 12) (v := .ref (am 32)) (C := RX12) (T := TX12) (N := 49) hx hb hts hin hown hK hO rfl 32 (by decide) hL90 (fun _ h9 => h9) rfl dX12_keeps_70 ?_
            refine lv_bipush (v := kz 8) hx hb dX12_keeps_73 (by decide) ?_
            refine lv_iload_n hx hb dX12_keeps_75 rfl (lv_at hl 3 rfl) ?_
            refine iz_imul hx hb dX12_keeps_76 ?_
            refine lv_iload hx hb dX12_keeps_77 (lv_at hl 0 rfl) ?_
            refine iz_iadd hx hb dX12_keeps_79 ?_
            refine lv_aload_n hx hb dX12_keeps_80 rfl (lv_at hl 2 rfl) ?_
            refine iz_get (D := (dC, dI)) (ci := 12) (v := .ref (am 32)) (C := RX12) (T := TX12) (N := 49) hx hb hts hin hown hK hO rfl 32 (by decide) hL90 (fun _ h9 => h9) rfl dX12_keeps_81 ?_
            refine lv_bipush (v := kz 8) hx hb dX12_keeps_84 (by decide) ?_
            refine lv_iload_n hx hb dX12_keeps_86 rfl (lv_at hl 3 rfl) ?_
            refine iz_imul hx hb dX12_keeps_87 ?_
            refine lv_iload hx hb dX12_keeps_88 (lv_at hl 0 rfl) ?_
            refine iz_iadd hx hb dX12_keeps_90 ?_
            refine lv_iconst (v := kz 1) hx hb dX12_keeps_91 rfl ?_
            refine iz_isub hx hb dX12_keeps_92 ?_
            refine iz_iald hx hb hK 0 c_32 rfl (by omega) (by decide) dX12_keeps_93 ?_
            rw [ev_39]
            refine iz_iast hx hb hK 0 c_32 hS (iv_A hI g32 (by decide)) rfl (by omega) (by decide) dX12_keeps_94 (fun H locs c9 oq hS => ?_)
            have hI := iv_s20 hI g32 k_gb c9 oq (by omega) (by omega) (by decide) (by omega)
            have hO := hO.kept (oq _ (iv_ne0 g32 hM.2.1 (by decide)).symm)
            have c_3 := c_3.kept (oq _ (iv_ne g3 g32 (by decide)))
            have c_4 := c_4.kept (oq _ (iv_ne g4 g32 (by decide)))
            have c_5 := c_5.kept (oq _ (iv_ne g5 g32 (by decide)))
            have c_10 := c_10.kept (oq _ (iv_ne g10 g32 (by decide)))
            have c_11 := c_11.kept (oq _ (iv_ne g11 g32 (by decide)))
            have c_12 := c_12.kept (oq _ (iv_ne g12 g32 (by decide)))
            have c_13 := c_13.kept (oq _ (iv_ne g13 g32 (by decide)))
            have c_17 := c_17.kept (oq _ (iv_ne g17 g32 (by decide)))
            have c_27 := c_27.kept (oq _ (iv_ne g27 g32 (by decide)))
            have c_29 := c_29.kept (oq _ (iv_ne g29 g32 (by decide)))
            have c_30 := c_30.kept (oq _ (iv_ne g30 g32 (by decide)))
            have c_33 := c_33.kept (oq _ (iv_ne g33 g32 (by decide)))
            have c_44 := c_44.kept (oq _ (iv_ne g44 g32 (by decide)))
            have k_g_45 : ok20 X (am 32) 52480 (-2147483648) (2147483647) (upd gb (Int.toNat ((8 * p1) + k)) (kz v_39)) := ok20_set k_gb (by omega) (by omega) (by decide) (by omega)
            obtain ⟨g_45, eg_45⟩ : ∃ g9 : Nat → Int32, g9 = upd gb (Int.toNat ((8 * p1) + k)) (kz v_39) := ⟨_, rfl⟩
            rw [← eg_45] at c9 k_g_45
            clear oq
            have c_32 := c9
            clear c9
            have ug_45 : ∀ w : Int, 0 ≤ w → ge1 g_45 w = if w = ((8 * p1) + k) then v_39 else ge1 gb w := fun w hw => by rw [eg_45]; exact ge1_upd gb (by omega) hw (by omega) (by omega)
            refine lv_iinc (v := kz (k + (-1))) (lv' := [(4, .int (kz (k + (-1)))), (3, .int (kz v_1)), (0, .ref o), (1, .int (kz p1)), (2, .int (kz v1))]) hx hb dX12_keeps_95 hl (k := 0) rfl (kz_add k (-1)) (by decide) rfl (fun ls hl => ?_)
            refine lv_goto (tgt := 46) hx hb dX12_keeps_98 (by decide) ?_
            exact ihn_33 (n_33 - 1) (by omega) g_45 (k + (-1)) _ _ _ ⟨by omega, by omega, by omega, (fun z9 h0 h1 => by rw [ug_45 z9 h0, if_neg (by omega)]; exact n_33f3 z9 h0 h1), (fun j9 h0 h1 => by rw [ug_45 _ (by omega), if_neg (by omega)]; exact n_33f4 j9 h0 (by omega)), (fun j9 h0 h1 => by by_cases e9 : j9 = k; rw [e9, ug_45 _ (by omega), if_pos rfl]; have q9 := n_33f4 (k - 1) (by omega) (by omega); rw [show (8 * p1 + (k - 1) : Int) = 8 * p1 + k - 1 by omega] at q9 ⊢; omega; rw [ug_45 _ (by omega), if_neg (by omega)]; exact n_33f5 j9 (by omega) h1), by omega, lv_sub hl [0, 1, 2, 3, 4] rfl, hI, hO, hS, c_3, c_4, c_5, c_10, c_11, c_12, c_13, c_17, c_27, c_29, c_30, c_32, c_33, c_44, k_g_45⟩
      · refine lv_bipush (v := kz 7) hx hb dX12_keeps_38 (by decide) ?_
        refine lv_goto (tgt := 44) hx hb dX12_keeps_40 (by decide) ?_
        refine lv_istore (lv' := [(4, .int (kz 7)), (3, .int (kz v_1)), (0, .ref o), (1, .int (kz p1)), (2, .int (kz v1))]) hx hb dX12_keeps_44 hl (by decide) rfl (fun ls hl => ?_)
        refine iz_loopA1 (α := (Nat → Int32)) (P := fun N9 gb k H locs ls => (0 ≤ k) ∧ (k ≤ 7) ∧ (k ≤ 7) ∧ (∀ z9 : Int, 0 ≤ z9 → z9 < 8 * p1 ∨ 8 * p1 + 8 ≤ z9 → ge1 gb z9 = ge1 (fc 32) z9) ∧ (∀ j9 : Int, 0 ≤ j9 → j9 < k → ge1 gb (8 * p1 + j9) = ge1 (fc 32) (8 * p1 + j9)) ∧ (∀ j9 : Int, k < j9 → j9 ≤ 7 → ge1 gb (8 * p1 + j9) = ge1 (fc 32) (8 * p1 + (j9 - 1))) ∧ k ≤ (N9 : Int) ∧ lv_has ls 5 [(4, .int (kz k)), (3, .int (kz v_1)), (0, .ref o), (1, .int (kz p1)), (2, .int (kz v1))] ∧ iv (dC, dI) ca A X H ∧ va_at (dC, dI) vwCl (o, .inr (12, mM am zi zl)) H ∧ va_S A s.heap H locs ∧ va_at (dC, dI) vwCl (am 3, .inl (ca 21, 320, .inl (fc 3))) H ∧ va_at (dC, dI) vwCl (am 4, .inl (ca 20, 40, .inl (fc 4))) H ∧ va_at (dC, dI) vwCl (am 5, .inl (ca 20, 40, .inl (fc 5))) H ∧ va_at (dC, dI) vwCl (am 10, .inl (ca 21, 240, .inl (fc 10))) H ∧ va_at (dC, dI) vwCl (am 11, .inl (ca 20, 24, .inl (fc 11))) H ∧ va_at (dC, dI) vwCl (am 12, .inl (ca 20, 24, .inl (fc 12))) H ∧ va_at (dC, dI) vwCl (am 13, .inl (ca 20, 24, .inl (fc 13))) H ∧ va_at (dC, dI) vwCl (am 17, .inl (ca 22, 36, .inl (fc 17))) H ∧ va_at (dC, dI) vwCl (am 27, .inl (ca 21, 40, .inl (fc 27))) H ∧ va_at (dC, dI) vwCl (am 29, .inl (ca 20, 1600, .inl (fc 29))) H ∧ va_at (dC, dI) vwCl (am 30, .inl (ca 22, 6560, .inl (fc 30))) H ∧ va_at (dC, dI) vwCl (am 32, .inl (ca 20, 52480, .inl gb)) H ∧ va_at (dC, dI) vwCl (am 33, .inl (ca 20, 6560, .inl (fc 33))) H ∧ va_at (dC, dI) vwCl (am 44, .inl (ca 20, 40, .inl (fc 44))) H ∧ ok20 X (am 32) 52480 (-2147483648) (2147483647) gb) 100000 (fc 32) (x0 := 7) ?_ ⟨by omega, by omega, by omega, fun _ _ _ => rfl, fun _ _ _ => rfl, fun j9 h0 h1 => absurd h0 (by omega), by omega, lv_sub hl [0, 1, 2, 3, 4] rfl, hI, hO, hS, c_3, c_4, c_5, c_10, c_11, c_12, c_13, c_17, c_27, c_29, c_30, c_32, c_33, c_44, k_32⟩
        intro n_46 gb k H locs ls ⟨n_46f0, n_46f1, n_46f2, n_46f3, n_46f4, n_46f5, n_46f6, hl, hI, hO, hS, c_3, c_4, c_5, c_10, c_11, c_12, c_13, c_17, c_27, c_29, c_30, c_32, c_33, c_44, k_gb⟩ ihn_46
        refine lv_iload hx hb dX12_keeps_46 (lv_at hl 0 rfl) ?_
        refine iz_lez (tgt := 101) hx hb dX12_keeps_48 (by decide) (by unfold rg2; omega) (fun br_47 => ?_) (fun br_47 => ?_)
        · refine lv_aload_n hx hb dX12_keeps_101 rfl (lv_at hl 2 rfl) ?_
          refine iz_get (D := (dC, dI)) (ci := 12) (v := .ref (am 32)) (C := RX12) (T := TX12) (N := 49) hx hb hts hin hown hK hO rfl 32 (by decide) hL90 (fun _ h9 => h9) rfl dX12_keeps_102 ?_
          refine lv_bipush (v := kz 8) hx hb dX12_keeps_105 (by decide) ?_
          refine lv_iload_n hx hb dX12_keeps_107 rfl (lv_at hl 3 rfl) ?_
          refine iz_imul hx hb dX12_keeps_108 ?_
          refine lv_iload hx hb dX12_keeps_109 (lv_at hl 0 rfl) ?_
          refine iz_iadd hx hb dX12_keeps_111 ?_
          refine lv_iload_n hx hb dX12_keeps_112 rfl (lv_at hl 4 rfl) ?_
          refine iz_iast hx hb hK 0 c_32 hS (iv_A hI g32 (by decide)) rfl (by omega) (by decide) dX12_keeps_113 (fun H locs c9 oq hS => ?_)
          have hI := iv_s20 hI g32 k_gb c9 oq (by omega) (by omega) (by decide) (by omega)
          have hO := hO.kept (oq _ (iv_ne0 g32 hM.2.1 (by decide)).symm)
          have c_3 := c_3.kept (oq _ (iv_ne g3 g32 (by decide)))
          have c_4 := c_4.kept (oq _ (iv_ne g4 g32 (by decide)))
          have c_5 := c_5.kept (oq _ (iv_ne g5 g32 (by decide)))
          have c_10 := c_10.kept (oq _ (iv_ne g10 g32 (by decide)))
          have c_11 := c_11.kept (oq _ (iv_ne g11 g32 (by decide)))
          have c_12 := c_12.kept (oq _ (iv_ne g12 g32 (by decide)))
          have c_13 := c_13.kept (oq _ (iv_ne g13 g32 (by decide)))
          have c_17 := c_17.kept (oq _ (iv_ne g17 g32 (by decide)))
          have c_27 := c_27.kept (oq _ (iv_ne g27 g32 (by decide)))
          have c_29 := c_29.kept (oq _ (iv_ne g29 g32 (by decide)))
          have c_30 := c_30.kept (oq _ (iv_ne g30 g32 (by decide)))
          have c_33 := c_33.kept (oq _ (iv_ne g33 g32 (by decide)))
          have c_44 := c_44.kept (oq _ (iv_ne g44 g32 (by decide)))
          have k_g_48 : ok20 X (am 32) 52480 (-2147483648) (2147483647) (upd gb (Int.toNat ((8 * p1) + k)) (kz v1)) := ok20_set k_gb (by omega) (by omega) (by decide) (by omega)
          obtain ⟨g_48, eg_48⟩ : ∃ g9 : Nat → Int32, g9 = upd gb (Int.toNat ((8 * p1) + k)) (kz v1) := ⟨_, rfl⟩
          rw [← eg_48] at c9 k_g_48
          clear oq
          have c_32 := c9
          clear c9
          have ug_48 : ∀ w : Int, 0 ≤ w → ge1 g_48 w = if w = ((8 * p1) + k) then v1 else ge1 gb w := fun w hw => by rw [eg_48]; exact ge1_upd gb (by omega) hw (by omega) (by omega)
          refine lv_aload_n hx hb dX12_keeps_114 rfl (lv_at hl 2 rfl) ?_
          refine iz_get (D := (dC, dI)) (ci := 12) (v := .ref (am 33)) (C := RX12) (T := TX12) (N := 49) hx hb hts hin hown hK hO rfl 33 (by decide) hL93 (fun _ h9 => h9) rfl dX12_keeps_115 ?_
          refine lv_iload_n hx hb dX12_keeps_118 rfl (lv_at hl 3 rfl) ?_
          refine lv_iload_n hx hb dX12_keeps_119 rfl (lv_at hl 1 rfl) ?_
          refine lv_bipush (v := kz 8) hx hb dX12_keeps_120 (by decide) ?_
          refine iz_ge (tgt := 131) hx hb dX12_keeps_122 (by decide) (by unfold rg2; omega) (fun br_49 => ?_) (fun br_49 => ?_)
          · refine lv_bipush (v := kz 8) hx hb dX12_keeps_131 (by decide) ?_
            refine iz_iast hx hb hK 0 c_33 hS (iv_A hI g33 (by decide)) rfl (by omega) (by decide) dX12_keeps_133 (fun H locs c9 oq hS => ?_)
            have hI := iv_s20 hI g33 k_33 c9 oq (by omega) (by omega) (by decide) (by omega)
            have hO := hO.kept (oq _ (iv_ne0 g33 hM.2.1 (by decide)).symm)
            have c_3 := c_3.kept (oq _ (iv_ne g3 g33 (by decide)))
            have c_4 := c_4.kept (oq _ (iv_ne g4 g33 (by decide)))
            have c_5 := c_5.kept (oq _ (iv_ne g5 g33 (by decide)))
            have c_10 := c_10.kept (oq _ (iv_ne g10 g33 (by decide)))
            have c_11 := c_11.kept (oq _ (iv_ne g11 g33 (by decide)))
            have c_12 := c_12.kept (oq _ (iv_ne g12 g33 (by decide)))
            have c_13 := c_13.kept (oq _ (iv_ne g13 g33 (by decide)))
            have c_17 := c_17.kept (oq _ (iv_ne g17 g33 (by decide)))
            have c_27 := c_27.kept (oq _ (iv_ne g27 g33 (by decide)))
            have c_29 := c_29.kept (oq _ (iv_ne g29 g33 (by decide)))
            have c_30 := c_30.kept (oq _ (iv_ne g30 g33 (by decide)))
            have c_32 := c_32.kept (oq _ (iv_ne g32 g33 (by decide)))
            have c_44 := c_44.kept (oq _ (iv_ne g44 g33 (by decide)))
            have k_g_50 : ok20 X (am 33) 6560 (0) (8) (upd (fc 33) (Int.toNat p1) (kz 8)) := ok20_set k_33 (by omega) (by omega) (by decide) (by omega)
            obtain ⟨g_50, eg_50⟩ : ∃ g9 : Nat → Int32, g9 = upd (fc 33) (Int.toNat p1) (kz 8) := ⟨_, rfl⟩
            rw [← eg_50] at c9 k_g_50
            clear oq
            have c_33 := c9
            clear c9
            have ug_50 : ∀ w : Int, 0 ≤ w → ge1 g_50 w = if w = p1 then 8 else ge1 (fc 33) w := fun w hw => by rw [eg_50]; exact ge1_upd (fc 33) (by omega) hw (by omega) (by omega)
            exact W.vret hx hb hr (fun t9 ht hW => ⟨⟨(cup (cup fc 32 g_48) 33 g_50), rfl, ⟨g_48, g_50, rfl, k_g_48, k_g_50, fun z9 h0 h1 => by rw [ug_48 z9 h0, if_neg (by omega)]; exact n_46f3 z9 h0 h1, fun z9 h0 h1 => by rw [ug_50 z9 h0, if_neg h1], fun j9 h0 h1 => by rw [ug_50 p1 (by omega), if_pos rfl] at h1; exact kp_in (ug_48 (8 * p1 + j9) (by omega)) (by omega) (fun q9 => n_46f4 j9 h0 q9) (fun q9 => n_46f5 j9 q9 (by omega)) (by omega) (by omega)⟩, va_K.moved hW.alike hK, by rw [ht]; exact ⟨hI, hO⟩, by rw [ht]; exact ⟨c_3, c_4, c_5, c_10, c_11, c_12, c_13, c_17, c_27, c_29, c_30, c_32, c_33, c_44⟩⟩, hS.F ht⟩) hS.2.2 dX12_keeps_134
          · refine lv_iload_n hx hb dX12_keeps_125 rfl (lv_at hl 1 rfl) ?_
            refine lv_iconst (v := kz 1) hx hb dX12_keeps_126 rfl ?_
            refine iz_iadd hx hb dX12_keeps_127 ?_
            refine lv_goto (tgt := 133) hx hb dX12_keeps_128 (by decide) ?_
            refine iz_iast hx hb hK 0 c_33 hS (iv_A hI g33 (by decide)) rfl (by omega) (by decide) dX12_keeps_133 (fun H locs c9 oq hS => ?_)
            have hI := iv_s20 hI g33 k_33 c9 oq (by omega) (by omega) (by decide) (by omega)
            have hO := hO.kept (oq _ (iv_ne0 g33 hM.2.1 (by decide)).symm)
            have c_3 := c_3.kept (oq _ (iv_ne g3 g33 (by decide)))
            have c_4 := c_4.kept (oq _ (iv_ne g4 g33 (by decide)))
            have c_5 := c_5.kept (oq _ (iv_ne g5 g33 (by decide)))
            have c_10 := c_10.kept (oq _ (iv_ne g10 g33 (by decide)))
            have c_11 := c_11.kept (oq _ (iv_ne g11 g33 (by decide)))
            have c_12 := c_12.kept (oq _ (iv_ne g12 g33 (by decide)))
            have c_13 := c_13.kept (oq _ (iv_ne g13 g33 (by decide)))
            have c_17 := c_17.kept (oq _ (iv_ne g17 g33 (by decide)))
            have c_27 := c_27.kept (oq _ (iv_ne g27 g33 (by decide)))
            have c_29 := c_29.kept (oq _ (iv_ne g29 g33 (by decide)))
            have c_30 := c_30.kept (oq _ (iv_ne g30 g33 (by decide)))
            have c_32 := c_32.kept (oq _ (iv_ne g32 g33 (by decide)))
            have c_44 := c_44.kept (oq _ (iv_ne g44 g33 (by decide)))
            have k_g_51 : ok20 X (am 33) 6560 (0) (8) (upd (fc 33) (Int.toNat p1) (kz (v_1 + 1))) := ok20_set k_33 (by omega) (by omega) (by decide) (by omega)
            obtain ⟨g_51, eg_51⟩ : ∃ g9 : Nat → Int32, g9 = upd (fc 33) (Int.toNat p1) (kz (v_1 + 1)) := ⟨_, rfl⟩
            rw [← eg_51] at c9 k_g_51
            clear oq
            have c_33 := c9
            clear c9
            have ug_51 : ∀ w : Int, 0 ≤ w → ge1 g_51 w = if w = p1 then (v_1 + 1) else ge1 (fc 33) w := fun w hw => by rw [eg_51]; exact ge1_upd (fc 33) (by omega) hw (by omega) (by omega)
            exact W.vret hx hb hr (fun t9 ht hW => ⟨⟨(cup (cup fc 32 g_48) 33 g_51), rfl, ⟨g_48, g_51, rfl, k_g_48, k_g_51, fun z9 h0 h1 => by rw [ug_48 z9 h0, if_neg (by omega)]; exact n_46f3 z9 h0 h1, fun z9 h0 h1 => by rw [ug_51 z9 h0, if_neg h1], fun j9 h0 h1 => by rw [ug_51 p1 (by omega), if_pos rfl] at h1; exact kp_in (ug_48 (8 * p1 + j9) (by omega)) (by omega) (fun q9 => n_46f4 j9 h0 q9) (fun q9 => n_46f5 j9 q9 (by omega)) (by omega) (by omega)⟩, va_K.moved hW.alike hK, by rw [ht]; exact ⟨hI, hO⟩, by rw [ht]; exact ⟨c_3, c_4, c_5, c_10, c_11, c_12, c_13, c_17, c_27, c_29, c_30, c_32, c_33, c_44⟩⟩, hS.F ht⟩) hS.2.2 dX12_keeps_134
        · refine lv_aload_n hx hb dX12_keeps_51 rfl (lv_at hl 2 rfl) ?_
          refine iz_get (D := (dC, dI)) (ci := 12) (v := .ref (am 32)) (C := RX12) (T := TX12) (N := 49) hx hb hts hin hown hK hO rfl 32 (by decide) hL90 (fun _ h9 => h9) rfl dX12_keeps_52 ?_
          refine lv_bipush (v := kz 8) hx hb dX12_keeps_55 (by decide) ?_
          refine lv_iload_n hx hb dX12_keeps_57 rfl (lv_at hl 3 rfl) ?_
          refine iz_imul hx hb dX12_keeps_58 ?_
          refine lv_iload hx hb dX12_keeps_59 (lv_at hl 0 rfl) ?_
          refine iz_iadd hx hb dX12_keeps_61 ?_
          refine lv_iconst (v := kz 1) hx hb dX12_keeps_62 rfl ?_
          refine iz_isub hx hb dX12_keeps_63 ?_
          refine iz_iald hx hb hK 0 c_32 rfl (by omega) (by decide) dX12_keeps_64 ?_
          obtain ⟨v_52a, v_52b, v_52c⟩ := k_gb (((8 * p1) + k) - 1) (by omega)
          clear v_52c
          obtain ⟨v_52, ev_52⟩ : ∃ z9 : Int, ge1 gb (((8 * p1) + k) - 1) = z9 := ⟨_, rfl⟩
          rw [ev_52] at v_52a v_52b ⊢
          refine lv_iload_n hx hb dX12_keeps_65 rfl (lv_at hl 4 rfl) ?_
          refine iz_le (tgt := 101) hx hb dX12_keeps_66 (by decide) (by unfold rg2; omega) (fun br_53 => ?_) (fun br_53 => ?_)
          · refine lv_aload_n hx hb dX12_keeps_101 rfl (lv_at hl 2 rfl) ?_
            refine iz_get (D := (dC, dI)) (ci := 12) (v := .ref (am 32)) (C := RX12) (T := TX12) (N := 49) hx hb hts hin hown hK hO rfl 32 (by decide) hL90 (fun _ h9 => h9) rfl dX12_keeps_102 ?_
            refine lv_bipush (v := kz 8) hx hb dX12_keeps_105 (by decide) ?_
            refine lv_iload_n hx hb dX12_keeps_107 rfl (lv_at hl 3 rfl) ?_
            refine iz_imul hx hb dX12_keeps_108 ?_
            refine lv_iload hx hb dX12_keeps_109 (lv_at hl 0 rfl) ?_
            refine iz_iadd hx hb dX12_keeps_111 ?_
            refine lv_iload_n hx hb dX12_keeps_112 rfl (lv_at hl 4 rfl) ?_
            refine iz_iast hx hb hK 0 c_32 hS (iv_A hI g32 (by decide)) rfl (by omega) (by decide) dX12_keeps_113 (fun H locs c9 oq hS => ?_)
            have hI := iv_s20 hI g32 k_gb c9 oq (by omega) (by omega) (by decide) (by omega)
            have hO := hO.kept (oq _ (iv_ne0 g32 hM.2.1 (by decide)).symm)
            have c_3 := c_3.kept (oq _ (iv_ne g3 g32 (by decide)))
            have c_4 := c_4.kept (oq _ (iv_ne g4 g32 (by decide)))
            have c_5 := c_5.kept (oq _ (iv_ne g5 g32 (by decide)))
            have c_10 := c_10.kept (oq _ (iv_ne g10 g32 (by decide)))
            have c_11 := c_11.kept (oq _ (iv_ne g11 g32 (by decide)))
            have c_12 := c_12.kept (oq _ (iv_ne g12 g32 (by decide)))
            have c_13 := c_13.kept (oq _ (iv_ne g13 g32 (by decide)))
            have c_17 := c_17.kept (oq _ (iv_ne g17 g32 (by decide)))
            have c_27 := c_27.kept (oq _ (iv_ne g27 g32 (by decide)))
            have c_29 := c_29.kept (oq _ (iv_ne g29 g32 (by decide)))
            have c_30 := c_30.kept (oq _ (iv_ne g30 g32 (by decide)))
            have c_33 := c_33.kept (oq _ (iv_ne g33 g32 (by decide)))
            have c_44 := c_44.kept (oq _ (iv_ne g44 g32 (by decide)))
            have k_g_54 : ok20 X (am 32) 52480 (-2147483648) (2147483647) (upd gb (Int.toNat ((8 * p1) + k)) (kz v1)) := ok20_set k_gb (by omega) (by omega) (by decide) (by omega)
            obtain ⟨g_54, eg_54⟩ : ∃ g9 : Nat → Int32, g9 = upd gb (Int.toNat ((8 * p1) + k)) (kz v1) := ⟨_, rfl⟩
            rw [← eg_54] at c9 k_g_54
            clear oq
            have c_32 := c9
            clear c9
            have ug_54 : ∀ w : Int, 0 ≤ w → ge1 g_54 w = if w = ((8 * p1) + k) then v1 else ge1 gb w := fun w hw => by rw [eg_54]; exact ge1_upd gb (by omega) hw (by omega) (by omega)
            refine lv_aload_n hx hb dX12_keeps_114 rfl (lv_at hl 2 rfl) ?_
            refine iz_get (D := (dC, dI)) (ci := 12) (v := .ref (am 33)) (C := RX12) (T := TX12) (N := 49) hx hb hts hin hown hK hO rfl 33 (by decide) hL93 (fun _ h9 => h9) rfl dX12_keeps_115 ?_
            refine lv_iload_n hx hb dX12_keeps_118 rfl (lv_at hl 3 rfl) ?_
            refine lv_iload_n hx hb dX12_keeps_119 rfl (lv_at hl 1 rfl) ?_
            refine lv_bipush (v := kz 8) hx hb dX12_keeps_120 (by decide) ?_
            refine iz_ge (tgt := 131) hx hb dX12_keeps_122 (by decide) (by unfold rg2; omega) (fun br_55 => ?_) (fun br_55 => ?_)
            · refine lv_bipush (v := kz 8) hx hb dX12_keeps_131 (by decide) ?_
              refine iz_iast hx hb hK 0 c_33 hS (iv_A hI g33 (by decide)) rfl (by omega) (by decide) dX12_keeps_133 (fun H locs c9 oq hS => ?_)
              have hI := iv_s20 hI g33 k_33 c9 oq (by omega) (by omega) (by decide) (by omega)
              have hO := hO.kept (oq _ (iv_ne0 g33 hM.2.1 (by decide)).symm)
              have c_3 := c_3.kept (oq _ (iv_ne g3 g33 (by decide)))
              have c_4 := c_4.kept (oq _ (iv_ne g4 g33 (by decide)))
              have c_5 := c_5.kept (oq _ (iv_ne g5 g33 (by decide)))
              have c_10 := c_10.kept (oq _ (iv_ne g10 g33 (by decide)))
              have c_11 := c_11.kept (oq _ (iv_ne g11 g33 (by decide)))
              have c_12 := c_12.kept (oq _ (iv_ne g12 g33 (by decide)))
              have c_13 := c_13.kept (oq _ (iv_ne g13 g33 (by decide)))
              have c_17 := c_17.kept (oq _ (iv_ne g17 g33 (by decide)))
              have c_27 := c_27.kept (oq _ (iv_ne g27 g33 (by decide)))
              have c_29 := c_29.kept (oq _ (iv_ne g29 g33 (by decide)))
              have c_30 := c_30.kept (oq _ (iv_ne g30 g33 (by decide)))
              have c_32 := c_32.kept (oq _ (iv_ne g32 g33 (by decide)))
              have c_44 := c_44.kept (oq _ (iv_ne g44 g33 (by decide)))
              have k_g_56 : ok20 X (am 33) 6560 (0) (8) (upd (fc 33) (Int.toNat p1) (kz 8)) := ok20_set k_33 (by omega) (by omega) (by decide) (by omega)
              obtain ⟨g_56, eg_56⟩ : ∃ g9 : Nat → Int32, g9 = upd (fc 33) (Int.toNat p1) (kz 8) := ⟨_, rfl⟩
              rw [← eg_56] at c9 k_g_56
              clear oq
              have c_33 := c9
              clear c9
              have ug_56 : ∀ w : Int, 0 ≤ w → ge1 g_56 w = if w = p1 then 8 else ge1 (fc 33) w := fun w hw => by rw [eg_56]; exact ge1_upd (fc 33) (by omega) hw (by omega) (by omega)
              exact W.vret hx hb hr (fun t9 ht hW => ⟨⟨(cup (cup fc 32 g_54) 33 g_56), rfl, ⟨g_54, g_56, rfl, k_g_54, k_g_56, fun z9 h0 h1 => by rw [ug_54 z9 h0, if_neg (by omega)]; exact n_46f3 z9 h0 h1, fun z9 h0 h1 => by rw [ug_56 z9 h0, if_neg h1], fun j9 h0 h1 => by rw [ug_56 p1 (by omega), if_pos rfl] at h1; exact kp_in (ug_54 (8 * p1 + j9) (by omega)) (by omega) (fun q9 => n_46f4 j9 h0 q9) (fun q9 => n_46f5 j9 q9 (by omega)) (by omega) (by omega)⟩, va_K.moved hW.alike hK, by rw [ht]; exact ⟨hI, hO⟩, by rw [ht]; exact ⟨c_3, c_4, c_5, c_10, c_11, c_12, c_13, c_17, c_27, c_29, c_30, c_32, c_33, c_44⟩⟩, hS.F ht⟩) hS.2.2 dX12_keeps_134
            · refine lv_iload_n hx hb dX12_keeps_125 rfl (lv_at hl 1 rfl) ?_
              refine lv_iconst (v := kz 1) hx hb dX12_keeps_126 rfl ?_
              refine iz_iadd hx hb dX12_keeps_127 ?_
              refine lv_goto (tgt := 133) hx hb dX12_keeps_128 (by decide) ?_
              refine iz_iast hx hb hK 0 c_33 hS (iv_A hI g33 (by decide)) rfl (by omega) (by decide) dX12_keeps_133 (fun H locs c9 oq hS => ?_)
              have hI := iv_s20 hI g33 k_33 c9 oq (by omega) (by omega) (by decide) (by omega)
              have hO := hO.kept (oq _ (iv_ne0 g33 hM.2.1 (by decide)).symm)
              have c_3 := c_3.kept (oq _ (iv_ne g3 g33 (by decide)))
              have c_4 := c_4.kept (oq _ (iv_ne g4 g33 (by decide)))
              have c_5 := c_5.kept (oq _ (iv_ne g5 g33 (by decide)))
              have c_10 := c_10.kept (oq _ (iv_ne g10 g33 (by decide)))
              have c_11 := c_11.kept (oq _ (iv_ne g11 g33 (by decide)))
              have c_12 := c_12.kept (oq _ (iv_ne g12 g33 (by decide)))
              have c_13 := c_13.kept (oq _ (iv_ne g13 g33 (by decide)))
              have c_17 := c_17.kept (oq _ (iv_ne g17 g33 (by decide)))
              have c_27 := c_27.kept (oq _ (iv_ne g27 g33 (by decide)))
              have c_29 := c_29.kept (oq _ (iv_ne g29 g33 (by decide)))
              have c_30 := c_30.kept (oq _ (iv_ne g30 g33 (by decide)))
              have c_32 := c_32.kept (oq _ (iv_ne g32 g33 (by decide)))
              have c_44 := c_44.kept (oq _ (iv_ne g44 g33 (by decide)))
              have k_g_57 : ok20 X (am 33) 6560 (0) (8) (upd (fc 33) (Int.toNat p1) (kz (v_1 + 1))) := ok20_set k_33 (by omega) (by omega) (by decide) (by omega)
              obtain ⟨g_57, eg_57⟩ : ∃ g9 : Nat → Int32, g9 = upd (fc 33) (Int.toNat p1) (kz (v_1 + 1)) := ⟨_, rfl⟩
              rw [← eg_57] at c9 k_g_57
              clear oq
              have c_33 := c9
              clear c9
              have ug_57 : ∀ w : Int, 0 ≤ w → ge1 g_57 w = if w = p1 then (v_1 + 1) else ge1 (fc 33) w := fun w hw => by rw [eg_57]; exact ge1_upd (fc 33) (by omega) hw (by omega) (by omega)
              exact W.vret hx hb hr (fun t9 ht hW => ⟨⟨(cup (cup fc 32 g_54) 33 g_57), rfl, ⟨g_54, g_57, rfl, k_g_54, k_g_57, fun z9 h0 h1 => by rw [ug_54 z9 h0, if_neg (by omega)]; exact n_46f3 z9 h0 h1, fun z9 h0 h1 => by rw [ug_57 z9 h0, if_neg h1], fun j9 h0 h1 => by rw [ug_57 p1 (by omega), if_pos rfl] at h1; exact kp_in (ug_54 (8 * p1 + j9) (by omega)) (by omega) (fun q9 => n_46f4 j9 h0 q9) (fun q9 => n_46f5 j9 q9 (by omega)) (by omega) (by omega)⟩, va_K.moved hW.alike hK, by rw [ht]; exact ⟨hI, hO⟩, by rw [ht]; exact ⟨c_3, c_4, c_5, c_10, c_11, c_12, c_13, c_17, c_27, c_29, c_30, c_32, c_33, c_44⟩⟩, hS.F ht⟩) hS.2.2 dX12_keeps_134
          · refine lv_aload_n hx hb dX12_keeps_69 rfl (lv_at hl 2 rfl) ?_
            refine iz_get (D := (dC, dI)) (ci := 12) (v := .ref (am 32)) (C := RX12) (T := TX12) (N := 49) hx hb hts hin hown hK hO rfl 32 (by decide) hL90 (fun _ h9 => h9) rfl dX12_keeps_70 ?_
            refine lv_bipush (v := kz 8) hx hb dX12_keeps_73 (by decide) ?_
            refine lv_iload_n hx hb dX12_keeps_75 rfl (lv_at hl 3 rfl) ?_
            refine iz_imul hx hb dX12_keeps_76 ?_
            refine lv_iload hx hb dX12_keeps_77 (lv_at hl 0 rfl) ?_
            refine iz_iadd hx hb dX12_keeps_79 ?_
            refine lv_aload_n hx hb dX12_keeps_80 rfl (lv_at hl 2 rfl) ?_
            refine iz_get (D := (dC, dI)) (ci := 12) (v := .ref (am 32)) (C := RX12) (T := TX12) (N := 49) hx hb hts hin hown hK hO rfl 32 (by decide) hL90 (fun _ h9 => h9) rfl dX12_keeps_81 ?_
            refine lv_bipush (v := kz 8) hx hb dX12_keeps_84 (by decide) ?_
            refine lv_iload_n hx hb dX12_keeps_86 rfl (lv_at hl 3 rfl) ?_
            refine iz_imul hx hb dX12_keeps_87 ?_
            refine lv_iload hx hb dX12_keeps_88 (lv_at hl 0 rfl) ?_
            refine iz_iadd hx hb dX12_keeps_90 ?_
            refine lv_iconst (v := kz 1) hx hb dX12_keeps_91 rfl ?_
            refine iz_isub hx hb dX12_keeps_92 ?_
            refine iz_iald hx hb hK 0 c_32 rfl (by omega) (by decide) dX12_keeps_93 ?_
            rw [ev_52]
            refine iz_iast hx hb hK 0 c_32 hS (iv_A hI g32 (by decide)) rfl (by omega) (by decide) dX12_keeps_94 (fun H locs c9 oq hS => ?_)
            have hI := iv_s20 hI g32 k_gb c9 oq (by omega) (by omega) (by decide) (by omega)
            have hO := hO.kept (oq _ (iv_ne0 g32 hM.2.1 (by decide)).symm)
            have c_3 := c_3.kept (oq _ (iv_ne g3 g32 (by decide)))
            have c_4 := c_4.kept (oq _ (iv_ne g4 g32 (by decide)))
            have c_5 := c_5.kept (oq _ (iv_ne g5 g32 (by decide)))
            have c_10 := c_10.kept (oq _ (iv_ne g10 g32 (by decide)))
            have c_11 := c_11.kept (oq _ (iv_ne g11 g32 (by decide)))
            have c_12 := c_12.kept (oq _ (iv_ne g12 g32 (by decide)))
            have c_13 := c_13.kept (oq _ (iv_ne g13 g32 (by decide)))
            have c_17 := c_17.kept (oq _ (iv_ne g17 g32 (by decide)))
            have c_27 := c_27.kept (oq _ (iv_ne g27 g32 (by decide)))
            have c_29 := c_29.kept (oq _ (iv_ne g29 g32 (by decide)))
            have c_30 := c_30.kept (oq _ (iv_ne g30 g32 (by decide)))
            have c_33 := c_33.kept (oq _ (iv_ne g33 g32 (by decide)))
            have c_44 := c_44.kept (oq _ (iv_ne g44 g32 (by decide)))
            have k_g_58 : ok20 X (am 32) 52480 (-2147483648) (2147483647) (upd gb (Int.toNat ((8 * p1) + k)) (kz v_52)) := ok20_set k_gb (by omega) (by omega) (by decide) (by omega)
            obtain ⟨g_58, eg_58⟩ : ∃ g9 : Nat → Int32, g9 = upd gb (Int.toNat ((8 * p1) + k)) (kz v_52) := ⟨_, rfl⟩
            rw [← eg_58] at c9 k_g_58
            clear oq
            have c_32 := c9
            clear c9
            have ug_58 : ∀ w : Int, 0 ≤ w → ge1 g_58 w = if w = ((8 * p1) + k) then v_52 else ge1 gb w := fun w hw => by rw [eg_58]; exact ge1_upd gb (by omega) hw (by omega) (by omega)
            refine lv_iinc (v := kz (k + (-1))) (lv' := [(4, .int (kz (k + (-1)))), (3, .int (kz v_1)), (0, .ref o), (1, .int (kz p1)), (2, .int (kz v1))]) hx hb dX12_keeps_95 hl (k := 0) rfl (kz_add k (-1)) (by decide) rfl (fun ls hl => ?_)
            refine lv_goto (tgt := 46) hx hb dX12_keeps_98 (by decide) ?_
            exact ihn_46 (n_46 - 1) (by omega) g_58 (k + (-1)) _ _ _ ⟨by omega, by omega, by omega, (fun z9 h0 h1 => by rw [ug_58 z9 h0, if_neg (by omega)]; exact n_46f3 z9 h0 h1), (fun j9 h0 h1 => by rw [ug_58 _ (by omega), if_neg (by omega)]; exact n_46f4 j9 h0 (by omega)), (fun j9 h0 h1 => by by_cases e9 : j9 = k; rw [e9, ug_58 _ (by omega), if_pos rfl]; have q9 := n_46f4 (k - 1) (by omega) (by omega); rw [show (8 * p1 + (k - 1) : Int) = 8 * p1 + k - 1 by omega] at q9 ⊢; omega; rw [ug_58 _ (by omega), if_neg (by omega)]; exact n_46f5 j9 (by omega) h1), by omega, lv_sub hl [0, 1, 2, 3, 4] rfl, hI, hO, hS, c_3, c_4, c_5, c_10, c_11, c_12, c_13, c_17, c_27, c_29, c_30, c_32, c_33, c_44, k_g_58⟩
    · exact W.vret hx hb hr (fun t9 ht hW => ⟨⟨fc, rfl, ⟨fc 32, fc 33, cup2_self fc, k_32, k_33, fun _ _ _ => rfl, fun _ _ _ => rfl, fun j9 h0 h1 => Or.inr ⟨j9, h0, h1, rfl⟩⟩, va_K.moved hW.alike hK, by rw [ht]; exact ⟨hI, hO⟩, by rw [ht]; exact ⟨c_3, c_4, c_5, c_10, c_11, c_12, c_13, c_17, c_27, c_29, c_30, c_32, c_33, c_44⟩⟩, hS.F ht⟩) hS.2.2 dX12_keeps_31
set_option maxHeartbeats 4000000 in
set_option maxRecDepth 100000 in
/-- X12_goesOn -/
theorem m_goesOn (l : Launch) (dC : Nat → ClassId) (dI : Nat → Nat → Nat) (ca : Nat → ClassId) (A : Nat → Prop) (X : kGh) (o : Nat) (am : Nat → Nat) (zi : Nat → Int) (zl : Nat → Int64) (fc : Nat → Nat → Int32) (hM : mS X A o am) (hz : mZ X am zi) (hk : frk X am fc) (f : Int) (b : Int) (t : Int) (fi : 0 ≤ f ∧ f < zi 2) (bi : 0 ≤ b ∧ b ≤ 3) (bs : b < ge1 (fc 4) f) (ti : 0 ≤ t ∧ t ≤ 40) : Met l yX12_goesOn wsX12_goesOn ({ frames := 2, cells := 0, slots := 0, locals := 51 }) (va_Pc [.ref o, .int (kz f), .int (kz b), .int (kz t)] (fun U => va_K (dC, dI) vwCl (k_tys ca) U ∧ mI (dC, dI) ca A X o am zi zl U.heap ∧ frz (dC, dI) ca am fc U.heap)) (va_Qv (fun (u : Nat → Nat → Int32) => ∃ g : Nat → Int32, u = cup fc 30 g ∧ go fc (zi 28) (zi 34) (zi 2) (zi 9) f b t g) (fun u U => va_K (dC, dI) vwCl (k_tys ca) U ∧ mI (dC, dI) ca A X o am zi zl U.heap ∧ frz (dC, dI) ca am u U.heap) A) 0 0 A := by
  refine Met.ofW (cc := cX12_goesOn) (maxL := 7) (ret := none) (by decide) rfl ?_
  intro p e s m args below meth c s₁ B hml hv
  obtain ⟨rfl, hK, ⟨hI, hO⟩, c_3, c_4, c_5, c_10, c_11, c_12, c_13, c_17, c_27, c_29, c_30, c_32, c_33, c_44⟩ := hv
  have hx := B.exec
  have hb := B.bytes
  have hr := B.returns
  have hts := atoms_spec (ws := wsX12_goesOn) B.pre
  have hown : s.vm.findClass RX12 = some m.cls := findClass_of_methodNamed B.named
  have hin : ∀ w ∈ u_ws RX12 TX12 49, w ∈ wsX12_goesOn := by decide +kernel
  have hL131 := hts (.fieldLink RX12 131 "JoinBenchModel" "forms" "I") (by decide +kernel)
  have hL138 := hts (.fieldLink RX12 138 "JoinBenchModel" "rules" "I") (by decide +kernel)
  have hL82 := hts (.fieldLink RX12 82 "JoinBenchModel" "isCome" "[Z") (by decide +kernel)
  have hL39 := hts (.fieldLink RX12 39 "JoinBenchModel" "begins" "[I") (by decide +kernel)
  have g30 : X.1 (am 30) = (130, 22, 6560, 0, 0) := hM.1 30 _ rfl (by decide)
  have g12 : X.1 (am 12) = (112, 20, 24, 0, 3) := hM.1 12 _ rfl (by decide)
  have w12 : X.2 (am 12) = 0 := hM.2.2.2 12 _ rfl (by decide) (by decide) (by decide)
  have g3 : X.1 (am 3) = (103, 21, 320, 0, 0) := hM.1 3 _ rfl (by decide)
  have g4 : X.1 (am 4) = (104, 20, 40, 0, 8) := hM.1 4 _ rfl (by decide)
  have g5 : X.1 (am 5) = (105, 20, 40, 0, 5) := hM.1 5 _ rfl (by decide)
  have w5 : X.2 (am 5) = 0 := hM.2.2.2 5 _ rfl (by decide) (by decide) (by decide)
  have g10 : X.1 (am 10) = (110, 21, 240, 0, 0) := hM.1 10 _ rfl (by decide)
  have g11 : X.1 (am 11) = (111, 20, 24, 0, 3) := hM.1 11 _ rfl (by decide)
  have w11 : X.2 (am 11) = 0 := hM.2.2.2 11 _ rfl (by decide) (by decide) (by decide)
  have g13 : X.1 (am 13) = (113, 20, 24, 0, 4) := hM.1 13 _ rfl (by decide)
  have w13 : X.2 (am 13) = 0 := hM.2.2.2 13 _ rfl (by decide) (by decide) (by decide)
  have g17 : X.1 (am 17) = (117, 22, 36, 0, 0) := hM.1 17 _ rfl (by decide)
  have g27 : X.1 (am 27) = (127, 21, 40, 0, 0) := hM.1 27 _ rfl (by decide)
  have g29 : X.1 (am 29) = (129, 20, 1600, -2147483648, 2147483647) := hM.1 29 _ rfl (by decide)
  have w29 : X.2 (am 29) = 0 := hM.2.2.2 29 _ rfl (by decide) (by decide) (by decide)
  have g32 : X.1 (am 32) = (132, 20, 52480, -2147483648, 2147483647) := hM.1 32 _ rfl (by decide)
  have w32 : X.2 (am 32) = 0 := hM.2.2.2 32 _ rfl (by decide) (by decide) (by decide)
  have g33 : X.1 (am 33) = (133, 20, 6560, 0, 8) := hM.1 33 _ rfl (by decide)
  have w33 : X.2 (am 33) = 0 := hM.2.2.2 33 _ rfl (by decide) (by decide) (by decide)
  have g44 : X.1 (am 44) = (144, 20, 40, 0, 8) := hM.1 44 _ rfl (by decide)
  have w44 : X.2 (am 44) = 0 := hM.2.2.2 44 _ rfl (by decide) (by decide) (by decide)
  obtain ⟨⟨z1a, z1b⟩, ⟨z2a, z2b⟩, ⟨z9a, z9b⟩, ⟨z20a, z20b⟩, ⟨z21a, z21b⟩, ⟨z22a, z22b⟩, ⟨z26a, z26b⟩, ⟨z28a, z28b⟩, ⟨z34a, z34b⟩, ⟨z35a, z35b⟩, ⟨z38a, z38b⟩, ⟨z39a, z39b⟩, ⟨z46a, z46b⟩, hzA, hzB⟩ := id hz
  obtain ⟨k_4, k_5, k_11, k_12, k_13, k_29, k_32, k_33, k_44⟩ := id hk
  obtain ⟨H, hH⟩ : ∃ H : Heap, H = s.heap := ⟨_, rfl⟩
  have hS : va_S A s.heap H [] := by rw [hH]; exact va_S.rf
  rw [← hH] at hI hO c_3 c_4 c_5 c_10 c_11 c_12 c_13 c_17 c_27 c_29 c_30 c_32 c_33 c_44 ⊢
  clear hH
  have hl := lv_entry ([.ref o, .int (kz f), .int (kz b), .int (kz t)]) (n := 7) (Nat.le_of_ble_eq_true rfl)
  rw [lg_entry_eq]
  generalize (lg_sl ([.ref o, .int (kz f), .int (kz b), .int (kz t)]) ++ List.replicate (7 - (lg_sl ([.ref o, .int (kz f), .int (kz b), .int (kz t)])).length) Slot.unset).toArray = ls at hl ⊢
  have hl : lv_has ls 7 [(0, .ref o), (1, .int (kz f)), (2, .int (kz b)), (3, .int (kz t))] := hl
  have hsz : ∀ f9 : Int, 0 ≤ f9 → f9 < zi 2 → 1 ≤ ge1 (fc 4) f9 := fun f9 h1 h2 => (k_4 f9 (by omega)).2.2 (by omega)
  have hp9 : ∀ g2 q2 : Int, stp fc (zi 28) (zi 34) (zi 2) (zi 9) f b t g2 q2 → 0 ≤ pl g2 (nb fc q2) (ds fc f b t q2) := fun g2 q2 h9 => by have s9 := stp_ok hk hsz (by omega) (by omega) ⟨by omega, by omega⟩ ⟨by omega, by omega⟩ (by omega) h9; have s8 := h9.1; unfold pl; omega
  refine lv_iconst (v := kz 0) hx hb dX12_goesOn_0 rfl ?_
  refine lv_istore (lv' := [(4, .int (kz 0)), (0, .ref o), (1, .int (kz f)), (2, .int (kz b)), (3, .int (kz t))]) hx hb dX12_goesOn_1 hl (by decide) rfl (fun ls hl => ?_)
  refine iz_loopA1 (α := (Nat → Int32)) (P := fun N9 g g1 H locs ls => (0 ≤ g1) ∧ (g1 ≤ 40) ∧ (goI fc (zi 28) (zi 34) (zi 2) (zi 9) f b t g g1 (-1)) ∧ 40 - g1 ≤ (N9 : Int) ∧ lv_has ls 7 [(4, .int (kz g1)), (0, .ref o), (1, .int (kz f)), (2, .int (kz b)), (3, .int (kz t))] ∧ iv (dC, dI) ca A X H ∧ va_at (dC, dI) vwCl (o, .inr (12, mM am zi zl)) H ∧ va_S A s.heap H locs ∧ va_at (dC, dI) vwCl (am 3, .inl (ca 21, 320, .inl (fc 3))) H ∧ va_at (dC, dI) vwCl (am 4, .inl (ca 20, 40, .inl (fc 4))) H ∧ va_at (dC, dI) vwCl (am 5, .inl (ca 20, 40, .inl (fc 5))) H ∧ va_at (dC, dI) vwCl (am 10, .inl (ca 21, 240, .inl (fc 10))) H ∧ va_at (dC, dI) vwCl (am 11, .inl (ca 20, 24, .inl (fc 11))) H ∧ va_at (dC, dI) vwCl (am 12, .inl (ca 20, 24, .inl (fc 12))) H ∧ va_at (dC, dI) vwCl (am 13, .inl (ca 20, 24, .inl (fc 13))) H ∧ va_at (dC, dI) vwCl (am 17, .inl (ca 22, 36, .inl (fc 17))) H ∧ va_at (dC, dI) vwCl (am 27, .inl (ca 21, 40, .inl (fc 27))) H ∧ va_at (dC, dI) vwCl (am 29, .inl (ca 20, 1600, .inl (fc 29))) H ∧ va_at (dC, dI) vwCl (am 30, .inl (ca 22, 6560, .inl g)) H ∧ va_at (dC, dI) vwCl (am 32, .inl (ca 20, 52480, .inl (fc 32))) H ∧ va_at (dC, dI) vwCl (am 33, .inl (ca 20, 6560, .inl (fc 33))) H ∧ va_at (dC, dI) vwCl (am 44, .inl (ca 20, 40, .inl (fc 44))) H) 100000 (fc 30) (x0 := 0) ?_ ⟨by omega, by omega, goI_0, by omega, lv_sub hl [0, 1, 2, 3, 4] rfl, hI, hO, hS, c_3, c_4, c_5, c_10, c_11, c_12, c_13, c_17, c_27, c_29, c_30, c_32, c_33, c_44⟩
  intro n_1 g g1 H locs ls ⟨n_1f0, n_1f1, n_1f2, n_1f3, hl, hI, hO, hS, c_3, c_4, c_5, c_10, c_11, c_12, c_13, c_17, c_27, c_29, c_30, c_32, c_33, c_44⟩ ihn_1
  refine lv_iload hx hb dX12_goesOn_3 (lv_at hl 0 rfl) ?_
  refine lv_aload_n hx hb dX12_goesOn_5 rfl (lv_at hl 1 rfl) ?_
  refine iz_get (D := (dC, dI)) (ci := 12) (v := .int (kz (zi 2))) (C := RX12) (T := TX12) (N := 49) hx hb hts hin hown hK hO rfl 2 (by decide) hL131 (fun _ h9 => h9) rfl dX12_goesOn_6 ?_
  refine iz_ge (tgt := 96) hx hb dX12_goesOn_9 (by decide) (by unfold rg2; omega) (fun br_2 => ?_) (fun br_2 => ?_)
  · exact W.vret hx hb hr (fun t9 ht hW => ⟨⟨(cup fc 30 g), rfl, ⟨g, rfl, goI_end n_1f2 (by omega)⟩, va_K.moved hW.alike hK, by rw [ht]; exact ⟨hI, hO⟩, by rw [ht]; exact ⟨c_3, c_4, c_5, c_10, c_11, c_12, c_13, c_17, c_27, c_29, c_30, c_32, c_33, c_44⟩⟩, hS.F ht⟩) hS.2.2 dX12_goesOn_96
  · refine lv_iconst (v := kz (-1)) hx hb dX12_goesOn_12 rfl ?_
    refine lv_istore (lv' := [(5, .int (kz (-1))), (4, .int (kz g1)), (0, .ref o), (1, .int (kz f)), (2, .int (kz b)), (3, .int (kz t))]) hx hb dX12_goesOn_13 hl (by decide) rfl (fun ls hl => ?_)
    refine iz_loopA1 (α := (Nat → Int32)) (P := fun N9 g q H locs ls => (-1 ≤ q) ∧ (q ≤ 24) ∧ (goI fc (zi 28) (zi 34) (zi 2) (zi 9) f b t g g1 q) ∧ 24 - q ≤ (N9 : Int) ∧ lv_has ls 7 [(5, .int (kz q)), (4, .int (kz g1)), (0, .ref o), (1, .int (kz f)), (2, .int (kz b)), (3, .int (kz t))] ∧ iv (dC, dI) ca A X H ∧ va_at (dC, dI) vwCl (o, .inr (12, mM am zi zl)) H ∧ va_S A s.heap H locs ∧ va_at (dC, dI) vwCl (am 3, .inl (ca 21, 320, .inl (fc 3))) H ∧ va_at (dC, dI) vwCl (am 4, .inl (ca 20, 40, .inl (fc 4))) H ∧ va_at (dC, dI) vwCl (am 5, .inl (ca 20, 40, .inl (fc 5))) H ∧ va_at (dC, dI) vwCl (am 10, .inl (ca 21, 240, .inl (fc 10))) H ∧ va_at (dC, dI) vwCl (am 11, .inl (ca 20, 24, .inl (fc 11))) H ∧ va_at (dC, dI) vwCl (am 12, .inl (ca 20, 24, .inl (fc 12))) H ∧ va_at (dC, dI) vwCl (am 13, .inl (ca 20, 24, .inl (fc 13))) H ∧ va_at (dC, dI) vwCl (am 17, .inl (ca 22, 36, .inl (fc 17))) H ∧ va_at (dC, dI) vwCl (am 27, .inl (ca 21, 40, .inl (fc 27))) H ∧ va_at (dC, dI) vwCl (am 29, .inl (ca 20, 1600, .inl (fc 29))) H ∧ va_at (dC, dI) vwCl (am 30, .inl (ca 22, 6560, .inl g)) H ∧ va_at (dC, dI) vwCl (am 32, .inl (ca 20, 52480, .inl (fc 32))) H ∧ va_at (dC, dI) vwCl (am 33, .inl (ca 20, 6560, .inl (fc 33))) H ∧ va_at (dC, dI) vwCl (am 44, .inl (ca 20, 40, .inl (fc 44))) H) 100000 g (x0 := (-1)) ?_ ⟨by omega, by omega, n_1f2, by omega, lv_sub hl [0, 1, 2, 3, 4, 5] rfl, hI, hO, hS, c_3, c_4, c_5, c_10, c_11, c_12, c_13, c_17, c_27, c_29, c_30, c_32, c_33, c_44⟩
    intro n_3 g q H locs ls ⟨n_3f0, n_3f1, n_3f2, n_3f3, hl, hI, hO, hS, c_3, c_4, c_5, c_10, c_11, c_12, c_13, c_17, c_27, c_29, c_30, c_32, c_33, c_44⟩ ihn_3
    refine lv_iload hx hb dX12_goesOn_15 (lv_at hl 0 rfl) ?_
    refine lv_aload_n hx hb dX12_goesOn_17 rfl (lv_at hl 2 rfl) ?_
    refine iz_get (D := (dC, dI)) (ci := 12) (v := .int (kz (zi 9))) (C := RX12) (T := TX12) (N := 49) hx hb hts hin hown hK hO rfl 9 (by decide) hL138 (fun _ h9 => h9) rfl dX12_goesOn_18 ?_
    refine iz_ge (tgt := 90) hx hb dX12_goesOn_21 (by decide) (by unfold rg2; omega) (fun br_4 => ?_) (fun br_4 => ?_)
    · refine lv_iinc (v := kz (g1 + 1)) (lv' := [(4, .int (kz (g1 + 1))), (5, .int (kz q)), (0, .ref o), (1, .int (kz f)), (2, .int (kz b)), (3, .int (kz t))]) hx hb dX12_goesOn_90 hl (k := 1) rfl (kz_add g1 1) (by decide) rfl (fun ls hl => ?_)
      refine lv_goto (tgt := 3) hx hb dX12_goesOn_93 (by decide) ?_
      exact ihn_1 (n_1 - 1) (by omega) g (g1 + 1) _ _ _ ⟨by omega, by omega, (goI_next n_3f2 (by omega)), by omega, lv_sub hl [0, 2, 3, 4, 5] rfl, hI, hO, hS, c_3, c_4, c_5, c_10, c_11, c_12, c_13, c_17, c_27, c_29, c_30, c_32, c_33, c_44⟩
    · refine lv_aload_n hx hb dX12_goesOn_24 rfl (lv_at hl 2 rfl) ?_
      refine lv_iload_n hx hb dX12_goesOn_25 rfl (lv_at hl 3 rfl) ?_
      refine lv_iload hx hb dX12_goesOn_26 (lv_at hl 1 rfl) ?_
      refine lv_iload hx hb dX12_goesOn_28 (lv_at hl 0 rfl) ?_
      refine vp_callSi (va_Run.run (va_runV (As := [.int (kz f), .int (kz g1), .int (kz q)]) (rest := []) ⟨hx, hb, hml, hown, hts⟩ (m_isBetween l dC dI ca A X o am zi zl (cup fc 30 g) hM hz ⟨k_4, k_5, k_11, k_12, k_13, k_29, k_32, k_33, k_44⟩ f g1 q (by omega) (by omega) (by omega)) (cwV 3 hts gX12_goesOn_X12_isBetween rfl rfl rfl (by decide +kernel) ⟨Nat.le_of_ble_eq_true rfl, Nat.le_of_ble_eq_true rfl⟩) ⟨fun a U g mk q => by obtain ⟨q0, qK, qI⟩ := q; exact ⟨q0, va_K.moved (u := U) (U := U.calling g mk a) (Vm.Alike.refl U.vm) qK, qI⟩, va_recv hK (at_P hO) (ci := 12) (q0 := 0) rfl rfl, fun U hU hW => ⟨rfl, va_K.moved hW.alike hK, by rw [hU]; exact ⟨⟨hI, hO⟩, c_3, c_4, c_5, c_10, c_11, c_12, c_13, c_17, c_27, c_29, c_30, c_32, c_33, c_44⟩⟩⟩ rfl rfl hl.1 rfl (lv_room (Nat.le_of_ble_eq_true rfl)) dX12_goesOn_30 ⟨Nat.le_of_ble_eq_true rfl, Nat.le_of_ble_eq_true rfl⟩)) (fun r_6 hw_5 => ?_)
      rcases hw_5 with ⟨rfl, hw_5⟩ | ⟨rfl, hw_5⟩
      · have hw_5 : bw fc (zi 34) f g1 q := hw_5
        refine iz_nez (tgt := 39) hx hb dX12_goesOn_33 (by decide) (by unfold rg2; omega) (fun _ => ?_) (fun q9 => absurd q9 (by decide))
        refine lv_aload_n hx hb dX12_goesOn_39 rfl (lv_at hl 2 rfl) ?_
        refine lv_iload_n hx hb dX12_goesOn_40 rfl (lv_at hl 3 rfl) ?_
        refine lv_iload_n hx hb dX12_goesOn_41 rfl (lv_at hl 4 rfl) ?_
        refine lv_iload_n hx hb dX12_goesOn_42 rfl (lv_at hl 5 rfl) ?_
        refine lv_iload hx hb dX12_goesOn_43 (lv_at hl 0 rfl) ?_
        refine vp_callSi (va_Run.run (va_runV (As := [.int (kz f), .int (kz b), .int (kz t), .int (kz q)]) (rest := []) ⟨hx, hb, hml, hown, hts⟩ (m_passes l dC dI ca A X o am zi zl (cup fc 30 g) hM hz ⟨k_4, k_5, k_11, k_12, k_13, k_29, k_32, k_33, k_44⟩ f b t q (by omega) (by omega) (by show b ≤ ge1 (fc 4) f; omega) (by omega) (by omega)) (cwV 4 hts gX12_goesOn_X12_passes rfl rfl rfl (by decide +kernel) ⟨Nat.le_of_ble_eq_true rfl, Nat.le_of_ble_eq_true rfl⟩) ⟨fun a U g mk q => by obtain ⟨q0, qK, qI⟩ := q; exact ⟨q0, va_K.moved (u := U) (U := U.calling g mk a) (Vm.Alike.refl U.vm) qK, qI⟩, va_recv hK (at_P hO) (ci := 12) (q0 := 0) rfl rfl, fun U hU hW => ⟨rfl, va_K.moved hW.alike hK, by rw [hU]; exact ⟨⟨hI, hO⟩, c_3, c_4, c_5, c_10, c_11, c_12, c_13, c_17, c_27, c_29, c_30, c_32, c_33, c_44⟩⟩⟩ rfl rfl hl.1 rfl (lv_room (Nat.le_of_ble_eq_true rfl)) dX12_goesOn_45 ⟨Nat.le_of_ble_eq_true rfl, Nat.le_of_ble_eq_true rfl⟩)) (fun r_8 hw_7 => ?_)
        rcases hw_7 with ⟨hw_7, rfl⟩ | ⟨hw_7, rfl⟩
        · have hw_7 : ps fc (zi 28) f b t q := hw_7
          obtain ⟨z_9, ez_9⟩ : ∃ z9 : Int, z9 = ds (cup fc 30 g) f b t q := ⟨_, rfl⟩
          rw [← ez_9]
          have ez_9 : z_9 = ds fc f b t q := ez_9
          have rz_9 := ds_rng (X := X) (am := am) (fc := fc) hk (by omega) (by omega) (by omega) (by omega) hw_7
          rw [← ez_9] at rz_9
          refine lv_istore (lv' := [(6, .int (kz z_9)), (5, .int (kz q)), (4, .int (kz g1)), (0, .ref o), (1, .int (kz f)), (2, .int (kz b)), (3, .int (kz t))]) hx hb dX12_goesOn_48 hl (by decide) rfl (fun ls hl => ?_)
          refine lv_iload hx hb dX12_goesOn_50 (lv_at hl 0 rfl) ?_
          refine iz_ltz (tgt := 84) hx hb dX12_goesOn_52 (by decide) (by unfold rg2; omega) (fun br_10 => ?_) (fun br_10 => ?_)
          · refine lv_iinc (v := kz (q + 1)) (lv' := [(5, .int (kz (q + 1))), (6, .int (kz z_9)), (4, .int (kz g1)), (0, .ref o), (1, .int (kz f)), (2, .int (kz b)), (3, .int (kz t))]) hx hb dX12_goesOn_84 hl (k := 1) rfl (kz_add q 1) (by decide) rfl (fun ls hl => ?_)
            refine lv_goto (tgt := 15) hx hb dX12_goesOn_87 (by decide) ?_
            exact ihn_3 (n_3 - 1) (by omega) g (q + 1) _ _ _ ⟨by omega, by omega, (goI_skip n_3f2 (fun _ q9 => by first | exact absurd q9 hw_7 | omega)), by omega, lv_sub hl [0, 2, 3, 4, 5, 6] rfl, hI, hO, hS, c_3, c_4, c_5, c_10, c_11, c_12, c_13, c_17, c_27, c_29, c_30, c_32, c_33, c_44⟩
          · refine lv_aload_n hx hb dX12_goesOn_55 rfl (lv_at hl 3 rfl) ?_
            refine iz_get (D := (dC, dI)) (ci := 12) (v := .ref (am 30)) (C := RX12) (T := TX12) (N := 49) hx hb hts hin hown hK hO rfl 30 (by decide) hL82 (fun _ h9 => h9) rfl dX12_goesOn_56 ?_
            refine lv_iload hx hb dX12_goesOn_59 (lv_at hl 2 rfl) ?_
            refine lv_iload hx hb dX12_goesOn_61 (lv_at hl 1 rfl) ?_
            refine iz_gez (tgt := 70) hx hb dX12_goesOn_63 (by decide) (by unfold rg2; omega) (fun br_11 => ?_) (fun br_11 => ?_)
            · refine lv_aload_n hx hb dX12_goesOn_70 rfl (lv_at hl 3 rfl) ?_
              refine iz_get (D := (dC, dI)) (ci := 12) (v := .ref (am 12)) (C := RX12) (T := TX12) (N := 49) hx hb hts hin hown hK hO rfl 12 (by decide) hL39 (fun _ h9 => h9) rfl dX12_goesOn_71 ?_
              refine lv_iload hx hb dX12_goesOn_74 (lv_at hl 1 rfl) ?_
              refine iz_iald hx hb hK 0 c_12 rfl (by omega) (by decide) dX12_goesOn_76 ?_
              obtain ⟨v_12a, v_12b, v_12c⟩ := k_12 q (by omega)
              clear v_12c
              obtain ⟨v_12, ev_12⟩ : ∃ z9 : Int, ge1 (fc 12) q = z9 := ⟨_, rfl⟩
              rw [ev_12] at v_12a v_12b ⊢
              refine lv_iload hx hb dX12_goesOn_77 (lv_at hl 0 rfl) ?_
              refine vp_callSi (va_Run.run (va_runS (As := [.int (kz g1), .int (kz v_12), .int (kz z_9)]) (rest := [.ref (am 30)]) ⟨hx, hb, hml, hown, hts⟩ (m_placeOf l g1 v_12 z_9) (va_cwS 3 hts gX12_goesOn_X12_placeOf rfl rfl rfl (by decide +kernel) ⟨Nat.le_of_ble_eq_true rfl, Nat.le_of_ble_eq_true rfl⟩) ⟨fun a U g mk q => q, fun U hU hW => ⟨rfl, trivial⟩⟩ rfl rfl hl.1 rfl (lv_room (Nat.le_of_ble_eq_true rfl)) dX12_goesOn_79 ⟨Nat.le_of_ble_eq_true rfl, Nat.le_of_ble_eq_true rfl⟩)) (fun r_14 hw_13 => ?_)
              obtain ⟨z_15, rfl, z_15h⟩ := hw_13
              refine lv_iconst (v := kz 1) hx hb dX12_goesOn_82 rfl ?_
              refine iz_zast hx hb hK 2 c_30 hS (iv_A hI g30 (by decide)) rfl (by omega) (by decide) dX12_goesOn_83 (fun H locs c9 oq hS => ?_)
              have hI := iv_s22 hI g30 c9 oq
              have hO := hO.kept (oq _ (iv_ne0 g30 hM.2.1 (by decide)).symm)
              have c_3 := c_3.kept (oq _ (iv_ne g3 g30 (by decide)))
              have c_4 := c_4.kept (oq _ (iv_ne g4 g30 (by decide)))
              have c_5 := c_5.kept (oq _ (iv_ne g5 g30 (by decide)))
              have c_10 := c_10.kept (oq _ (iv_ne g10 g30 (by decide)))
              have c_11 := c_11.kept (oq _ (iv_ne g11 g30 (by decide)))
              have c_12 := c_12.kept (oq _ (iv_ne g12 g30 (by decide)))
              have c_13 := c_13.kept (oq _ (iv_ne g13 g30 (by decide)))
              have c_17 := c_17.kept (oq _ (iv_ne g17 g30 (by decide)))
              have c_27 := c_27.kept (oq _ (iv_ne g27 g30 (by decide)))
              have c_29 := c_29.kept (oq _ (iv_ne g29 g30 (by decide)))
              have c_32 := c_32.kept (oq _ (iv_ne g32 g30 (by decide)))
              have c_33 := c_33.kept (oq _ (iv_ne g33 g30 (by decide)))
              have c_44 := c_44.kept (oq _ (iv_ne g44 g30 (by decide)))
              obtain ⟨g_16, eg_16⟩ : ∃ g9 : Nat → Int32, g9 = upd g (Int.toNat z_15) (vp_nar .boolean (kz 1)) := ⟨_, rfl⟩
              rw [← eg_16] at c9
              clear oq
              have c_30 := c9
              clear c9
              have ug_16 : ∀ w : Int, 0 ≤ w → ge1 g_16 w = if w = z_15 then 1 else ge1 g w := fun w hw => by rw [eg_16]; exact ge1_updb g (by omega) hw (by decide)
              refine lv_iinc (v := kz (q + 1)) (lv' := [(5, .int (kz (q + 1))), (6, .int (kz z_9)), (4, .int (kz g1)), (0, .ref o), (1, .int (kz f)), (2, .int (kz b)), (3, .int (kz t))]) hx hb dX12_goesOn_84 hl (k := 1) rfl (kz_add q 1) (by decide) rfl (fun ls hl => ?_)
              refine lv_goto (tgt := 15) hx hb dX12_goesOn_87 (by decide) ?_
              exact ihn_3 (n_3 - 1) (by omega) g_16 (q + 1) _ _ _ ⟨by omega, by omega, (goI_set n_3f2 ⟨by omega, by omega, hw_5, hw_7⟩ (by unfold pl nb; rw [if_neg (show ¬ q < 0 by omega), ev_12, ← ez_9]; omega) (by omega) hp9 ug_16), by omega, lv_sub hl [0, 2, 3, 4, 5, 6] rfl, hI, hO, hS, c_3, c_4, c_5, c_10, c_11, c_12, c_13, c_17, c_27, c_29, c_30, c_32, c_33, c_44⟩
            · refine lv_iconst (v := kz 0) hx hb dX12_goesOn_66 rfl ?_
              refine lv_goto (tgt := 77) hx hb dX12_goesOn_67 (by decide) ?_
              refine lv_iload hx hb dX12_goesOn_77 (lv_at hl 0 rfl) ?_
              refine vp_callSi (va_Run.run (va_runS (As := [.int (kz g1), .int (kz 0), .int (kz z_9)]) (rest := [.ref (am 30)]) ⟨hx, hb, hml, hown, hts⟩ (m_placeOf l g1 0 z_9) (va_cwS 3 hts gX12_goesOn_X12_placeOf rfl rfl rfl (by decide +kernel) ⟨Nat.le_of_ble_eq_true rfl, Nat.le_of_ble_eq_true rfl⟩) ⟨fun a U g mk q => q, fun U hU hW => ⟨rfl, trivial⟩⟩ rfl rfl hl.1 rfl (lv_room (Nat.le_of_ble_eq_true rfl)) dX12_goesOn_79 ⟨Nat.le_of_ble_eq_true rfl, Nat.le_of_ble_eq_true rfl⟩)) (fun r_18 hw_17 => ?_)
              obtain ⟨z_19, rfl, z_19h⟩ := hw_17
              refine lv_iconst (v := kz 1) hx hb dX12_goesOn_82 rfl ?_
              refine iz_zast hx hb hK 2 c_30 hS (iv_A hI g30 (by decide)) rfl (by omega) (by decide) dX12_goesOn_83 (fun H locs c9 oq hS => ?_)
              have hI := iv_s22 hI g30 c9 oq
              have hO := hO.kept (oq _ (iv_ne0 g30 hM.2.1 (by decide)).symm)
              have c_3 := c_3.kept (oq _ (iv_ne g3 g30 (by decide)))
              have c_4 := c_4.kept (oq _ (iv_ne g4 g30 (by decide)))
              have c_5 := c_5.kept (oq _ (iv_ne g5 g30 (by decide)))
              have c_10 := c_10.kept (oq _ (iv_ne g10 g30 (by decide)))
              have c_11 := c_11.kept (oq _ (iv_ne g11 g30 (by decide)))
              have c_12 := c_12.kept (oq _ (iv_ne g12 g30 (by decide)))
              have c_13 := c_13.kept (oq _ (iv_ne g13 g30 (by decide)))
              have c_17 := c_17.kept (oq _ (iv_ne g17 g30 (by decide)))
              have c_27 := c_27.kept (oq _ (iv_ne g27 g30 (by decide)))
              have c_29 := c_29.kept (oq _ (iv_ne g29 g30 (by decide)))
              have c_32 := c_32.kept (oq _ (iv_ne g32 g30 (by decide)))
              have c_33 := c_33.kept (oq _ (iv_ne g33 g30 (by decide)))
              have c_44 := c_44.kept (oq _ (iv_ne g44 g30 (by decide)))
              obtain ⟨g_20, eg_20⟩ : ∃ g9 : Nat → Int32, g9 = upd g (Int.toNat z_19) (vp_nar .boolean (kz 1)) := ⟨_, rfl⟩
              rw [← eg_20] at c9
              clear oq
              have c_30 := c9
              clear c9
              have ug_20 : ∀ w : Int, 0 ≤ w → ge1 g_20 w = if w = z_19 then 1 else ge1 g w := fun w hw => by rw [eg_20]; exact ge1_updb g (by omega) hw (by decide)
              refine lv_iinc (v := kz (q + 1)) (lv' := [(5, .int (kz (q + 1))), (6, .int (kz z_9)), (4, .int (kz g1)), (0, .ref o), (1, .int (kz f)), (2, .int (kz b)), (3, .int (kz t))]) hx hb dX12_goesOn_84 hl (k := 1) rfl (kz_add q 1) (by decide) rfl (fun ls hl => ?_)
              refine lv_goto (tgt := 15) hx hb dX12_goesOn_87 (by decide) ?_
              exact ihn_3 (n_3 - 1) (by omega) g_20 (q + 1) _ _ _ ⟨by omega, by omega, (goI_set n_3f2 ⟨by omega, by omega, hw_5, hw_7⟩ (by unfold pl nb; rw [if_pos (show q < 0 by omega), ← ez_9]; omega) (by omega) hp9 ug_20), by omega, lv_sub hl [0, 2, 3, 4, 5, 6] rfl, hI, hO, hS, c_3, c_4, c_5, c_10, c_11, c_12, c_13, c_17, c_27, c_29, c_30, c_32, c_33, c_44⟩
        · have hw_7 : ¬ ps fc (zi 28) f b t q := hw_7
          refine lv_istore (lv' := [(6, .int (kz (-1))), (5, .int (kz q)), (4, .int (kz g1)), (0, .ref o), (1, .int (kz f)), (2, .int (kz b)), (3, .int (kz t))]) hx hb dX12_goesOn_48 hl (by decide) rfl (fun ls hl => ?_)
          refine lv_iload hx hb dX12_goesOn_50 (lv_at hl 0 rfl) ?_
          refine iz_ltz (tgt := 84) hx hb dX12_goesOn_52 (by decide) (by unfold rg2; omega) (fun _ => ?_) (fun q9 => absurd q9 (by decide))
          refine lv_iinc (v := kz (q + 1)) (lv' := [(5, .int (kz (q + 1))), (6, .int (kz (-1))), (4, .int (kz g1)), (0, .ref o), (1, .int (kz f)), (2, .int (kz b)), (3, .int (kz t))]) hx hb dX12_goesOn_84 hl (k := 1) rfl (kz_add q 1) (by decide) rfl (fun ls hl => ?_)
          refine lv_goto (tgt := 15) hx hb dX12_goesOn_87 (by decide) ?_
          exact ihn_3 (n_3 - 1) (by omega) g (q + 1) _ _ _ ⟨by omega, by omega, (goI_skip n_3f2 (fun _ q9 => by first | exact absurd q9 hw_7 | omega)), by omega, lv_sub hl [0, 2, 3, 4, 5, 6] rfl, hI, hO, hS, c_3, c_4, c_5, c_10, c_11, c_12, c_13, c_17, c_27, c_29, c_30, c_32, c_33, c_44⟩
      · have hw_5 : ¬ bw fc (zi 34) f g1 q := hw_5
        refine iz_nez (tgt := 39) hx hb dX12_goesOn_33 (by decide) (by unfold rg2; omega) (fun q9 => absurd q9 (by decide)) (fun _ => ?_)
        refine lv_goto (tgt := 84) hx hb dX12_goesOn_36 (by decide) ?_
        refine lv_iinc (v := kz (q + 1)) (lv' := [(5, .int (kz (q + 1))), (4, .int (kz g1)), (0, .ref o), (1, .int (kz f)), (2, .int (kz b)), (3, .int (kz t))]) hx hb dX12_goesOn_84 hl (k := 0) rfl (kz_add q 1) (by decide) rfl (fun ls hl => ?_)
        refine lv_goto (tgt := 15) hx hb dX12_goesOn_87 (by decide) ?_
        exact ihn_3 (n_3 - 1) (by omega) g (q + 1) _ _ _ ⟨by omega, by omega, (goI_skip n_3f2 (fun q9 _ => hw_5 q9)), by omega, lv_sub hl [0, 1, 2, 3, 4, 5] rfl, hI, hO, hS, c_3, c_4, c_5, c_10, c_11, c_12, c_13, c_17, c_27, c_29, c_30, c_32, c_33, c_44⟩
