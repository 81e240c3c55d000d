set_option maxHeartbeats 4000000 in
set_option maxRecDepth 100000 in
/-- X12_partings -/
theorem m_partings (l : Launch) (dC : Nat → ClassId) (dI : Nat → Nat → Nat) (ca : Nat → ClassId) (A : Nat → Prop) (X : kGh) (o : Nat) (am : Nat → Nat) (zi : Nat → Int) (zl : Nat → Int64) (fc : Nat → Nat → Int32) (hM : mS X A o am) (hz : mZ X am zi) (hk : frk X am fc) : Met l yX12_partings wsX12_partings ({ frames := 4, cells := 0, slots := 0, locals := 100 }) (va_Pc [.ref o] (fun U => va_K (dC, dI) vwCl (k_tys ca) U ∧ mI (dC, dI) ca A X o am zi zl U.heap ∧ frz (dC, dI) ca am fc U.heap)) (va_Ql (fun (r : Int64) (u : Nat → Nat → Int32) => ∃ gc gb gm : Nat → Int32, u = cup (cup (cup fc 30 gc) 32 gb) 33 gm ∧ ok20 X (am 32) 52480 (-2147483648) (2147483647) gb ∧ ok20 X (am 33) 6560 (0) (8) gm ∧ rc fc (zi 28) (zi 34) (zi 2) (zi 9) gc ∧ ∀ f9 b9 t9 : Int, (0 ≤ f9 ∧ f9 < zi 2) → (0 ≤ b9 ∧ b9 ≤ 3) → (0 ≤ t9 ∧ t9 ≤ zi 28) → ¬ ge1 gc (pl f9 b9 t9) = 0 → ∀ w9 : Int, 0 ≤ w9 → w9 < ge1 gm (pl f9 b9 t9) → ev1 (cup fc 33 gm) (zi 28) (zi 34) (zi 2) (zi 9) f9 b9 t9 (ge1 gb (8 * pl f9 b9 t9 + w9))) (fun u U => va_K (dC, dI) vwCl (k_tys ca) U ∧ mI (dC, dI) ca A X o am zi zl U.heap ∧ frz (dC, dI) ca am u U.heap) A) 0 0 A := by
  refine Met.ofW (cc := cX12_partings) (maxL := 4) (ret := (some .long)) (by decide) rfl ?_
  intro p e s m args below meth c s₁ B hml hv
  obtain ⟨rfl, hK, ⟨hI, hO⟩, c_3, c_4, c_5, c_10, c_11, c_12, c_13, c_17, c_27, c_29, c_30, c_32, c_33, c_44⟩ := hv
  have hx := B.exec
  have hb := B.bytes
  have hr := B.returns
  have hts := atoms_spec (ws := wsX12_partings) B.pre
  have hown : s.vm.findClass RX12 = some m.cls := findClass_of_methodNamed B.named
  have hin : ∀ w ∈ u_ws RX12 TX12 49, w ∈ wsX12_partings := by decide +kernel
  have hL175 := hts (.fieldLink RX12 175 "JoinBenchModel" "lineSize" "I") (by decide +kernel)
  have hL131 := hts (.fieldLink RX12 131 "JoinBenchModel" "forms" "I") (by decide +kernel)
  have hL82 := hts (.fieldLink RX12 82 "JoinBenchModel" "isCome" "[Z") (by decide +kernel)
  have hL85 := hts (.fieldLink RX12 85 "JoinBenchModel" "ways" "[J") (by decide +kernel)
  have g30 : X.1 (am 30) = (130, 22, 6560, 0, 0) := hM.1 30 _ rfl (by decide)
  have g31 : X.1 (am 31) = (131, 23, 6560, 0, 0) := hM.1 31 _ rfl (by decide)
  have g3 : X.1 (am 3) = (103, 21, 320, 0, 0) := hM.1 3 _ rfl (by decide)
  have g4 : X.1 (am 4) = (104, 20, 40, 0, 8) := hM.1 4 _ rfl (by decide)
  have g5 : X.1 (am 5) = (105, 20, 40, 0, 5) := hM.1 5 _ rfl (by decide)
  have w5 : X.2 (am 5) = 0 := hM.2.2.2 5 _ rfl (by decide) (by decide) (by decide)
  have g10 : X.1 (am 10) = (110, 21, 240, 0, 0) := hM.1 10 _ rfl (by decide)
  have g11 : X.1 (am 11) = (111, 20, 24, 0, 3) := hM.1 11 _ rfl (by decide)
  have w11 : X.2 (am 11) = 0 := hM.2.2.2 11 _ rfl (by decide) (by decide) (by decide)
  have g12 : X.1 (am 12) = (112, 20, 24, 0, 3) := hM.1 12 _ rfl (by decide)
  have w12 : X.2 (am 12) = 0 := hM.2.2.2 12 _ rfl (by decide) (by decide) (by decide)
  have g13 : X.1 (am 13) = (113, 20, 24, 0, 4) := hM.1 13 _ rfl (by decide)
  have w13 : X.2 (am 13) = 0 := hM.2.2.2 13 _ rfl (by decide) (by decide) (by decide)
  have g17 : X.1 (am 17) = (117, 22, 36, 0, 0) := hM.1 17 _ rfl (by decide)
  have g27 : X.1 (am 27) = (127, 21, 40, 0, 0) := hM.1 27 _ rfl (by decide)
  have g29 : X.1 (am 29) = (129, 20, 1600, -2147483648, 2147483647) := hM.1 29 _ rfl (by decide)
  have w29 : X.2 (am 29) = 0 := hM.2.2.2 29 _ rfl (by decide) (by decide) (by decide)
  have g32 : X.1 (am 32) = (132, 20, 52480, -2147483648, 2147483647) := hM.1 32 _ rfl (by decide)
  have w32 : X.2 (am 32) = 0 := hM.2.2.2 32 _ rfl (by decide) (by decide) (by decide)
  have g33 : X.1 (am 33) = (133, 20, 6560, 0, 8) := hM.1 33 _ rfl (by decide)
  have w33 : X.2 (am 33) = 0 := hM.2.2.2 33 _ rfl (by decide) (by decide) (by decide)
  have g44 : X.1 (am 44) = (144, 20, 40, 0, 8) := hM.1 44 _ rfl (by decide)
  have w44 : X.2 (am 44) = 0 := hM.2.2.2 44 _ rfl (by decide) (by decide) (by decide)
  obtain ⟨⟨z1a, z1b⟩, ⟨z2a, z2b⟩, ⟨z9a, z9b⟩, ⟨z20a, z20b⟩, ⟨z21a, z21b⟩, ⟨z22a, z22b⟩, ⟨z26a, z26b⟩, ⟨z28a, z28b⟩, ⟨z34a, z34b⟩, ⟨z35a, z35b⟩, ⟨z38a, z38b⟩, ⟨z39a, z39b⟩, ⟨z46a, z46b⟩, hzA, hzB⟩ := id hz
  obtain ⟨k_4, k_5, k_11, k_12, k_13, k_29, k_32, k_33, k_44⟩ := id hk
  obtain ⟨H, hH⟩ : ∃ H : Heap, H = s.heap := ⟨_, rfl⟩
  have hS : va_S A s.heap H [] := by rw [hH]; exact va_S.rf
  rw [← hH] at hI hO c_3 c_4 c_5 c_10 c_11 c_12 c_13 c_17 c_27 c_29 c_30 c_32 c_33 c_44 ⊢
  clear hH
  have hl := lv_entry ([.ref o]) (n := 4) (Nat.le_of_ble_eq_true rfl)
  rw [lg_entry_eq]
  generalize (lg_sl ([.ref o]) ++ List.replicate (4 - (lg_sl ([.ref o])).length) Slot.unset).toArray = ls at hl ⊢
  have hl : lv_has ls 4 [(0, .ref o)] := hl
  have hsz : ∀ f9 : Int, 0 ≤ f9 → f9 < zi 2 → 1 ≤ ge1 (fc 4) f9 := fun f9 h1 h2 => (k_4 f9 (by omega)).2.2 (by omega)
  refine lv_aload_n hx hb dX12_partings_0 rfl (lv_at hl 0 rfl) ?_
  refine va_callv (va_runV (As := []) (rest := []) ⟨hx, hb, hml, hown, hts⟩ (m_reaches l dC dI ca A X o am zi zl fc hM hz ⟨k_4, k_5, k_11, k_12, k_13, k_29, k_32, k_33, k_44⟩) (cwV 0 hts gX12_partings_X12_reaches rfl rfl rfl (by decide +kernel) ⟨Nat.le_of_ble_eq_true rfl, Nat.le_of_ble_eq_true rfl⟩) ⟨fun a U g mk q => by obtain ⟨q0, qK, qI⟩ := q; exact ⟨q0, va_K.moved (u := U) (U := U.calling g mk a) (Vm.Alike.refl U.vm) qK, qI⟩, va_recv hK (at_P hO) (ci := 12) (q0 := 0) rfl rfl, fun U hU hW => ⟨rfl, va_K.moved hW.alike hK, by rw [hU]; exact ⟨⟨hI, hO⟩, c_3, c_4, c_5, c_10, c_11, c_12, c_13, c_17, c_27, c_29, c_30, c_32, c_33, c_44⟩⟩⟩ rfl rfl hl.1 rfl (lv_room (Nat.le_of_ble_eq_true rfl)) dX12_partings_1 ⟨Nat.le_of_ble_eq_true rfl, Nat.le_of_ble_eq_true rfl⟩) hS (fun q _ h => h) (fun q h => h) (fun u t9 H locs ht hvm hw_1 hB hz1 hk1 hS => ?_)
  obtain ⟨-, ⟨hI, hO⟩, c_3, c_4, c_5, c_10, c_11, c_12, c_13, c_17, c_27, c_29, c_30, c_32, c_33, c_44⟩ := hB
  rw [ht] at hI hO c_3 c_4 c_5 c_10 c_11 c_12 c_13 c_17 c_27 c_29 c_30 c_32 c_33 c_44
  clear ht hvm hz1 hk1
  obtain ⟨g_3, rfl, x_g_3⟩ := hw_1
  have c_3 : va_at (dC, dI) vwCl (am 3, .inl (ca 21, 320, .inl (fc 3))) H := c_3
  have c_4 : va_at (dC, dI) vwCl (am 4, .inl (ca 20, 40, .inl (fc 4))) H := c_4
  have c_5 : va_at (dC, dI) vwCl (am 5, .inl (ca 20, 40, .inl (fc 5))) H := c_5
  have c_10 : va_at (dC, dI) vwCl (am 10, .inl (ca 21, 240, .inl (fc 10))) H := c_10
  have c_11 : va_at (dC, dI) vwCl (am 11, .inl (ca 20, 24, .inl (fc 11))) H := c_11
  have c_12 : va_at (dC, dI) vwCl (am 12, .inl (ca 20, 24, .inl (fc 12))) H := c_12
  have c_13 : va_at (dC, dI) vwCl (am 13, .inl (ca 20, 24, .inl (fc 13))) H := c_13
  have c_17 : va_at (dC, dI) vwCl (am 17, .inl (ca 22, 36, .inl (fc 17))) H := c_17
  have c_27 : va_at (dC, dI) vwCl (am 27, .inl (ca 21, 40, .inl (fc 27))) H := c_27
  have c_29 : va_at (dC, dI) vwCl (am 29, .inl (ca 20, 1600, .inl (fc 29))) H := c_29
  have c_30 : va_at (dC, dI) vwCl (am 30, .inl (ca 22, 6560, .inl g_3)) H := c_30
  have c_32 : va_at (dC, dI) vwCl (am 32, .inl (ca 20, 52480, .inl (fc 32))) H := c_32
  have c_33 : va_at (dC, dI) vwCl (am 33, .inl (ca 20, 6560, .inl (fc 33))) H := c_33
  have c_44 : va_at (dC, dI) vwCl (am 44, .inl (ca 20, 40, .inl (fc 44))) H := c_44
  refine lv_aload_n hx hb dX12_partings_4 rfl (lv_at hl 0 rfl) ?_
  refine iz_get (D := (dC, dI)) (ci := 12) (v := .int (kz (zi 28))) (C := RX12) (T := TX12) (N := 49) hx hb hts hin hown hK hO rfl 28 (by decide) hL175 (fun _ h9 => h9) rfl dX12_partings_5 ?_
  refine lv_istore_n (lv' := [(1, .int (kz (zi 28))), (0, .ref o)]) hx hb dX12_partings_8 rfl hl (by decide) rfl (fun ls hl => ?_)
  refine iz_loopA1 (α := (Nat → Int32) × (Nat → Int32)) (P := fun N9 fn9 t1 H locs ls => (-1 ≤ t1) ∧ (t1 ≤ zi 28) ∧ (en fc (zi 28) (zi 34) (zi 2) (zi 9) g_3 fn9.1 fn9.2 t1 0 0) ∧ t1 + 1 ≤ (N9 : Int) ∧ lv_has ls 4 [(1, .int (kz t1)), (0, .ref o)] ∧ iv (dC, dI) ca A X H ∧ va_at (dC, dI) vwCl (o, .inr (12, mM am zi zl)) H ∧ va_S A s.heap H locs ∧ va_at (dC, dI) vwCl (am 3, .inl (ca 21, 320, .inl (fc 3))) H ∧ va_at (dC, dI) vwCl (am 4, .inl (ca 20, 40, .inl (fc 4))) H ∧ va_at (dC, dI) vwCl (am 5, .inl (ca 20, 40, .inl (fc 5))) H ∧ va_at (dC, dI) vwCl (am 10, .inl (ca 21, 240, .inl (fc 10))) H ∧ va_at (dC, dI) vwCl (am 11, .inl (ca 20, 24, .inl (fc 11))) H ∧ va_at (dC, dI) vwCl (am 12, .inl (ca 20, 24, .inl (fc 12))) H ∧ va_at (dC, dI) vwCl (am 13, .inl (ca 20, 24, .inl (fc 13))) H ∧ va_at (dC, dI) vwCl (am 17, .inl (ca 22, 36, .inl (fc 17))) H ∧ va_at (dC, dI) vwCl (am 27, .inl (ca 21, 40, .inl (fc 27))) H ∧ va_at (dC, dI) vwCl (am 29, .inl (ca 20, 1600, .inl (fc 29))) H ∧ va_at (dC, dI) vwCl (am 30, .inl (ca 22, 6560, .inl g_3)) H ∧ va_at (dC, dI) vwCl (am 32, .inl (ca 20, 52480, .inl fn9.1)) H ∧ va_at (dC, dI) vwCl (am 33, .inl (ca 20, 6560, .inl fn9.2)) H ∧ va_at (dC, dI) vwCl (am 44, .inl (ca 20, 40, .inl (fc 44))) H ∧ ok20 X (am 32) 52480 (-2147483648) (2147483647) fn9.1 ∧ ok20 X (am 33) 6560 (0) (8) fn9.2) 100000 ((fc 32), (fc 33)) (x0 := zi 28) ?_ ⟨by omega, by omega, en_0, by omega, lv_sub hl [0, 1] rfl, hI, hO, hS, c_3, c_4, c_5, c_10, c_11, c_12, c_13, c_17, c_27, c_29, c_30, c_32, c_33, c_44, k_32, k_33⟩
  intro n_4 ⟨gb, gm⟩ t1 H locs ls ⟨n_4f0, n_4f1, n_4f2, n_4f3, hl, hI, hO, hS, c_3, c_4, c_5, c_10, c_11, c_12, c_13, c_17, c_27, c_29, c_30, c_32, c_33, c_44, k_gb, k_gm⟩ ihn_4
  have n_4f2 : en fc (zi 28) (zi 34) (zi 2) (zi 9) g_3 gb gm t1 0 0 := n_4f2
  have c_32 : va_at (dC, dI) vwCl (am 32, .inl (ca 20, 52480, .inl gb)) H := c_32
  have k_gb : ok20 X (am 32) 52480 (-2147483648) (2147483647) gb := k_gb
  have c_33 : va_at (dC, dI) vwCl (am 33, .inl (ca 20, 6560, .inl gm)) H := c_33
  have k_gm : ok20 X (am 33) 6560 (0) (8) gm := k_gm
  refine lv_iload_n hx hb dX12_partings_9 rfl (lv_at hl 0 rfl) ?_
  refine iz_ltz (tgt := 69) hx hb dX12_partings_10 (by decide) (by unfold rg2; omega) (fun br_5 => ?_) (fun br_5 => ?_)
  · refine lv_lconst (v := 0) hx hb dX12_partings_69 (by decide) ?_
    refine lv_lstore_n (lv' := [(1, .long 0), (0, .ref o)]) hx hb dX12_partings_70 rfl hl (by decide) rfl (fun ls hl => ?_)
    refine lv_iconst (v := kz 0) hx hb dX12_partings_71 rfl ?_
    refine lv_istore_n (lv' := [(3, .int (kz 0)), (1, .long 0), (0, .ref o)]) hx hb dX12_partings_72 rfl hl (by decide) rfl (fun ls hl => ?_)
    refine iz_loopA1 (α := Int64) (P := fun N9 sm f2 H locs ls => (0 ≤ f2) ∧ (f2 ≤ 40) ∧ 40 - f2 ≤ (N9 : Int) ∧ lv_has ls 4 [(3, .int (kz f2)), (1, .long sm), (0, .ref o)] ∧ iv (dC, dI) ca A X H ∧ va_at (dC, dI) vwCl (o, .inr (12, mM am zi zl)) H ∧ va_S A s.heap H locs ∧ va_at (dC, dI) vwCl (am 3, .inl (ca 21, 320, .inl (fc 3))) H ∧ va_at (dC, dI) vwCl (am 4, .inl (ca 20, 40, .inl (fc 4))) H ∧ va_at (dC, dI) vwCl (am 5, .inl (ca 20, 40, .inl (fc 5))) H ∧ va_at (dC, dI) vwCl (am 10, .inl (ca 21, 240, .inl (fc 10))) H ∧ va_at (dC, dI) vwCl (am 11, .inl (ca 20, 24, .inl (fc 11))) H ∧ va_at (dC, dI) vwCl (am 12, .inl (ca 20, 24, .inl (fc 12))) H ∧ va_at (dC, dI) vwCl (am 13, .inl (ca 20, 24, .inl (fc 13))) H ∧ va_at (dC, dI) vwCl (am 17, .inl (ca 22, 36, .inl (fc 17))) H ∧ va_at (dC, dI) vwCl (am 27, .inl (ca 21, 40, .inl (fc 27))) H ∧ va_at (dC, dI) vwCl (am 29, .inl (ca 20, 1600, .inl (fc 29))) H ∧ va_at (dC, dI) vwCl (am 30, .inl (ca 22, 6560, .inl g_3)) H ∧ va_at (dC, dI) vwCl (am 32, .inl (ca 20, 52480, .inl gb)) H ∧ va_at (dC, dI) vwCl (am 33, .inl (ca 20, 6560, .inl gm)) H ∧ va_at (dC, dI) vwCl (am 44, .inl (ca 20, 40, .inl (fc 44))) H) 100000 0 (x0 := 0) ?_ ⟨by omega, by omega, by omega, lv_sub hl [0, 1, 2] rfl, hI, hO, hS, c_3, c_4, c_5, c_10, c_11, c_12, c_13, c_17, c_27, c_29, c_30, c_32, c_33, c_44⟩
    intro n_6 sm f2 H locs ls ⟨n_6f0, n_6f1, n_6f2, hl, hI, hO, hS, c_3, c_4, c_5, c_10, c_11, c_12, c_13, c_17, c_27, c_29, c_30, c_32, c_33, c_44⟩ ihn_6
    refine lv_iload_n hx hb dX12_partings_73 rfl (lv_at hl 0 rfl) ?_
    refine lv_aload_n hx hb dX12_partings_74 rfl (lv_at hl 2 rfl) ?_
    refine iz_get (D := (dC, dI)) (ci := 12) (v := .int (kz (zi 2))) (C := RX12) (T := TX12) (N := 49) hx hb hts hin hown hK hO rfl 2 (by decide) hL131 (fun _ h9 => h9) rfl dX12_partings_75 ?_
    refine iz_ge (tgt := 103) hx hb dX12_partings_78 (by decide) (by unfold rg2; omega) (fun br_7 => ?_) (fun br_7 => ?_)
    · refine lv_lload_n hx hb dX12_partings_103 rfl (lv_at hl 1 rfl) ?_
      exact W.lret (v := sm) hx hb hr (fun t9 ht hW => ⟨⟨sm, (cup (cup (cup fc 30 g_3) 32 gb) 33 gm), rfl, ⟨g_3, gb, gm, rfl, k_gb, k_gm, x_g_3, fun f9 b9 t9 h1 h2 h3 h5 => n_4f2 f9 b9 t9 h1 h2 h3 (by omega) h5⟩, va_K.moved hW.alike hK, by rw [ht]; exact ⟨hI, hO⟩, by rw [ht]; exact ⟨c_3, c_4, c_5, c_10, c_11, c_12, c_13, c_17, c_27, c_29, c_30, c_32, c_33, c_44⟩⟩, hS.F ht⟩) hS.2.2 dX12_partings_104
    · refine lv_lload_n hx hb dX12_partings_81 rfl (lv_at hl 1 rfl) ?_
      refine lv_aload_n hx hb dX12_partings_82 rfl (lv_at hl 2 rfl) ?_
      refine iz_get (D := (dC, dI)) (ci := 12) (v := .ref (am 31)) (C := RX12) (T := TX12) (N := 49) hx hb hts hin hown hK hO rfl 31 (by decide) hL85 (fun _ h9 => h9) rfl dX12_partings_83 ?_
      refine lv_iload_n hx hb dX12_partings_86 rfl (lv_at hl 0 rfl) ?_
      refine lv_iconst (v := kz 0) hx hb dX12_partings_87 rfl ?_
      refine lv_iconst (v := kz 0) hx hb dX12_partings_88 rfl ?_
      refine vp_callSi (va_Run.run (va_runS (As := [.int (kz f2), .int (kz 0), .int (kz 0)]) (rest := [.ref (am 31), .long sm]) ⟨hx, hb, hml, hown, hts⟩ (m_placeOf l f2 0 0) (va_cwS 3 hts gX12_partings_X12_placeOf rfl rfl rfl (by decide +kernel) ⟨Nat.le_of_ble_eq_true rfl, Nat.le_of_ble_eq_true rfl⟩) ⟨fun a U g mk q => q, fun U hU hW => ⟨rfl, trivial⟩⟩ rfl rfl hl.1 rfl (lv_room (Nat.le_of_ble_eq_true rfl)) dX12_partings_89 ⟨Nat.le_of_ble_eq_true rfl, Nat.le_of_ble_eq_true rfl⟩)) (fun r_9 hw_8 => ?_)
      obtain ⟨z_10, rfl, z_10h⟩ := hw_8
      obtain ⟨f31_11, c_f31_11⟩ := iv_o23 hI g31
      refine iz_lald hx hb hK 3 c_f31_11 rfl (by omega) (by decide) dX12_partings_92 ?_
      refine lv_topl (fun y_12 ey_12 => ?_)
      refine vp_callSl (va_Run.run (va_runS (As := [.long sm, .long y_12]) (rest := []) ⟨hx, hb, hml, hown, hts⟩ (m_plus l sm y_12) (va_cwS 2 hts gX12_partings_X12_plus rfl rfl rfl (by decide +kernel) ⟨Nat.le_of_ble_eq_true rfl, Nat.le_of_ble_eq_true rfl⟩) ⟨fun a U g mk q => q, fun U hU hW => ⟨rfl, trivial⟩⟩ rfl rfl hl.1 rfl (lv_room (Nat.le_of_ble_eq_true rfl)) dX12_partings_93 ⟨Nat.le_of_ble_eq_true rfl, Nat.le_of_ble_eq_true rfl⟩)) (fun r_14 hw_13 => ?_)
      refine lv_lstore_n (lv' := [(1, .long r_14), (3, .int (kz f2)), (0, .ref o)]) hx hb dX12_partings_96 rfl hl (by decide) rfl (fun ls hl => ?_)
      refine lv_iinc (v := kz (f2 + 1)) (lv' := [(3, .int (kz (f2 + 1))), (1, .long r_14), (0, .ref o)]) hx hb dX12_partings_97 hl (k := 1) rfl (kz_add f2 1) (by decide) rfl (fun ls hl => ?_)
      refine lv_goto (tgt := 73) hx hb dX12_partings_100 (by decide) ?_
      exact ihn_6 (n_6 - 1) (by omega) r_14 (f2 + 1) _ _ _ ⟨by omega, by omega, by omega, lv_sub hl [0, 1, 2] rfl, hI, hO, hS, c_3, c_4, c_5, c_10, c_11, c_12, c_13, c_17, c_27, c_29, c_30, c_32, c_33, c_44⟩
  · refine lv_iconst (v := kz 0) hx hb dX12_partings_13 rfl ?_
    refine lv_istore_n (lv' := [(2, .int (kz 0)), (1, .int (kz t1)), (0, .ref o)]) hx hb dX12_partings_14 rfl hl (by decide) rfl (fun ls hl => ?_)
    refine iz_loopA1 (α := (Nat → Int32) × (Nat → Int32)) (P := fun N9 fn9 f1 H locs ls => (0 ≤ f1) ∧ (f1 ≤ 40) ∧ (en fc (zi 28) (zi 34) (zi 2) (zi 9) g_3 fn9.1 fn9.2 t1 f1 0) ∧ 40 - f1 ≤ (N9 : Int) ∧ lv_has ls 4 [(2, .int (kz f1)), (1, .int (kz t1)), (0, .ref o)] ∧ iv (dC, dI) ca A X H ∧ va_at (dC, dI) vwCl (o, .inr (12, mM am zi zl)) H ∧ va_S A s.heap H locs ∧ va_at (dC, dI) vwCl (am 3, .inl (ca 21, 320, .inl (fc 3))) H ∧ va_at (dC, dI) vwCl (am 4, .inl (ca 20, 40, .inl (fc 4))) H ∧ va_at (dC, dI) vwCl (am 5, .inl (ca 20, 40, .inl (fc 5))) H ∧ va_at (dC, dI) vwCl (am 10, .inl (ca 21, 240, .inl (fc 10))) H ∧ va_at (dC, dI) vwCl (am 11, .inl (ca 20, 24, .inl (fc 11))) H ∧ va_at (dC, dI) vwCl (am 12, .inl (ca 20, 24, .inl (fc 12))) H ∧ va_at (dC, dI) vwCl (am 13, .inl (ca 20, 24, .inl (fc 13))) H ∧ va_at (dC, dI) vwCl (am 17, .inl (ca 22, 36, .inl (fc 17))) H ∧ va_at (dC, dI) vwCl (am 27, .inl (ca 21, 40, .inl (fc 27))) H ∧ va_at (dC, dI) vwCl (am 29, .inl (ca 20, 1600, .inl (fc 29))) H ∧ va_at (dC, dI) vwCl (am 30, .inl (ca 22, 6560, .inl g_3)) H ∧ va_at (dC, dI) vwCl (am 32, .inl (ca 20, 52480, .inl fn9.1)) H ∧ va_at (dC, dI) vwCl (am 33, .inl (ca 20, 6560, .inl fn9.2)) H ∧ va_at (dC, dI) vwCl (am 44, .inl (ca 20, 40, .inl (fc 44))) H ∧ ok20 X (am 32) 52480 (-2147483648) (2147483647) fn9.1 ∧ ok20 X (am 33) 6560 (0) (8) fn9.2) 100000 (gb, gm) (x0 := 0) ?_ ⟨by omega, by omega, n_4f2, by omega, lv_sub hl [0, 1, 2] rfl, hI, hO, hS, c_3, c_4, c_5, c_10, c_11, c_12, c_13, c_17, c_27, c_29, c_30, c_32, c_33, c_44, k_gb, k_gm⟩
    intro n_15 ⟨gb, gm⟩ f1 H locs ls ⟨n_15f0, n_15f1, n_15f2, n_15f3, hl, hI, hO, hS, c_3, c_4, c_5, c_10, c_11, c_12, c_13, c_17, c_27, c_29, c_30, c_32, c_33, c_44, k_gb, k_gm⟩ ihn_15
    have n_15f2 : en fc (zi 28) (zi 34) (zi 2) (zi 9) g_3 gb gm t1 f1 0 := n_15f2
    have c_32 : va_at (dC, dI) vwCl (am 32, .inl (ca 20, 52480, .inl gb)) H := c_32
    have k_gb : ok20 X (am 32) 52480 (-2147483648) (2147483647) gb := k_gb
    have c_33 : va_at (dC, dI) vwCl (am 33, .inl (ca 20, 6560, .inl gm)) H := c_33
    have k_gm : ok20 X (am 33) 6560 (0) (8) gm := k_gm
    refine lv_iload_n hx hb dX12_partings_15 rfl (lv_at hl 0 rfl) ?_
    refine lv_aload_n hx hb dX12_partings_16 rfl (lv_at hl 2 rfl) ?_
    refine iz_get (D := (dC, dI)) (ci := 12) (v := .int (kz (zi 2))) (C := RX12) (T := TX12) (N := 49) hx hb hts hin hown hK hO rfl 2 (by decide) hL131 (fun _ h9 => h9) rfl dX12_partings_17 ?_
    refine iz_ge (tgt := 63) hx hb dX12_partings_20 (by decide) (by unfold rg2; omega) (fun br_16 => ?_) (fun br_16 => ?_)
    · refine lv_iinc (v := kz (t1 + (-1))) (lv' := [(1, .int (kz (t1 + (-1)))), (2, .int (kz f1)), (0, .ref o)]) hx hb dX12_partings_63 hl (k := 1) rfl (kz_add t1 (-1)) (by decide) rfl (fun ls hl => ?_)
      refine lv_goto (tgt := 9) hx hb dX12_partings_66 (by decide) ?_
      exact ihn_4 (n_4 - 1) (by omega) (gb, gm) (t1 + (-1)) _ _ _ ⟨by omega, by omega, (en_f n_15f2 (by omega)), by omega, lv_sub hl [0, 2] rfl, hI, hO, hS, c_3, c_4, c_5, c_10, c_11, c_12, c_13, c_17, c_27, c_29, c_30, c_32, c_33, c_44, k_gb, k_gm⟩
    · refine lv_iconst (v := kz 0) hx hb dX12_partings_23 rfl ?_
      refine lv_istore_n (lv' := [(3, .int (kz 0)), (2, .int (kz f1)), (1, .int (kz t1)), (0, .ref o)]) hx hb dX12_partings_24 rfl hl (by decide) rfl (fun ls hl => ?_)
      refine iz_loopA1 (α := (Nat → Int32) × (Nat → Int32)) (P := fun N9 fn9 b1 H locs ls => (0 ≤ b1) ∧ (b1 ≤ 4) ∧ (en fc (zi 28) (zi 34) (zi 2) (zi 9) g_3 fn9.1 fn9.2 t1 f1 b1) ∧ 4 - b1 ≤ (N9 : Int) ∧ lv_has ls 4 [(3, .int (kz b1)), (2, .int (kz f1)), (1, .int (kz t1)), (0, .ref o)] ∧ iv (dC, dI) ca A X H ∧ va_at (dC, dI) vwCl (o, .inr (12, mM am zi zl)) H ∧ va_S A s.heap H locs ∧ va_at (dC, dI) vwCl (am 3, .inl (ca 21, 320, .inl (fc 3))) H ∧ va_at (dC, dI) vwCl (am 4, .inl (ca 20, 40, .inl (fc 4))) H ∧ va_at (dC, dI) vwCl (am 5, .inl (ca 20, 40, .inl (fc 5))) H ∧ va_at (dC, dI) vwCl (am 10, .inl (ca 21, 240, .inl (fc 10))) H ∧ va_at (dC, dI) vwCl (am 11, .inl (ca 20, 24, .inl (fc 11))) H ∧ va_at (dC, dI) vwCl (am 12, .inl (ca 20, 24, .inl (fc 12))) H ∧ va_at (dC, dI) vwCl (am 13, .inl (ca 20, 24, .inl (fc 13))) H ∧ va_at (dC, dI) vwCl (am 17, .inl (ca 22, 36, .inl (fc 17))) H ∧ va_at (dC, dI) vwCl (am 27, .inl (ca 21, 40, .inl (fc 27))) H ∧ va_at (dC, dI) vwCl (am 29, .inl (ca 20, 1600, .inl (fc 29))) H ∧ va_at (dC, dI) vwCl (am 30, .inl (ca 22, 6560, .inl g_3)) H ∧ va_at (dC, dI) vwCl (am 32, .inl (ca 20, 52480, .inl fn9.1)) H ∧ va_at (dC, dI) vwCl (am 33, .inl (ca 20, 6560, .inl fn9.2)) H ∧ va_at (dC, dI) vwCl (am 44, .inl (ca 20, 40, .inl (fc 44))) H ∧ ok20 X (am 32) 52480 (-2147483648) (2147483647) fn9.1 ∧ ok20 X (am 33) 6560 (0) (8) fn9.2) 100000 (gb, gm) (x0 := 0) ?_ ⟨by omega, by omega, n_15f2, by omega, lv_sub hl [0, 1, 2, 3] rfl, hI, hO, hS, c_3, c_4, c_5, c_10, c_11, c_12, c_13, c_17, c_27, c_29, c_30, c_32, c_33, c_44, k_gb, k_gm⟩
      intro n_17 ⟨gb, gm⟩ b1 H locs ls ⟨n_17f0, n_17f1, n_17f2, n_17f3, hl, hI, hO, hS, c_3, c_4, c_5, c_10, c_11, c_12, c_13, c_17, c_27, c_29, c_30, c_32, c_33, c_44, k_gb, k_gm⟩ ihn_17
      have n_17f2 : en fc (zi 28) (zi 34) (zi 2) (zi 9) g_3 gb gm t1 f1 b1 := n_17f2
      have c_32 : va_at (dC, dI) vwCl (am 32, .inl (ca 20, 52480, .inl gb)) H := c_32
      have k_gb : ok20 X (am 32) 52480 (-2147483648) (2147483647) gb := k_gb
      have c_33 : va_at (dC, dI) vwCl (am 33, .inl (ca 20, 6560, .inl gm)) H := c_33
      have k_gm : ok20 X (am 33) 6560 (0) (8) gm := k_gm
      refine lv_iload_n hx hb dX12_partings_25 rfl (lv_at hl 0 rfl) ?_
      refine lv_iconst (v := kz 4) hx hb dX12_partings_26 rfl ?_
      refine iz_ge (tgt := 57) hx hb dX12_partings_27 (by decide) (by unfold rg2; omega) (fun br_18 => ?_) (fun br_18 => ?_)
      · refine lv_iinc (v := kz (f1 + 1)) (lv' := [(2, .int (kz (f1 + 1))), (3, .int (kz b1)), (1, .int (kz t1)), (0, .ref o)]) hx hb dX12_partings_57 hl (k := 1) rfl (kz_add f1 1) (by decide) rfl (fun ls hl => ?_)
        refine lv_goto (tgt := 15) hx hb dX12_partings_60 (by decide) ?_
        exact ihn_15 (n_15 - 1) (by omega) (gb, gm) (f1 + 1) _ _ _ ⟨by omega, by omega, (en_b n_17f2 (by omega)), by omega, lv_sub hl [0, 2, 3] rfl, hI, hO, hS, c_3, c_4, c_5, c_10, c_11, c_12, c_13, c_17, c_27, c_29, c_30, c_32, c_33, c_44, k_gb, k_gm⟩
      · refine lv_aload_n hx hb dX12_partings_30 rfl (lv_at hl 3 rfl) ?_
        refine iz_get (D := (dC, dI)) (ci := 12) (v := .ref (am 30)) (C := RX12) (T := TX12) (N := 49) hx hb hts hin hown hK hO rfl 30 (by decide) hL82 (fun _ h9 => h9) rfl dX12_partings_31 ?_
        refine lv_iload_n hx hb dX12_partings_34 rfl (lv_at hl 1 rfl) ?_
        refine lv_iload_n hx hb dX12_partings_35 rfl (lv_at hl 0 rfl) ?_
        refine lv_iload_n hx hb dX12_partings_36 rfl (lv_at hl 2 rfl) ?_
        refine vp_callSi (va_Run.run (va_runS (As := [.int (kz f1), .int (kz b1), .int (kz t1)]) (rest := [.ref (am 30)]) ⟨hx, hb, hml, hown, hts⟩ (m_placeOf l f1 b1 t1) (va_cwS 3 hts gX12_partings_X12_placeOf rfl rfl rfl (by decide +kernel) ⟨Nat.le_of_ble_eq_true rfl, Nat.le_of_ble_eq_true rfl⟩) ⟨fun a U g mk q => q, fun U hU hW => ⟨rfl, trivial⟩⟩ rfl rfl hl.1 rfl (lv_room (Nat.le_of_ble_eq_true rfl)) dX12_partings_37 ⟨Nat.le_of_ble_eq_true rfl, Nat.le_of_ble_eq_true rfl⟩)) (fun r_20 hw_19 => ?_)
        obtain ⟨z_21, rfl, z_21h⟩ := hw_19
        refine iz_zald hx hb hK 2 c_30 rfl (by omega) (by decide) dX12_partings_40 ?_
        have v_22a := kz_lo (g_3 (Int.toNat z_21))
        have v_22b := kz_hi (g_3 (Int.toNat z_21))
        change _ ≤ ge1 g_3 z_21 at v_22a
        change ge1 g_3 z_21 ≤ _ at v_22b
        obtain ⟨v_22, ev_22⟩ : ∃ z9 : Int, ge1 g_3 z_21 = z9 := ⟨_, rfl⟩
        rw [ev_22] at v_22a v_22b ⊢
        refine iz_eqz (tgt := 51) hx hb dX12_partings_41 (by decide) (by unfold rg2; omega) (fun br_23 => ?_) (fun br_23 => ?_)
        · refine lv_iinc (v := kz (b1 + 1)) (lv' := [(3, .int (kz (b1 + 1))), (2, .int (kz f1)), (1, .int (kz t1)), (0, .ref o)]) hx hb dX12_partings_51 hl (k := 0) rfl (kz_add b1 1) (by decide) rfl (fun ls hl => ?_)
          refine lv_goto (tgt := 25) hx hb dX12_partings_54 (by decide) ?_
          exact ihn_17 (n_17 - 1) (by omega) (gb, gm) (b1 + 1) _ _ _ ⟨by omega, by omega, (en_skip n_17f2 (by rw [show pl f1 b1 t1 = z_21 from z_21h.symm]; omega)), by omega, lv_sub hl [0, 1, 2, 3] rfl, hI, hO, hS, c_3, c_4, c_5, c_10, c_11, c_12, c_13, c_17, c_27, c_29, c_30, c_32, c_33, c_44, k_gb, k_gm⟩
        · refine lv_aload_n hx hb dX12_partings_44 rfl (lv_at hl 3 rfl) ?_
          refine lv_iload_n hx hb dX12_partings_45 rfl (lv_at hl 1 rfl) ?_
          refine lv_iload_n hx hb dX12_partings_46 rfl (lv_at hl 0 rfl) ?_
          refine lv_iload_n hx hb dX12_partings_47 rfl (lv_at hl 2 rfl) ?_
          have bs_24 : b1 < ge1 (fc 4) f1 := vl_bs x_g_3.1 (by omega) (by omega) (by omega) (by omega) z_21h (by omega)
          refine va_callv (va_runV (As := [.int (kz f1), .int (kz b1), .int (kz t1)]) (rest := []) ⟨hx, hb, hml, hown, hts⟩ (m_counts l dC dI ca A X o am zi zl (cup (cup (cup fc 30 g_3) 32 gb) 33 gm) hM hz ⟨k_4, k_5, k_11, k_12, k_13, k_29, k_gb, k_gm, k_44⟩ f1 b1 t1 (by omega) (by omega) bs_24 (by omega)) (cwV 3 hts gX12_partings_X12_counts rfl rfl rfl (by decide +kernel) ⟨Nat.le_of_ble_eq_true rfl, Nat.le_of_ble_eq_true rfl⟩) ⟨fun a U g mk q => by obtain ⟨q0, qK, qI⟩ := q; exact ⟨q0, va_K.moved (u := U) (U := U.calling g mk a) (Vm.Alike.refl U.vm) qK, qI⟩, va_recv hK (at_P hO) (ci := 12) (q0 := 0) rfl rfl, fun U hU hW => ⟨rfl, va_K.moved hW.alike hK, by rw [hU]; exact ⟨⟨hI, hO⟩, c_3, c_4, c_5, c_10, c_11, c_12, c_13, c_17, c_27, c_29, c_30, c_32, c_33, c_44⟩⟩⟩ rfl rfl hl.1 rfl (lv_room (Nat.le_of_ble_eq_true rfl)) dX12_partings_48 ⟨Nat.le_of_ble_eq_true rfl, Nat.le_of_ble_eq_true rfl⟩) hS (fun q _ h => h) (fun q h => h) (fun u t9 H locs ht hvm hw_25 hB hz1 hk1 hS => ?_)
          obtain ⟨-, ⟨hI, hO⟩, c_3, c_4, c_5, c_10, c_11, c_12, c_13, c_17, c_27, c_29, c_30, c_32, c_33, c_44⟩ := hB
          rw [ht] at hI hO c_3 c_4 c_5 c_10 c_11 c_12 c_13 c_17 c_27 c_29 c_30 c_32 c_33 c_44
          clear ht hvm hz1 hk1
          obtain ⟨gb_27, gm_28, rfl, k_gb_27, k_gm_28, x_gb_27⟩ := hw_25
          have en_gb_27 : en fc (zi 28) (zi 34) (zi 2) (zi 9) g_3 gb_27 gm_28 t1 f1 (b1 + 1) := en_step hk hsz (by omega) (by omega) (by omega) x_g_3.1 n_17f2 (by omega) ⟨by omega, by omega, bs_24⟩ (by omega) (fun z9 h0 h1 => (k_gm z9 ⟨h0, by omega⟩).2.1) x_gb_27
          have c_3 : va_at (dC, dI) vwCl (am 3, .inl (ca 21, 320, .inl (fc 3))) H := c_3
          have c_4 : va_at (dC, dI) vwCl (am 4, .inl (ca 20, 40, .inl (fc 4))) H := c_4
          have c_5 : va_at (dC, dI) vwCl (am 5, .inl (ca 20, 40, .inl (fc 5))) H := c_5
          have c_10 : va_at (dC, dI) vwCl (am 10, .inl (ca 21, 240, .inl (fc 10))) H := c_10
          have c_11 : va_at (dC, dI) vwCl (am 11, .inl (ca 20, 24, .inl (fc 11))) H := c_11
          have c_12 : va_at (dC, dI) vwCl (am 12, .inl (ca 20, 24, .inl (fc 12))) H := c_12
          have c_13 : va_at (dC, dI) vwCl (am 13, .inl (ca 20, 24, .inl (fc 13))) H := c_13
          have c_17 : va_at (dC, dI) vwCl (am 17, .inl (ca 22, 36, .inl (fc 17))) H := c_17
          have c_27 : va_at (dC, dI) vwCl (am 27, .inl (ca 21, 40, .inl (fc 27))) H := c_27
          have c_29 : va_at (dC, dI) vwCl (am 29, .inl (ca 20, 1600, .inl (fc 29))) H := c_29
          have c_30 : va_at (dC, dI) vwCl (am 30, .inl (ca 22, 6560, .inl g_3)) H := c_30
          have c_32 : va_at (dC, dI) vwCl (am 32, .inl (ca 20, 52480, .inl gb_27)) H := c_32
          have c_33 : va_at (dC, dI) vwCl (am 33, .inl (ca 20, 6560, .inl gm_28)) H := c_33
          have c_44 : va_at (dC, dI) vwCl (am 44, .inl (ca 20, 40, .inl (fc 44))) H := c_44
          refine lv_iinc (v := kz (b1 + 1)) (lv' := [(3, .int (kz (b1 + 1))), (2, .int (kz f1)), (1, .int (kz t1)), (0, .ref o)]) hx hb dX12_partings_51 hl (k := 0) rfl (kz_add b1 1) (by decide) rfl (fun ls hl => ?_)
          refine lv_goto (tgt := 25) hx hb dX12_partings_54 (by decide) ?_
          exact ihn_17 (n_17 - 1) (by omega) (gb_27, gm_28) (b1 + 1) _ _ _ ⟨by omega, by omega, en_gb_27, by omega, lv_sub hl [0, 1, 2, 3] rfl, hI, hO, hS, c_3, c_4, c_5, c_10, c_11, c_12, c_13, c_17, c_27, c_29, c_30, c_32, c_33, c_44, k_gb_27, k_gm_28⟩
