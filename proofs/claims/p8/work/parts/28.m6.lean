set_option maxHeartbeats 4000000 in
set_option maxRecDepth 100000 in
/-- X12_reaches -/
theorem m_reaches (l : Launch) (dC : Nat → ClassId) (dI : Nat → Nat → Nat) (ca : Nat → ClassId) (A : Nat → Prop) (X : kGh) (o : Nat) (am : Nat → Nat) (zi : Nat → Int) (zl : Nat → Int64) (fc : Nat → Nat → Int32) (hM : mS X A o am) (hz : mZ X am zi) (hk : frk X am fc) : Met l yX12_reaches wsX12_reaches ({ frames := 3, cells := 0, slots := 0, locals := 77 }) (va_Pc [.ref o] (fun U => va_K (dC, dI) vwCl (k_tys ca) U ∧ mI (dC, dI) ca A X o am zi zl U.heap ∧ frz (dC, dI) ca am fc U.heap)) (va_Qv (fun (u : Nat → Nat → Int32) => ∃ g : Nat → Int32, u = cup fc 30 g ∧ rc fc (zi 28) (zi 34) (zi 2) (zi 9) g) (fun u U => va_K (dC, dI) vwCl (k_tys ca) U ∧ mI (dC, dI) ca A X o am zi zl U.heap ∧ frz (dC, dI) ca am u U.heap) A) 0 0 A := by
  refine Met.ofW (cc := cX12_reaches) (maxL := 4) (ret := none) (by decide) rfl ?_
  intro p e s m args below meth c s₁ B hml hv
  obtain ⟨rfl, hK, ⟨hI, hO⟩, c_3, c_4, c_5, c_10, c_11, c_12, c_13, c_17, c_27, c_29, c_30, c_32, c_33, c_44⟩ := hv
  have hx := B.exec
  have hb := B.bytes
  have hr := B.returns
  have hts := atoms_spec (ws := wsX12_reaches) B.pre
  have hown : s.vm.findClass RX12 = some m.cls := findClass_of_methodNamed B.named
  have hin : ∀ w ∈ u_ws RX12 TX12 49, w ∈ wsX12_reaches := by decide +kernel
  have hL82 := hts (.fieldLink RX12 82 "JoinBenchModel" "isCome" "[Z") (by decide +kernel)
  have hL131 := hts (.fieldLink RX12 131 "JoinBenchModel" "forms" "I") (by decide +kernel)
  have hL175 := hts (.fieldLink RX12 175 "JoinBenchModel" "lineSize" "I") (by decide +kernel)
  have g30 : X.1 (am 30) = (130, 22, 6560, 0, 0) := hM.1 30 _ rfl (by decide)
  have g3 : X.1 (am 3) = (103, 21, 320, 0, 0) := hM.1 3 _ rfl (by decide)
  have g4 : X.1 (am 4) = (104, 20, 40, 0, 8) := hM.1 4 _ rfl (by decide)
  have g5 : X.1 (am 5) = (105, 20, 40, 0, 5) := hM.1 5 _ rfl (by decide)
  have w5 : X.2 (am 5) = 0 := hM.2.2.2 5 _ rfl (by decide) (by decide) (by decide)
  have g10 : X.1 (am 10) = (110, 21, 240, 0, 0) := hM.1 10 _ rfl (by decide)
  have g11 : X.1 (am 11) = (111, 20, 24, 0, 3) := hM.1 11 _ rfl (by decide)
  have w11 : X.2 (am 11) = 0 := hM.2.2.2 11 _ rfl (by decide) (by decide) (by decide)
  have g12 : X.1 (am 12) = (112, 20, 24, 0, 3) := hM.1 12 _ rfl (by decide)
  have w12 : X.2 (am 12) = 0 := hM.2.2.2 12 _ rfl (by decide) (by decide) (by decide)
  have g13 : X.1 (am 13) = (113, 20, 24, 0, 4) := hM.1 13 _ rfl (by decide)
  have w13 : X.2 (am 13) = 0 := hM.2.2.2 13 _ rfl (by decide) (by decide) (by decide)
  have g17 : X.1 (am 17) = (117, 22, 36, 0, 0) := hM.1 17 _ rfl (by decide)
  have g27 : X.1 (am 27) = (127, 21, 40, 0, 0) := hM.1 27 _ rfl (by decide)
  have g29 : X.1 (am 29) = (129, 20, 1600, -2147483648, 2147483647) := hM.1 29 _ rfl (by decide)
  have w29 : X.2 (am 29) = 0 := hM.2.2.2 29 _ rfl (by decide) (by decide) (by decide)
  have g32 : X.1 (am 32) = (132, 20, 52480, -2147483648, 2147483647) := hM.1 32 _ rfl (by decide)
  have w32 : X.2 (am 32) = 0 := hM.2.2.2 32 _ rfl (by decide) (by decide) (by decide)
  have g33 : X.1 (am 33) = (133, 20, 6560, 0, 8) := hM.1 33 _ rfl (by decide)
  have w33 : X.2 (am 33) = 0 := hM.2.2.2 33 _ rfl (by decide) (by decide) (by decide)
  have g44 : X.1 (am 44) = (144, 20, 40, 0, 8) := hM.1 44 _ rfl (by decide)
  have w44 : X.2 (am 44) = 0 := hM.2.2.2 44 _ rfl (by decide) (by decide) (by decide)
  obtain ⟨⟨z1a, z1b⟩, ⟨z2a, z2b⟩, ⟨z9a, z9b⟩, ⟨z20a, z20b⟩, ⟨z21a, z21b⟩, ⟨z22a, z22b⟩, ⟨z26a, z26b⟩, ⟨z28a, z28b⟩, ⟨z34a, z34b⟩, ⟨z35a, z35b⟩, ⟨z38a, z38b⟩, ⟨z39a, z39b⟩, ⟨z46a, z46b⟩, hzA, hzB⟩ := id hz
  obtain ⟨k_4, k_5, k_11, k_12, k_13, k_29, k_32, k_33, k_44⟩ := id hk
  obtain ⟨H, hH⟩ : ∃ H : Heap, H = s.heap := ⟨_, rfl⟩
  have hS : va_S A s.heap H [] := by rw [hH]; exact va_S.rf
  rw [← hH] at hI hO c_3 c_4 c_5 c_10 c_11 c_12 c_13 c_17 c_27 c_29 c_30 c_32 c_33 c_44 ⊢
  clear hH
  have hl := lv_entry ([.ref o]) (n := 4) (Nat.le_of_ble_eq_true rfl)
  rw [lg_entry_eq]
  generalize (lg_sl ([.ref o]) ++ List.replicate (4 - (lg_sl ([.ref o])).length) Slot.unset).toArray = ls at hl ⊢
  have hl : lv_has ls 4 [(0, .ref o)] := hl
  have hsz : ∀ f9 : Int, 0 ≤ f9 → f9 < zi 2 → 1 ≤ ge1 (fc 4) f9 := fun f9 h1 h2 => (k_4 f9 (by omega)).2.2 (by omega)
  refine lv_iconst (v := kz 0) hx hb dX12_reaches_0 rfl ?_
  refine lv_istore_n (lv' := [(1, .int (kz 0)), (0, .ref o)]) hx hb dX12_reaches_1 rfl hl (by decide) rfl (fun ls hl => ?_)
  refine iz_loopA1 (α := (Nat → Int32)) (P := fun N9 g i H locs ls => (0 ≤ i) ∧ (i ≤ 6560) ∧ (∀ z9 : Int, 0 ≤ z9 → z9 < i → ge1 g z9 = 0) ∧ 6560 - i ≤ (N9 : Int) ∧ lv_has ls 4 [(1, .int (kz i)), (0, .ref o)] ∧ iv (dC, dI) ca A X H ∧ va_at (dC, dI) vwCl (o, .inr (12, mM am zi zl)) H ∧ va_S A s.heap H locs ∧ va_at (dC, dI) vwCl (am 3, .inl (ca 21, 320, .inl (fc 3))) H ∧ va_at (dC, dI) vwCl (am 4, .inl (ca 20, 40, .inl (fc 4))) H ∧ va_at (dC, dI) vwCl (am 5, .inl (ca 20, 40, .inl (fc 5))) H ∧ va_at (dC, dI) vwCl (am 10, .inl (ca 21, 240, .inl (fc 10))) H ∧ va_at (dC, dI) vwCl (am 11, .inl (ca 20, 24, .inl (fc 11))) H ∧ va_at (dC, dI) vwCl (am 12, .inl (ca 20, 24, .inl (fc 12))) H ∧ va_at (dC, dI) vwCl (am 13, .inl (ca 20, 24, .inl (fc 13))) H ∧ va_at (dC, dI) vwCl (am 17, .inl (ca 22, 36, .inl (fc 17))) H ∧ va_at (dC, dI) vwCl (am 27, .inl (ca 21, 40, .inl (fc 27))) H ∧ va_at (dC, dI) vwCl (am 29, .inl (ca 20, 1600, .inl (fc 29))) H ∧ va_at (dC, dI) vwCl (am 30, .inl (ca 22, 6560, .inl g)) H ∧ va_at (dC, dI) vwCl (am 32, .inl (ca 20, 52480, .inl (fc 32))) H ∧ va_at (dC, dI) vwCl (am 33, .inl (ca 20, 6560, .inl (fc 33))) H ∧ va_at (dC, dI) vwCl (am 44, .inl (ca 20, 40, .inl (fc 44))) H) 100000 (fc 30) (x0 := 0) ?_ ⟨by omega, by omega, (fun z9 h0 h1 => absurd h0 (by omega)), by omega, lv_sub hl [0, 1] rfl, hI, hO, hS, c_3, c_4, c_5, c_10, c_11, c_12, c_13, c_17, c_27, c_29, c_30, c_32, c_33, c_44⟩
  intro n_1 g i H locs ls ⟨n_1f0, n_1f1, n_1f2, n_1f3, hl, hI, hO, hS, c_3, c_4, c_5, c_10, c_11, c_12, c_13, c_17, c_27, c_29, c_30, c_32, c_33, c_44⟩ ihn_1
  refine lv_iload_n hx hb dX12_reaches_2 rfl (lv_at hl 0 rfl) ?_
  refine lv_sipush (v := kz 6560) hx hb dX12_reaches_3 (by decide) ?_
  refine iz_ge (tgt := 22) hx hb dX12_reaches_6 (by decide) (by unfold rg2; omega) (fun br_2 => ?_) (fun br_2 => ?_)
  · refine lv_iconst (v := kz 0) hx hb dX12_reaches_22 rfl ?_
    refine lv_istore_n (lv' := [(1, .int (kz 0)), (0, .ref o)]) hx hb dX12_reaches_23 rfl hl (by decide) rfl (fun ls hl => ?_)
    refine iz_loopA1 (α := (Nat → Int32)) (P := fun N9 g f1 H locs ls => (0 ≤ f1) ∧ (f1 ≤ 40) ∧ (vl fc (zi 28) (zi 2) g ∧ ∀ f9 : Int, 0 ≤ f9 → f9 < f1 → ¬ ge1 g (pl f9 0 0) = 0) ∧ 40 - f1 ≤ (N9 : Int) ∧ lv_has ls 4 [(1, .int (kz f1)), (0, .ref o)] ∧ iv (dC, dI) ca A X H ∧ va_at (dC, dI) vwCl (o, .inr (12, mM am zi zl)) H ∧ va_S A s.heap H locs ∧ va_at (dC, dI) vwCl (am 3, .inl (ca 21, 320, .inl (fc 3))) H ∧ va_at (dC, dI) vwCl (am 4, .inl (ca 20, 40, .inl (fc 4))) H ∧ va_at (dC, dI) vwCl (am 5, .inl (ca 20, 40, .inl (fc 5))) H ∧ va_at (dC, dI) vwCl (am 10, .inl (ca 21, 240, .inl (fc 10))) H ∧ va_at (dC, dI) vwCl (am 11, .inl (ca 20, 24, .inl (fc 11))) H ∧ va_at (dC, dI) vwCl (am 12, .inl (ca 20, 24, .inl (fc 12))) H ∧ va_at (dC, dI) vwCl (am 13, .inl (ca 20, 24, .inl (fc 13))) H ∧ va_at (dC, dI) vwCl (am 17, .inl (ca 22, 36, .inl (fc 17))) H ∧ va_at (dC, dI) vwCl (am 27, .inl (ca 21, 40, .inl (fc 27))) H ∧ va_at (dC, dI) vwCl (am 29, .inl (ca 20, 1600, .inl (fc 29))) H ∧ va_at (dC, dI) vwCl (am 30, .inl (ca 22, 6560, .inl g)) H ∧ va_at (dC, dI) vwCl (am 32, .inl (ca 20, 52480, .inl (fc 32))) H ∧ va_at (dC, dI) vwCl (am 33, .inl (ca 20, 6560, .inl (fc 33))) H ∧ va_at (dC, dI) vwCl (am 44, .inl (ca 20, 40, .inl (fc 44))) H) 100000 g (x0 := 0) ?_ ⟨by omega, by omega, (st_0 (fun z9 h0 h1 => n_1f2 z9 h0 (by omega))), by omega, lv_sub hl [0, 1] rfl, hI, hO, hS, c_3, c_4, c_5, c_10, c_11, c_12, c_13, c_17, c_27, c_29, c_30, c_32, c_33, c_44⟩
    intro n_3 g f1 H locs ls ⟨n_3f0, n_3f1, n_3f2, n_3f3, hl, hI, hO, hS, c_3, c_4, c_5, c_10, c_11, c_12, c_13, c_17, c_27, c_29, c_30, c_32, c_33, c_44⟩ ihn_3
    refine lv_iload_n hx hb dX12_reaches_24 rfl (lv_at hl 0 rfl) ?_
    refine lv_aload_n hx hb dX12_reaches_25 rfl (lv_at hl 1 rfl) ?_
    refine iz_get (D := (dC, dI)) (ci := 12) (v := .int (kz (zi 2))) (C := RX12) (T := TX12) (N := 49) hx hb hts hin hown hK hO rfl 2 (by decide) hL131 (fun _ h9 => h9) rfl dX12_reaches_26 ?_
    refine iz_ge (tgt := 50) hx hb dX12_reaches_29 (by decide) (by unfold rg2; omega) (fun br_4 => ?_) (fun br_4 => ?_)
    · refine lv_iconst (v := kz 0) hx hb dX12_reaches_50 rfl ?_
      refine lv_istore_n (lv' := [(1, .int (kz 0)), (0, .ref o)]) hx hb dX12_reaches_51 rfl hl (by decide) rfl (fun ls hl => ?_)
      refine iz_loopA1 (α := (Nat → Int32)) (P := fun N9 g t1 H locs ls => (0 ≤ t1) ∧ (t1 ≤ 40) ∧ (rcI fc (zi 28) (zi 34) (zi 2) (zi 9) g t1 0 0) ∧ 40 - t1 ≤ (N9 : Int) ∧ lv_has ls 4 [(1, .int (kz t1)), (0, .ref o)] ∧ iv (dC, dI) ca A X H ∧ va_at (dC, dI) vwCl (o, .inr (12, mM am zi zl)) H ∧ va_S A s.heap H locs ∧ va_at (dC, dI) vwCl (am 3, .inl (ca 21, 320, .inl (fc 3))) H ∧ va_at (dC, dI) vwCl (am 4, .inl (ca 20, 40, .inl (fc 4))) H ∧ va_at (dC, dI) vwCl (am 5, .inl (ca 20, 40, .inl (fc 5))) H ∧ va_at (dC, dI) vwCl (am 10, .inl (ca 21, 240, .inl (fc 10))) H ∧ va_at (dC, dI) vwCl (am 11, .inl (ca 20, 24, .inl (fc 11))) H ∧ va_at (dC, dI) vwCl (am 12, .inl (ca 20, 24, .inl (fc 12))) H ∧ va_at (dC, dI) vwCl (am 13, .inl (ca 20, 24, .inl (fc 13))) H ∧ va_at (dC, dI) vwCl (am 17, .inl (ca 22, 36, .inl (fc 17))) H ∧ va_at (dC, dI) vwCl (am 27, .inl (ca 21, 40, .inl (fc 27))) H ∧ va_at (dC, dI) vwCl (am 29, .inl (ca 20, 1600, .inl (fc 29))) H ∧ va_at (dC, dI) vwCl (am 30, .inl (ca 22, 6560, .inl g)) H ∧ va_at (dC, dI) vwCl (am 32, .inl (ca 20, 52480, .inl (fc 32))) H ∧ va_at (dC, dI) vwCl (am 33, .inl (ca 20, 6560, .inl (fc 33))) H ∧ va_at (dC, dI) vwCl (am 44, .inl (ca 20, 40, .inl (fc 44))) H) 100000 g (x0 := 0) ?_ ⟨by omega, by omega, (rcI_0 n_3f2 (by omega)), by omega, lv_sub hl [0, 1] rfl, hI, hO, hS, c_3, c_4, c_5, c_10, c_11, c_12, c_13, c_17, c_27, c_29, c_30, c_32, c_33, c_44⟩
      intro n_5 g t1 H locs ls ⟨n_5f0, n_5f1, n_5f2, n_5f3, hl, hI, hO, hS, c_3, c_4, c_5, c_10, c_11, c_12, c_13, c_17, c_27, c_29, c_30, c_32, c_33, c_44⟩ ihn_5
      refine lv_iload_n hx hb dX12_reaches_52 rfl (lv_at hl 0 rfl) ?_
      refine lv_aload_n hx hb dX12_reaches_53 rfl (lv_at hl 1 rfl) ?_
      refine iz_get (D := (dC, dI)) (ci := 12) (v := .int (kz (zi 28))) (C := RX12) (T := TX12) (N := 49) hx hb hts hin hown hK hO rfl 28 (by decide) hL175 (fun _ h9 => h9) rfl dX12_reaches_54 ?_
      refine iz_ge (tgt := 116) hx hb dX12_reaches_57 (by decide) (by unfold rg2; omega) (fun br_6 => ?_) (fun br_6 => ?_)
      · exact W.vret hx hb hr (fun t9 ht hW => ⟨⟨(cup fc 30 g), rfl, ⟨g, rfl, rcI_end hk hsz (by omega) (by omega) (by omega) n_5f2 (by omega)⟩, va_K.moved hW.alike hK, by rw [ht]; exact ⟨hI, hO⟩, by rw [ht]; exact ⟨c_3, c_4, c_5, c_10, c_11, c_12, c_13, c_17, c_27, c_29, c_30, c_32, c_33, c_44⟩⟩, hS.F ht⟩) hS.2.2 dX12_reaches_116
      · refine lv_iconst (v := kz 0) hx hb dX12_reaches_60 rfl ?_
        refine lv_istore_n (lv' := [(2, .int (kz 0)), (1, .int (kz t1)), (0, .ref o)]) hx hb dX12_reaches_61 rfl hl (by decide) rfl (fun ls hl => ?_)
        refine iz_loopA1 (α := (Nat → Int32)) (P := fun N9 g f1 H locs ls => (0 ≤ f1) ∧ (f1 ≤ 40) ∧ (rcI fc (zi 28) (zi 34) (zi 2) (zi 9) g t1 f1 0) ∧ 40 - f1 ≤ (N9 : Int) ∧ lv_has ls 4 [(2, .int (kz f1)), (1, .int (kz t1)), (0, .ref o)] ∧ iv (dC, dI) ca A X H ∧ va_at (dC, dI) vwCl (o, .inr (12, mM am zi zl)) H ∧ va_S A s.heap H locs ∧ va_at (dC, dI) vwCl (am 3, .inl (ca 21, 320, .inl (fc 3))) H ∧ va_at (dC, dI) vwCl (am 4, .inl (ca 20, 40, .inl (fc 4))) H ∧ va_at (dC, dI) vwCl (am 5, .inl (ca 20, 40, .inl (fc 5))) H ∧ va_at (dC, dI) vwCl (am 10, .inl (ca 21, 240, .inl (fc 10))) H ∧ va_at (dC, dI) vwCl (am 11, .inl (ca 20, 24, .inl (fc 11))) H ∧ va_at (dC, dI) vwCl (am 12, .inl (ca 20, 24, .inl (fc 12))) H ∧ va_at (dC, dI) vwCl (am 13, .inl (ca 20, 24, .inl (fc 13))) H ∧ va_at (dC, dI) vwCl (am 17, .inl (ca 22, 36, .inl (fc 17))) H ∧ va_at (dC, dI) vwCl (am 27, .inl (ca 21, 40, .inl (fc 27))) H ∧ va_at (dC, dI) vwCl (am 29, .inl (ca 20, 1600, .inl (fc 29))) H ∧ va_at (dC, dI) vwCl (am 30, .inl (ca 22, 6560, .inl g)) H ∧ va_at (dC, dI) vwCl (am 32, .inl (ca 20, 52480, .inl (fc 32))) H ∧ va_at (dC, dI) vwCl (am 33, .inl (ca 20, 6560, .inl (fc 33))) H ∧ va_at (dC, dI) vwCl (am 44, .inl (ca 20, 40, .inl (fc 44))) H) 100000 g (x0 := 0) ?_ ⟨by omega, by omega, n_5f2, by omega, lv_sub hl [0, 1, 2] rfl, hI, hO, hS, c_3, c_4, c_5, c_10, c_11, c_12, c_13, c_17, c_27, c_29, c_30, c_32, c_33, c_44⟩
        intro n_7 g f1 H locs ls ⟨n_7f0, n_7f1, n_7f2, n_7f3, hl, hI, hO, hS, c_3, c_4, c_5, c_10, c_11, c_12, c_13, c_17, c_27, c_29, c_30, c_32, c_33, c_44⟩ ihn_7
        refine lv_iload_n hx hb dX12_reaches_62 rfl (lv_at hl 0 rfl) ?_
        refine lv_aload_n hx hb dX12_reaches_63 rfl (lv_at hl 2 rfl) ?_
        refine iz_get (D := (dC, dI)) (ci := 12) (v := .int (kz (zi 2))) (C := RX12) (T := TX12) (N := 49) hx hb hts hin hown hK hO rfl 2 (by decide) hL131 (fun _ h9 => h9) rfl dX12_reaches_64 ?_
        refine iz_ge (tgt := 110) hx hb dX12_reaches_67 (by decide) (by unfold rg2; omega) (fun br_8 => ?_) (fun br_8 => ?_)
        · refine lv_iinc (v := kz (t1 + 1)) (lv' := [(1, .int (kz (t1 + 1))), (2, .int (kz f1)), (0, .ref o)]) hx hb dX12_reaches_110 hl (k := 1) rfl (kz_add t1 1) (by decide) rfl (fun ls hl => ?_)
          refine lv_goto (tgt := 52) hx hb dX12_reaches_113 (by decide) ?_
          exact ihn_5 (n_5 - 1) (by omega) g (t1 + 1) _ _ _ ⟨by omega, by omega, (rcI_f n_7f2 (by omega)), by omega, lv_sub hl [0, 2] rfl, hI, hO, hS, c_3, c_4, c_5, c_10, c_11, c_12, c_13, c_17, c_27, c_29, c_30, c_32, c_33, c_44⟩
        · refine lv_iconst (v := kz 0) hx hb dX12_reaches_70 rfl ?_
          refine lv_istore_n (lv' := [(3, .int (kz 0)), (2, .int (kz f1)), (1, .int (kz t1)), (0, .ref o)]) hx hb dX12_reaches_71 rfl hl (by decide) rfl (fun ls hl => ?_)
          refine iz_loopA1 (α := (Nat → Int32)) (P := fun N9 g b1 H locs ls => (0 ≤ b1) ∧ (b1 ≤ 4) ∧ (rcI fc (zi 28) (zi 34) (zi 2) (zi 9) g t1 f1 b1) ∧ 4 - b1 ≤ (N9 : Int) ∧ lv_has ls 4 [(3, .int (kz b1)), (2, .int (kz f1)), (1, .int (kz t1)), (0, .ref o)] ∧ iv (dC, dI) ca A X H ∧ va_at (dC, dI) vwCl (o, .inr (12, mM am zi zl)) H ∧ va_S A s.heap H locs ∧ va_at (dC, dI) vwCl (am 3, .inl (ca 21, 320, .inl (fc 3))) H ∧ va_at (dC, dI) vwCl (am 4, .inl (ca 20, 40, .inl (fc 4))) H ∧ va_at (dC, dI) vwCl (am 5, .inl (ca 20, 40, .inl (fc 5))) H ∧ va_at (dC, dI) vwCl (am 10, .inl (ca 21, 240, .inl (fc 10))) H ∧ va_at (dC, dI) vwCl (am 11, .inl (ca 20, 24, .inl (fc 11))) H ∧ va_at (dC, dI) vwCl (am 12, .inl (ca 20, 24, .inl (fc 12))) H ∧ va_at (dC, dI) vwCl (am 13, .inl (ca 20, 24, .inl (fc 13))) H ∧ va_at (dC, dI) vwCl (am 17, .inl (ca 22, 36, .inl (fc 17))) H ∧ va_at (dC, dI) vwCl (am 27, .inl (ca 21, 40, .inl (fc 27))) H ∧ va_at (dC, dI) vwCl (am 29, .inl (ca 20, 1600, .inl (fc 29))) H ∧ va_at (dC, dI) vwCl (am 30, .inl (ca 22, 6560, .inl g)) H ∧ va_at (dC, dI) vwCl (am 32, .inl (ca 20, 52480, .inl (fc 32))) H ∧ va_at (dC, dI) vwCl (am 33, .inl (ca 20, 6560, .inl (fc 33))) H ∧ va_at (dC, dI) vwCl (am 44, .inl (ca 20, 40, .inl (fc 44))) H) 100000 g (x0 := 0) ?_ ⟨by omega, by omega, n_7f2, by omega, lv_sub hl [0, 1, 2, 3] rfl, hI, hO, hS, c_3, c_4, c_5, c_10, c_11, c_12, c_13, c_17, c_27, c_29, c_30, c_32, c_33, c_44⟩
          intro n_9 g b1 H locs ls ⟨n_9f0, n_9f1, n_9f2, n_9f3, hl, hI, hO, hS, c_3, c_4, c_5, c_10, c_11, c_12, c_13, c_17, c_27, c_29, c_30, c_32, c_33, c_44⟩ ihn_9
          refine lv_iload_n hx hb dX12_reaches_72 rfl (lv_at hl 0 rfl) ?_
          refine lv_iconst (v := kz 4) hx hb dX12_reaches_73 rfl ?_
          refine iz_ge (tgt := 104) hx hb dX12_reaches_74 (by decide) (by unfold rg2; omega) (fun br_10 => ?_) (fun br_10 => ?_)
          · refine lv_iinc (v := kz (f1 + 1)) (lv' := [(2, .int (kz (f1 + 1))), (3, .int (kz b1)), (1, .int (kz t1)), (0, .ref o)]) hx hb dX12_reaches_104 hl (k := 1) rfl (kz_add f1 1) (by decide) rfl (fun ls hl => ?_)
            refine lv_goto (tgt := 62) hx hb dX12_reaches_107 (by decide) ?_
            exact ihn_7 (n_7 - 1) (by omega) g (f1 + 1) _ _ _ ⟨by omega, by omega, (rcI_b n_9f2 (by omega)), by omega, lv_sub hl [0, 2, 3] rfl, hI, hO, hS, c_3, c_4, c_5, c_10, c_11, c_12, c_13, c_17, c_27, c_29, c_30, c_32, c_33, c_44⟩
          · refine lv_aload_n hx hb dX12_reaches_77 rfl (lv_at hl 3 rfl) ?_
            refine iz_get (D := (dC, dI)) (ci := 12) (v := .ref (am 30)) (C := RX12) (T := TX12) (N := 49) hx hb hts hin hown hK hO rfl 30 (by decide) hL82 (fun _ h9 => h9) rfl dX12_reaches_78 ?_
            refine lv_iload_n hx hb dX12_reaches_81 rfl (lv_at hl 1 rfl) ?_
            refine lv_iload_n hx hb dX12_reaches_82 rfl (lv_at hl 0 rfl) ?_
            refine lv_iload_n hx hb dX12_reaches_83 rfl (lv_at hl 2 rfl) ?_
            refine vp_callSi (va_Run.run (va_runS (As := [.int (kz f1), .int (kz b1), .int (kz t1)]) (rest := [.ref (am 30)]) ⟨hx, hb, hml, hown, hts⟩ (m_placeOf l f1 b1 t1) (va_cwS 3 hts gX12_reaches_X12_placeOf rfl rfl rfl (by decide +kernel) ⟨Nat.le_of_ble_eq_true rfl, Nat.le_of_ble_eq_true rfl⟩) ⟨fun a U g mk q => q, fun U hU hW => ⟨rfl, trivial⟩⟩ rfl rfl hl.1 rfl (lv_room (Nat.le_of_ble_eq_true rfl)) dX12_reaches_84 ⟨Nat.le_of_ble_eq_true rfl, Nat.le_of_ble_eq_true rfl⟩)) (fun r_12 hw_11 => ?_)
            obtain ⟨z_13, rfl, z_13h⟩ := hw_11
            refine iz_zald hx hb hK 2 c_30 rfl (by omega) (by decide) dX12_reaches_87 ?_
            have v_14a := kz_lo (g (Int.toNat z_13))
            have v_14b := kz_hi (g (Int.toNat z_13))
            change _ ≤ ge1 g z_13 at v_14a
            change ge1 g z_13 ≤ _ at v_14b
            obtain ⟨v_14, ev_14⟩ : ∃ z9 : Int, ge1 g z_13 = z9 := ⟨_, rfl⟩
            rw [ev_14] at v_14a v_14b ⊢
            refine iz_eqz (tgt := 98) hx hb dX12_reaches_88 (by decide) (by unfold rg2; omega) (fun br_15 => ?_) (fun br_15 => ?_)
            · refine lv_iinc (v := kz (b1 + 1)) (lv' := [(3, .int (kz (b1 + 1))), (2, .int (kz f1)), (1, .int (kz t1)), (0, .ref o)]) hx hb dX12_reaches_98 hl (k := 0) rfl (kz_add b1 1) (by decide) rfl (fun ls hl => ?_)
              refine lv_goto (tgt := 72) hx hb dX12_reaches_101 (by decide) ?_
              exact ihn_9 (n_9 - 1) (by omega) g (b1 + 1) _ _ _ ⟨by omega, by omega, (rcI_skip n_9f2 (by rw [show pl f1 b1 t1 = z_13 from z_13h.symm]; omega)), by omega, lv_sub hl [0, 1, 2, 3] rfl, hI, hO, hS, c_3, c_4, c_5, c_10, c_11, c_12, c_13, c_17, c_27, c_29, c_30, c_32, c_33, c_44⟩
            · refine lv_aload_n hx hb dX12_reaches_91 rfl (lv_at hl 3 rfl) ?_
              refine lv_iload_n hx hb dX12_reaches_92 rfl (lv_at hl 1 rfl) ?_
              refine lv_iload_n hx hb dX12_reaches_93 rfl (lv_at hl 0 rfl) ?_
              refine lv_iload_n hx hb dX12_reaches_94 rfl (lv_at hl 2 rfl) ?_
              have bs_16 : b1 < ge1 (fc 4) f1 := rcI_bs n_9f2 (by omega) (by omega) (by omega) (by omega) z_13h (by omega)
              refine va_callv (va_runV (As := [.int (kz f1), .int (kz b1), .int (kz t1)]) (rest := []) ⟨hx, hb, hml, hown, hts⟩ (m_goesOn l dC dI ca A X o am zi zl (cup fc 30 g) hM hz ⟨k_4, k_5, k_11, k_12, k_13, k_29, k_32, k_33, k_44⟩ f1 b1 t1 (by omega) (by omega) bs_16 (by omega)) (cwV 3 hts gX12_reaches_X12_goesOn rfl rfl rfl (by decide +kernel) ⟨Nat.le_of_ble_eq_true rfl, Nat.le_of_ble_eq_true rfl⟩) ⟨fun a U g mk q => by obtain ⟨q0, qK, qI⟩ := q; exact ⟨q0, va_K.moved (u := U) (U := U.calling g mk a) (Vm.Alike.refl U.vm) qK, qI⟩, va_recv hK (at_P hO) (ci := 12) (q0 := 0) rfl rfl, fun U hU hW => ⟨rfl, va_K.moved hW.alike hK, by rw [hU]; exact ⟨⟨hI, hO⟩, c_3, c_4, c_5, c_10, c_11, c_12, c_13, c_17, c_27, c_29, c_30, c_32, c_33, c_44⟩⟩⟩ rfl rfl hl.1 rfl (lv_room (Nat.le_of_ble_eq_true rfl)) dX12_reaches_95 ⟨Nat.le_of_ble_eq_true rfl, Nat.le_of_ble_eq_true rfl⟩) hS (fun q _ h => h) (fun q h => h) (fun u t9 H locs ht hvm hw_17 hB hz1 hk1 hS => ?_)
              obtain ⟨-, ⟨hI, hO⟩, c_3, c_4, c_5, c_10, c_11, c_12, c_13, c_17, c_27, c_29, c_30, c_32, c_33, c_44⟩ := hB
              rw [ht] at hI hO c_3 c_4 c_5 c_10 c_11 c_12 c_13 c_17 c_27 c_29 c_30 c_32 c_33 c_44
              clear ht hvm hz1 hk1
              obtain ⟨g_19, rfl, x_g_19⟩ := hw_17
              have c_3 : va_at (dC, dI) vwCl (am 3, .inl (ca 21, 320, .inl (fc 3))) H := c_3
              have c_4 : va_at (dC, dI) vwCl (am 4, .inl (ca 20, 40, .inl (fc 4))) H := c_4
              have c_5 : va_at (dC, dI) vwCl (am 5, .inl (ca 20, 40, .inl (fc 5))) H := c_5
              have c_10 : va_at (dC, dI) vwCl (am 10, .inl (ca 21, 240, .inl (fc 10))) H := c_10
              have c_11 : va_at (dC, dI) vwCl (am 11, .inl (ca 20, 24, .inl (fc 11))) H := c_11
              have c_12 : va_at (dC, dI) vwCl (am 12, .inl (ca 20, 24, .inl (fc 12))) H := c_12
              have c_13 : va_at (dC, dI) vwCl (am 13, .inl (ca 20, 24, .inl (fc 13))) H := c_13
              have c_17 : va_at (dC, dI) vwCl (am 17, .inl (ca 22, 36, .inl (fc 17))) H := c_17
              have c_27 : va_at (dC, dI) vwCl (am 27, .inl (ca 21, 40, .inl (fc 27))) H := c_27
              have c_29 : va_at (dC, dI) vwCl (am 29, .inl (ca 20, 1600, .inl (fc 29))) H := c_29
              have c_30 : va_at (dC, dI) vwCl (am 30, .inl (ca 22, 6560, .inl g_19)) H := c_30
              have c_32 : va_at (dC, dI) vwCl (am 32, .inl (ca 20, 52480, .inl (fc 32))) H := c_32
              have c_33 : va_at (dC, dI) vwCl (am 33, .inl (ca 20, 6560, .inl (fc 33))) H := c_33
              have c_44 : va_at (dC, dI) vwCl (am 44, .inl (ca 20, 40, .inl (fc 44))) H := c_44
              refine lv_iinc (v := kz (b1 + 1)) (lv' := [(3, .int (kz (b1 + 1))), (2, .int (kz f1)), (1, .int (kz t1)), (0, .ref o)]) hx hb dX12_reaches_98 hl (k := 0) rfl (kz_add b1 1) (by decide) rfl (fun ls hl => ?_)
              refine lv_goto (tgt := 72) hx hb dX12_reaches_101 (by decide) ?_
              exact ihn_9 (n_9 - 1) (by omega) g_19 (b1 + 1) _ _ _ ⟨by omega, by omega, (rcI_go hk hsz (by omega) (by omega) (by omega) n_9f2 (by omega) ⟨by omega, bs_16, by omega⟩ (by omega) x_g_19), by omega, lv_sub hl [0, 1, 2, 3] rfl, hI, hO, hS, c_3, c_4, c_5, c_10, c_11, c_12, c_13, c_17, c_27, c_29, c_30, c_32, c_33, c_44⟩
    · refine lv_aload_n hx hb dX12_reaches_32 rfl (lv_at hl 1 rfl) ?_
      refine iz_get (D := (dC, dI)) (ci := 12) (v := .ref (am 30)) (C := RX12) (T := TX12) (N := 49) hx hb hts hin hown hK hO rfl 30 (by decide) hL82 (fun _ h9 => h9) rfl dX12_reaches_33 ?_
      refine lv_iload_n hx hb dX12_reaches_36 rfl (lv_at hl 0 rfl) ?_
      refine lv_iconst (v := kz 0) hx hb dX12_reaches_37 rfl ?_
      refine lv_iconst (v := kz 0) hx hb dX12_reaches_38 rfl ?_
      refine vp_callSi (va_Run.run (va_runS (As := [.int (kz f1), .int (kz 0), .int (kz 0)]) (rest := [.ref (am 30)]) ⟨hx, hb, hml, hown, hts⟩ (m_placeOf l f1 0 0) (va_cwS 3 hts gX12_reaches_X12_placeOf rfl rfl rfl (by decide +kernel) ⟨Nat.le_of_ble_eq_true rfl, Nat.le_of_ble_eq_true rfl⟩) ⟨fun a U g mk q => q, fun U hU hW => ⟨rfl, trivial⟩⟩ rfl rfl hl.1 rfl (lv_room (Nat.le_of_ble_eq_true rfl)) dX12_reaches_39 ⟨Nat.le_of_ble_eq_true rfl, Nat.le_of_ble_eq_true rfl⟩)) (fun r_21 hw_20 => ?_)
      obtain ⟨z_22, rfl, z_22h⟩ := hw_20
      refine lv_iconst (v := kz 1) hx hb dX12_reaches_42 rfl ?_
      refine iz_zast hx hb hK 2 c_30 hS (iv_A hI g30 (by decide)) rfl (by omega) (by decide) dX12_reaches_43 (fun H locs c9 oq hS => ?_)
      have hI := iv_s22 hI g30 c9 oq
      have hO := hO.kept (oq _ (iv_ne0 g30 hM.2.1 (by decide)).symm)
      have c_3 := c_3.kept (oq _ (iv_ne g3 g30 (by decide)))
      have c_4 := c_4.kept (oq _ (iv_ne g4 g30 (by decide)))
      have c_5 := c_5.kept (oq _ (iv_ne g5 g30 (by decide)))
      have c_10 := c_10.kept (oq _ (iv_ne g10 g30 (by decide)))
      have c_11 := c_11.kept (oq _ (iv_ne g11 g30 (by decide)))
      have c_12 := c_12.kept (oq _ (iv_ne g12 g30 (by decide)))
      have c_13 := c_13.kept (oq _ (iv_ne g13 g30 (by decide)))
      have c_17 := c_17.kept (oq _ (iv_ne g17 g30 (by decide)))
      have c_27 := c_27.kept (oq _ (iv_ne g27 g30 (by decide)))
      have c_29 := c_29.kept (oq _ (iv_ne g29 g30 (by decide)))
      have c_32 := c_32.kept (oq _ (iv_ne g32 g30 (by decide)))
      have c_33 := c_33.kept (oq _ (iv_ne g33 g30 (by decide)))
      have c_44 := c_44.kept (oq _ (iv_ne g44 g30 (by decide)))
      obtain ⟨g_23, eg_23⟩ : ∃ g9 : Nat → Int32, g9 = upd g (Int.toNat z_22) (vp_nar .boolean (kz 1)) := ⟨_, rfl⟩
      rw [← eg_23] at c9
      clear oq
      have c_30 := c9
      clear c9
      have ug_23 : ∀ w : Int, 0 ≤ w → ge1 g_23 w = if w = z_22 then 1 else ge1 g w := fun w hw => by rw [eg_23]; exact ge1_updb g (by omega) hw (by decide)
      refine lv_iinc (v := kz (f1 + 1)) (lv' := [(1, .int (kz (f1 + 1))), (0, .ref o)]) hx hb dX12_reaches_44 hl (k := 0) rfl (kz_add f1 1) (by decide) rfl (fun ls hl => ?_)
      refine lv_goto (tgt := 24) hx hb dX12_reaches_47 (by decide) ?_
      exact ihn_3 (n_3 - 1) (by omega) g_23 (f1 + 1) _ _ _ ⟨by omega, by omega, (st_set n_3f2 ug_23 z_22h (by omega) (hsz f1 (by omega) (by omega)) (by omega)), by omega, lv_sub hl [0, 1] rfl, hI, hO, hS, c_3, c_4, c_5, c_10, c_11, c_12, c_13, c_17, c_27, c_29, c_30, c_32, c_33, c_44⟩
  · refine lv_aload_n hx hb dX12_reaches_9 rfl (lv_at hl 1 rfl) ?_
    refine iz_get (D := (dC, dI)) (ci := 12) (v := .ref (am 30)) (C := RX12) (T := TX12) (N := 49) hx hb hts hin hown hK hO rfl 30 (by decide) hL82 (fun _ h9 => h9) rfl dX12_reaches_10 ?_
    refine lv_iload_n hx hb dX12_reaches_13 rfl (lv_at hl 0 rfl) ?_
    refine lv_iconst (v := kz 0) hx hb dX12_reaches_14 rfl ?_
    refine iz_zast hx hb hK 2 c_30 hS (iv_A hI g30 (by decide)) rfl (by omega) (by decide) dX12_reaches_15 (fun H locs c9 oq hS => ?_)
    have hI := iv_s22 hI g30 c9 oq
    have hO := hO.kept (oq _ (iv_ne0 g30 hM.2.1 (by decide)).symm)
    have c_3 := c_3.kept (oq _ (iv_ne g3 g30 (by decide)))
    have c_4 := c_4.kept (oq _ (iv_ne g4 g30 (by decide)))
    have c_5 := c_5.kept (oq _ (iv_ne g5 g30 (by decide)))
    have c_10 := c_10.kept (oq _ (iv_ne g10 g30 (by decide)))
    have c_11 := c_11.kept (oq _ (iv_ne g11 g30 (by decide)))
    have c_12 := c_12.kept (oq _ (iv_ne g12 g30 (by decide)))
    have c_13 := c_13.kept (oq _ (iv_ne g13 g30 (by decide)))
    have c_17 := c_17.kept (oq _ (iv_ne g17 g30 (by decide)))
    have c_27 := c_27.kept (oq _ (iv_ne g27 g30 (by decide)))
    have c_29 := c_29.kept (oq _ (iv_ne g29 g30 (by decide)))
    have c_32 := c_32.kept (oq _ (iv_ne g32 g30 (by decide)))
    have c_33 := c_33.kept (oq _ (iv_ne g33 g30 (by decide)))
    have c_44 := c_44.kept (oq _ (iv_ne g44 g30 (by decide)))
    obtain ⟨g_24, eg_24⟩ : ∃ g9 : Nat → Int32, g9 = upd g (Int.toNat i) (vp_nar .boolean (kz 0)) := ⟨_, rfl⟩
    rw [← eg_24] at c9
    clear oq
    have c_30 := c9
    clear c9
    have ug_24 : ∀ w : Int, 0 ≤ w → ge1 g_24 w = if w = i then 0 else ge1 g w := fun w hw => by rw [eg_24]; exact ge1_updb g (by omega) hw (by decide)
    refine lv_iinc (v := kz (i + 1)) (lv' := [(1, .int (kz (i + 1))), (0, .ref o)]) hx hb dX12_reaches_16 hl (k := 0) rfl (kz_add i 1) (by decide) rfl (fun ls hl => ?_)
    refine lv_goto (tgt := 2) hx hb dX12_reaches_19 (by decide) ?_
    exact ihn_1 (n_1 - 1) (by omega) g_24 (i + 1) _ _ _ ⟨by omega, by omega, (fun z9 h0 h1 => by rw [ug_24 z9 h0]; by_cases e9 : z9 = i; rw [if_pos e9]; rw [if_neg e9]; exact n_1f2 z9 h0 (by omega)), by omega, lv_sub hl [0, 1] rfl, hI, hO, hS, c_3, c_4, c_5, c_10, c_11, c_12, c_13, c_17, c_27, c_29, c_30, c_32, c_33, c_44⟩
set_option maxHeartbeats 4000000 in
set_option maxRecDepth 100000 in
/-- X12_counts -/
theorem m_counts (l : Launch) (dC : Nat → ClassId) (dI : Nat → Nat → Nat) (ca : Nat → ClassId) (A : Nat → Prop) (X : kGh) (o : Nat) (am : Nat → Nat) (zi : Nat → Int) (zl : Nat → Int64) (fc : Nat → Nat → Int32) (hM : mS X A o am) (hz : mZ X am zi) (hk : frk X am fc) (f : Int) (b : Int) (t : Int) (fi : 0 ≤ f ∧ f < zi 2) (bi : 0 ≤ b ∧ b ≤ 3) (bs : b < ge1 (fc 4) f) (ti : 0 ≤ t ∧ t ≤ 40) : Met l yX12_counts wsX12_counts ({ frames := 2, cells := 0, slots := 0, locals := 51 }) (va_Pc [.ref o, .int (kz f), .int (kz b), .int (kz t)] (fun U => va_K (dC, dI) vwCl (k_tys ca) U ∧ mI (dC, dI) ca A X o am zi zl U.heap ∧ frz (dC, dI) ca am fc U.heap)) (va_Qv (fun (u : Nat → Nat → Int32) => ∃ gb gm : Nat → Int32, u = cup (cup fc 32 gb) 33 gm ∧ ok20 X (am 32) 52480 (-2147483648) (2147483647) gb ∧ ok20 X (am 33) 6560 (0) (8) gm ∧ cn fc (zi 28) (zi 34) (zi 2) (zi 9) f b t gb gm) (fun u U => va_K (dC, dI) vwCl (k_tys ca) U ∧ mI (dC, dI) ca A X o am zi zl U.heap ∧ frz (dC, dI) ca am u U.heap) A) 0 0 A := by
  refine Met.ofW (cc := cX12_counts) (maxL := 11) (ret := none) (by decide) rfl ?_
  intro p e s m args below meth c s₁ B hml hv
  obtain ⟨rfl, hK, ⟨hI, hO⟩, c_3, c_4, c_5, c_10, c_11, c_12, c_13, c_17, c_27, c_29, c_30, c_32, c_33, c_44⟩ := hv
  have hx := B.exec
  have hb := B.bytes
  have hr := B.returns
  have hts := atoms_spec (ws := wsX12_counts) B.pre
  have hown : s.vm.findClass RX12 = some m.cls := findClass_of_methodNamed B.named
  have hin : ∀ w ∈ u_ws RX12 TX12 49, w ∈ wsX12_counts := by decide +kernel
  have hL85 := hts (.fieldLink RX12 85 "JoinBenchModel" "ways" "[J") (by decide +kernel)
  have hL93 := hts (.fieldLink RX12 93 "JoinBenchModel" "bestMany" "[I") (by decide +kernel)
  have hL16 := hts (.fieldLink RX12 16 "JoinBenchModel" "size" "[I") (by decide +kernel)
  have hL175 := hts (.fieldLink RX12 175 "JoinBenchModel" "lineSize" "I") (by decide +kernel)
  have hL26 := hts (.fieldLink RX12 26 "JoinBenchModel" "cost" "[I") (by decide +kernel)
  have hL131 := hts (.fieldLink RX12 131 "JoinBenchModel" "forms" "I") (by decide +kernel)
  have hL138 := hts (.fieldLink RX12 138 "JoinBenchModel" "rules" "I") (by decide +kernel)
  have hL39 := hts (.fieldLink RX12 39 "JoinBenchModel" "begins" "[I") (by decide +kernel)
  have hL45 := hts (.fieldLink RX12 45 "JoinBenchModel" "ruleCost" "[I") (by decide +kernel)
  have hL90 := hts (.fieldLink RX12 90 "JoinBenchModel" "best" "[I") (by decide +kernel)
  have g31 : X.1 (am 31) = (131, 23, 6560, 0, 0) := hM.1 31 _ rfl (by decide)
  have g33 : X.1 (am 33) = (133, 20, 6560, 0, 8) := hM.1 33 _ rfl (by decide)
  have w33 : X.2 (am 33) = 0 := hM.2.2.2 33 _ rfl (by decide) (by decide) (by decide)
  have g4 : X.1 (am 4) = (104, 20, 40, 0, 8) := hM.1 4 _ rfl (by decide)
  have g7 : X.1 (am 7) = (107, 20, 40, -2147483648, 2147483647) := hM.1 7 _ rfl (by decide)
  have w7 : X.2 (am 7) = 0 := hM.2.2.2 7 _ rfl (by decide) (by decide) (by decide)
  have g12 : X.1 (am 12) = (112, 20, 24, 0, 3) := hM.1 12 _ rfl (by decide)
  have w12 : X.2 (am 12) = 0 := hM.2.2.2 12 _ rfl (by decide) (by decide) (by decide)
  have g14 : X.1 (am 14) = (114, 20, 24, -2147483648, 2147483647) := hM.1 14 _ rfl (by decide)
  have w14 : X.2 (am 14) = 0 := hM.2.2.2 14 _ rfl (by decide) (by decide) (by decide)
  have g32 : X.1 (am 32) = (132, 20, 52480, -2147483648, 2147483647) := hM.1 32 _ rfl (by decide)
  have w32 : X.2 (am 32) = 0 := hM.2.2.2 32 _ rfl (by decide) (by decide) (by decide)
  have g3 : X.1 (am 3) = (103, 21, 320, 0, 0) := hM.1 3 _ rfl (by decide)
  have g5 : X.1 (am 5) = (105, 20, 40, 0, 5) := hM.1 5 _ rfl (by decide)
  have w5 : X.2 (am 5) = 0 := hM.2.2.2 5 _ rfl (by decide) (by decide) (by decide)
  have g10 : X.1 (am 10) = (110, 21, 240, 0, 0) := hM.1 10 _ rfl (by decide)
  have g11 : X.1 (am 11) = (111, 20, 24, 0, 3) := hM.1 11 _ rfl (by decide)
  have w11 : X.2 (am 11) = 0 := hM.2.2.2 11 _ rfl (by decide) (by decide) (by decide)
  have g13 : X.1 (am 13) = (113, 20, 24, 0, 4) := hM.1 13 _ rfl (by decide)
  have w13 : X.2 (am 13) = 0 := hM.2.2.2 13 _ rfl (by decide) (by decide) (by decide)
  have g17 : X.1 (am 17) = (117, 22, 36, 0, 0) := hM.1 17 _ rfl (by decide)
  have g27 : X.1 (am 27) = (127, 21, 40, 0, 0) := hM.1 27 _ rfl (by decide)
  have g29 : X.1 (am 29) = (129, 20, 1600, -2147483648, 2147483647) := hM.1 29 _ rfl (by decide)
  have w29 : X.2 (am 29) = 0 := hM.2.2.2 29 _ rfl (by decide) (by decide) (by decide)
  have g30 : X.1 (am 30) = (130, 22, 6560, 0, 0) := hM.1 30 _ rfl (by decide)
  have g44 : X.1 (am 44) = (144, 20, 40, 0, 8) := hM.1 44 _ rfl (by decide)
  have w44 : X.2 (am 44) = 0 := hM.2.2.2 44 _ rfl (by decide) (by decide) (by decide)
  obtain ⟨⟨z1a, z1b⟩, ⟨z2a, z2b⟩, ⟨z9a, z9b⟩, ⟨z20a, z20b⟩, ⟨z21a, z21b⟩, ⟨z22a, z22b⟩, ⟨z26a, z26b⟩, ⟨z28a, z28b⟩, ⟨z34a, z34b⟩, ⟨z35a, z35b⟩, ⟨z38a, z38b⟩, ⟨z39a, z39b⟩, ⟨z46a, z46b⟩, hzA, hzB⟩ := id hz
  obtain ⟨k_4, k_5, k_11, k_12, k_13, k_29, k_32, k_33, k_44⟩ := id hk
  obtain ⟨H, hH⟩ : ∃ H : Heap, H = s.heap := ⟨_, rfl⟩
  have hS : va_S A s.heap H [] := by rw [hH]; exact va_S.rf
  rw [← hH] at hI hO c_3 c_4 c_5 c_10 c_11 c_12 c_13 c_17 c_27 c_29 c_30 c_32 c_33 c_44 ⊢
  clear hH
  have hl := lv_entry ([.ref o, .int (kz f), .int (kz b), .int (kz t)]) (n := 11) (Nat.le_of_ble_eq_true rfl)
  rw [lg_entry_eq]
  generalize (lg_sl ([.ref o, .int (kz f), .int (kz b), .int (kz t)]) ++ List.replicate (11 - (lg_sl ([.ref o, .int (kz f), .int (kz b), .int (kz t)])).length) Slot.unset).toArray = ls at hl ⊢
  have hl : lv_has ls 11 [(0, .ref o), (1, .int (kz f)), (2, .int (kz b)), (3, .int (kz t))] := hl
  have hsz : ∀ f9 : Int, 0 ≤ f9 → f9 < zi 2 → 1 ≤ ge1 (fc 4) f9 := fun f9 h1 h2 => (k_4 f9 (by omega)).2.2 (by omega)
  have hp9 : ∀ g2 q2 : Int, stp fc (zi 28) (zi 34) (zi 2) (zi 9) f b t g2 q2 → 0 ≤ pl g2 (nb fc q2) (ds fc f b t q2) := fun g2 q2 h9 => by have s9 := stp_ok hk hsz (by omega) (by omega) ⟨by omega, by omega⟩ ⟨by omega, by omega⟩ (by omega) h9; have s8 := h9.1; unfold pl; omega
  refine lv_iload_n hx hb dX12_counts_0 rfl (lv_at hl 1 rfl) ?_
  refine lv_iload_n hx hb dX12_counts_1 rfl (lv_at hl 2 rfl) ?_
  refine lv_iload_n hx hb dX12_counts_2 rfl (lv_at hl 3 rfl) ?_
  refine vp_callSi (va_Run.run (va_runS (As := [.int (kz f), .int (kz b), .int (kz t)]) (rest := []) ⟨hx, hb, hml, hown, hts⟩ (m_placeOf l f b t) (va_cwS 3 hts gX12_counts_X12_placeOf rfl rfl rfl (by decide +kernel) ⟨Nat.le_of_ble_eq_true rfl, Nat.le_of_ble_eq_true rfl⟩) ⟨fun a U g mk q => q, fun U hU hW => ⟨rfl, trivial⟩⟩ rfl rfl hl.1 rfl (lv_room (Nat.le_of_ble_eq_true rfl)) dX12_counts_3 ⟨Nat.le_of_ble_eq_true rfl, Nat.le_of_ble_eq_true rfl⟩)) (fun r_2 hw_1 => ?_)
  obtain ⟨z_3, rfl, z_3h⟩ := hw_1
  refine lv_istore (lv' := [(4, .int (kz z_3)), (0, .ref o), (1, .int (kz f)), (2, .int (kz b)), (3, .int (kz t))]) hx hb dX12_counts_6 hl (by decide) rfl (fun ls hl => ?_)
  refine lv_aload_n hx hb dX12_counts_8 rfl (lv_at hl 1 rfl) ?_
  refine iz_get (D := (dC, dI)) (ci := 12) (v := .ref (am 31)) (C := RX12) (T := TX12) (N := 49) hx hb hts hin hown hK hO rfl 31 (by decide) hL85 (fun _ h9 => h9) rfl dX12_counts_9 ?_
  refine lv_iload hx hb dX12_counts_12 (lv_at hl 0 rfl) ?_
  refine lv_lconst (v := 0) hx hb dX12_counts_14 (by decide) ?_
  obtain ⟨f31_4, c_f31_4⟩ := iv_o23 hI g31
  refine iz_last hx hb hK 3 c_f31_4 hS (iv_A hI g31 (by decide)) rfl (by omega) (by decide) dX12_counts_15 (fun H locs c9 oq hS => ?_)
  have hI := iv_s23 hI g31 c9 oq
  have hO := hO.kept (oq _ (iv_ne0 g31 hM.2.1 (by decide)).symm)
  have c_3 := c_3.kept (oq _ (iv_ne g3 g31 (by decide)))
  have c_4 := c_4.kept (oq _ (iv_ne g4 g31 (by decide)))
  have c_5 := c_5.kept (oq _ (iv_ne g5 g31 (by decide)))
  have c_10 := c_10.kept (oq _ (iv_ne g10 g31 (by decide)))
  have c_11 := c_11.kept (oq _ (iv_ne g11 g31 (by decide)))
  have c_12 := c_12.kept (oq _ (iv_ne g12 g31 (by decide)))
  have c_13 := c_13.kept (oq _ (iv_ne g13 g31 (by decide)))
  have c_17 := c_17.kept (oq _ (iv_ne g17 g31 (by decide)))
  have c_27 := c_27.kept (oq _ (iv_ne g27 g31 (by decide)))
  have c_29 := c_29.kept (oq _ (iv_ne g29 g31 (by decide)))
  have c_30 := c_30.kept (oq _ (iv_ne g30 g31 (by decide)))
  have c_32 := c_32.kept (oq _ (iv_ne g32 g31 (by decide)))
  have c_33 := c_33.kept (oq _ (iv_ne g33 g31 (by decide)))
  have c_44 := c_44.kept (oq _ (iv_ne g44 g31 (by decide)))
  clear oq c9
  refine lv_aload_n hx hb dX12_counts_16 rfl (lv_at hl 1 rfl) ?_
  refine iz_get (D := (dC, dI)) (ci := 12) (v := .ref (am 33)) (C := RX12) (T := TX12) (N := 49) hx hb hts hin hown hK hO rfl 33 (by decide) hL93 (fun _ h9 => h9) rfl dX12_counts_17 ?_
  refine lv_iload hx hb dX12_counts_20 (lv_at hl 0 rfl) ?_
  refine lv_iconst (v := kz 0) hx hb dX12_counts_22 rfl ?_
  refine iz_iast hx hb hK 0 c_33 hS (iv_A hI g33 (by decide)) rfl (by omega) (by decide) dX12_counts_23 (fun H locs c9 oq hS => ?_)
  have hI := iv_s20 hI g33 k_33 c9 oq (by omega) (by omega) (by decide) (by omega)
  have hO := hO.kept (oq _ (iv_ne0 g33 hM.2.1 (by decide)).symm)
  have c_3 := c_3.kept (oq _ (iv_ne g3 g33 (by decide)))
  have c_4 := c_4.kept (oq _ (iv_ne g4 g33 (by decide)))
  have c_5 := c_5.kept (oq _ (iv_ne g5 g33 (by decide)))
  have c_10 := c_10.kept (oq _ (iv_ne g10 g33 (by decide)))
  have c_11 := c_11.kept (oq _ (iv_ne g11 g33 (by decide)))
  have c_12 := c_12.kept (oq _ (iv_ne g12 g33 (by decide)))
  have c_13 := c_13.kept (oq _ (iv_ne g13 g33 (by decide)))
  have c_17 := c_17.kept (oq _ (iv_ne g17 g33 (by decide)))
  have c_27 := c_27.kept (oq _ (iv_ne g27 g33 (by decide)))
  have c_29 := c_29.kept (oq _ (iv_ne g29 g33 (by decide)))
  have c_30 := c_30.kept (oq _ (iv_ne g30 g33 (by decide)))
  have c_32 := c_32.kept (oq _ (iv_ne g32 g33 (by decide)))
  have c_44 := c_44.kept (oq _ (iv_ne g44 g33 (by decide)))
  have k_g_5 : ok20 X (am 33) 6560 (0) (8) (upd (fc 33) (Int.toNat z_3) (kz 0)) := ok20_set k_33 (by omega) (by omega) (by decide) (by omega)
  obtain ⟨g_5, eg_5⟩ : ∃ g9 : Nat → Int32, g9 = upd (fc 33) (Int.toNat z_3) (kz 0) := ⟨_, rfl⟩
  rw [← eg_5] at c9 k_g_5
  clear oq
  have c_33 := c9
  clear c9
  have ug_5 : ∀ w : Int, 0 ≤ w → ge1 g_5 w = if w = z_3 then 0 else ge1 (fc 33) w := fun w hw => by rw [eg_5]; exact ge1_upd (fc 33) (by omega) hw (by omega) (by omega)
  refine lv_aload_n hx hb dX12_counts_24 rfl (lv_at hl 1 rfl) ?_
  refine lv_iload_n hx hb dX12_counts_25 rfl (lv_at hl 2 rfl) ?_
  refine lv_iload_n hx hb dX12_counts_26 rfl (lv_at hl 3 rfl) ?_
  refine lv_aload_n hx hb dX12_counts_27 rfl (lv_at hl 1 rfl) ?_
  refine iz_get (D := (dC, dI)) (ci := 12) (v := .ref (am 4)) (C := RX12) (T := TX12) (N := 49) hx hb hts hin hown hK hO rfl 4 (by decide) hL16 (fun _ h9 => h9) rfl dX12_counts_28 ?_
  refine lv_iload_n hx hb dX12_counts_31 rfl (lv_at hl 2 rfl) ?_
  refine iz_iald hx hb hK 0 c_4 rfl (by omega) (by decide) dX12_counts_32 ?_
  obtain ⟨v_6a, v_6b, v_6c⟩ := k_4 f (by omega)
  obtain ⟨v_6, ev_6⟩ : ∃ z9 : Int, ge1 (fc 4) f = z9 := ⟨_, rfl⟩
  rw [ev_6] at v_6a v_6b v_6c ⊢
  refine lv_iload_n hx hb dX12_counts_33 rfl (lv_at hl 4 rfl) ?_
  refine vp_callSi (va_Run.run (va_runV (As := [.int (kz f), .int (kz b), .int (kz v_6), .int (kz t)]) (rest := []) ⟨hx, hb, hml, hown, hts⟩ (m_behind l dC dI ca A X o am zi zl (cup fc 33 g_5) hM hz ⟨k_4, k_5, k_11, k_12, k_13, k_29, k_32, k_g_5, k_44⟩ f b v_6 t (by omega) (by omega) (by omega) (by omega)) (cwV 4 hts gX12_counts_X12_behind rfl rfl rfl (by decide +kernel) ⟨Nat.le_of_ble_eq_true rfl, Nat.le_of_ble_eq_true rfl⟩) ⟨fun a U g mk q => by obtain ⟨q0, qK, qI⟩ := q; exact ⟨q0, va_K.moved (u := U) (U := U.calling g mk a) (Vm.Alike.refl U.vm) qK, qI⟩, va_recv hK (at_P hO) (ci := 12) (q0 := 0) rfl rfl, fun U hU hW => ⟨rfl, va_K.moved hW.alike hK, by rw [hU]; exact ⟨⟨hI, hO⟩, c_3, c_4, c_5, c_10, c_11, c_12, c_13, c_17, c_27, c_29, c_30, c_32, c_33, c_44⟩⟩⟩ rfl rfl hl.1 rfl (lv_room (Nat.le_of_ble_eq_true rfl)) dX12_counts_34 ⟨Nat.le_of_ble_eq_true rfl, Nat.le_of_ble_eq_true rfl⟩)) (fun r_8 hw_7 => ?_)
  rcases hw_7 with ⟨hw_7, rfl⟩ | ⟨hw_7, rfl⟩
  · refine lv_aload_n hx hb dX12_counts_37 rfl (lv_at hl 1 rfl) ?_
    refine iz_get (D := (dC, dI)) (ci := 12) (v := .int (kz (zi 28))) (C := RX12) (T := TX12) (N := 49) hx hb hts hin hown hK hO rfl 28 (by decide) hL175 (fun _ h9 => h9) rfl dX12_counts_38 ?_
    refine iz_ne (tgt := 67) hx hb dX12_counts_41 (by decide) (by unfold rg2; omega) (fun br_9 => ?_) (fun br_9 => ?_)
    · refine lv_iconst (v := kz 0) hx hb dX12_counts_67 rfl ?_
      refine lv_istore (lv' := [(5, .int (kz 0)), (4, .int (kz z_3)), (0, .ref o), (1, .int (kz f)), (2, .int (kz b)), (3, .int (kz t))]) hx hb dX12_counts_68 hl (by decide) rfl (fun ls hl => ?_)
      refine iz_loopA1 (α := (Nat → Int32) × (Nat → Int32)) (P := fun N9 fn9 g1 H locs ls => (0 ≤ g1) ∧ (g1 ≤ 40) ∧ (cn fc (zi 28) (zi 34) (zi 2) (zi 9) f b t fn9.1 fn9.2) ∧ 40 - g1 ≤ (N9 : Int) ∧ lv_has ls 11 [(5, .int (kz g1)), (4, .int (kz z_3)), (0, .ref o), (1, .int (kz f)), (2, .int (kz b)), (3, .int (kz t))] ∧ iv (dC, dI) ca A X H ∧ va_at (dC, dI) vwCl (o, .inr (12, mM am zi zl)) H ∧ va_S A s.heap H locs ∧ va_at (dC, dI) vwCl (am 3, .inl (ca 21, 320, .inl (fc 3))) H ∧ va_at (dC, dI) vwCl (am 4, .inl (ca 20, 40, .inl (fc 4))) H ∧ va_at (dC, dI) vwCl (am 5, .inl (ca 20, 40, .inl (fc 5))) H ∧ va_at (dC, dI) vwCl (am 10, .inl (ca 21, 240, .inl (fc 10))) H ∧ va_at (dC, dI) vwCl (am 11, .inl (ca 20, 24, .inl (fc 11))) H ∧ va_at (dC, dI) vwCl (am 12, .inl (ca 20, 24, .inl (fc 12))) H ∧ va_at (dC, dI) vwCl (am 13, .inl (ca 20, 24, .inl (fc 13))) H ∧ va_at (dC, dI) vwCl (am 17, .inl (ca 22, 36, .inl (fc 17))) H ∧ va_at (dC, dI) vwCl (am 27, .inl (ca 21, 40, .inl (fc 27))) H ∧ va_at (dC, dI) vwCl (am 29, .inl (ca 20, 1600, .inl (fc 29))) H ∧ va_at (dC, dI) vwCl (am 30, .inl (ca 22, 6560, .inl (fc 30))) H ∧ va_at (dC, dI) vwCl (am 32, .inl (ca 20, 52480, .inl fn9.1)) H ∧ va_at (dC, dI) vwCl (am 33, .inl (ca 20, 6560, .inl fn9.2)) H ∧ va_at (dC, dI) vwCl (am 44, .inl (ca 20, 40, .inl (fc 44))) H ∧ ok20 X (am 32) 52480 (-2147483648) (2147483647) fn9.1 ∧ ok20 X (am 33) 6560 (0) (8) fn9.2) 100000 ((fc 32), g_5) (x0 := 0) ?_ ⟨by omega, by omega, (cn_0 z_3h (by omega) ug_5), by omega, lv_sub hl [0, 1, 2, 3, 4, 5] rfl, hI, hO, hS, c_3, c_4, c_5, c_10, c_11, c_12, c_13, c_17, c_27, c_29, c_30, c_32, c_33, c_44, k_32, k_g_5⟩
      intro n_10 ⟨gb, gm⟩ g1 H locs ls ⟨n_10f0, n_10f1, n_10f2, n_10f3, hl, hI, hO, hS, c_3, c_4, c_5, c_10, c_11, c_12, c_13, c_17, c_27, c_29, c_30, c_32, c_33, c_44, k_gb, k_gm⟩ ihn_10
      have n_10f2 : cn fc (zi 28) (zi 34) (zi 2) (zi 9) f b t gb gm := n_10f2
      have c_32 : va_at (dC, dI) vwCl (am 32, .inl (ca 20, 52480, .inl gb)) H := c_32
      have k_gb : ok20 X (am 32) 52480 (-2147483648) (2147483647) gb := k_gb
      have c_33 : va_at (dC, dI) vwCl (am 33, .inl (ca 20, 6560, .inl gm)) H := c_33
      have k_gm : ok20 X (am 33) 6560 (0) (8) gm := k_gm
      refine lv_iload hx hb dX12_counts_70 (lv_at hl 0 rfl) ?_
      refine lv_aload_n hx hb dX12_counts_72 rfl (lv_at hl 2 rfl) ?_
      refine iz_get (D := (dC, dI)) (ci := 12) (v := .int (kz (zi 2))) (C := RX12) (T := TX12) (N := 49) hx hb hts hin hown hK hO rfl 2 (by decide) hL131 (fun _ h9 => h9) rfl dX12_counts_73 ?_
      refine iz_ge (tgt := 280) hx hb dX12_counts_76 (by decide) (by unfold rg2; omega) (fun br_11 => ?_) (fun br_11 => ?_)
      · exact W.vret hx hb hr (fun t9 ht hW => ⟨⟨(cup (cup fc 32 gb) 33 gm), rfl, ⟨gb, gm, rfl, k_gb, k_gm, n_10f2⟩, va_K.moved hW.alike hK, by rw [ht]; exact ⟨hI, hO⟩, by rw [ht]; exact ⟨c_3, c_4, c_5, c_10, c_11, c_12, c_13, c_17, c_27, c_29, c_30, c_32, c_33, c_44⟩⟩, hS.F ht⟩) hS.2.2 dX12_counts_280
      · refine lv_iconst (v := kz (-1)) hx hb dX12_counts_79 rfl ?_
        refine lv_istore (lv' := [(6, .int (kz (-1))), (5, .int (kz g1)), (4, .int (kz z_3)), (0, .ref o), (1, .int (kz f)), (2, .int (kz b)), (3, .int (kz t))]) hx hb dX12_counts_80 hl (by decide) rfl (fun ls hl => ?_)
        refine iz_loopA1 (α := (Nat → Int32) × (Nat → Int32)) (P := fun N9 fn9 q H locs ls => (-1 ≤ q) ∧ (q ≤ 24) ∧ (cn fc (zi 28) (zi 34) (zi 2) (zi 9) f b t fn9.1 fn9.2) ∧ 24 - q ≤ (N9 : Int) ∧ lv_has ls 11 [(6, .int (kz q)), (5, .int (kz g1)), (4, .int (kz z_3)), (0, .ref o), (1, .int (kz f)), (2, .int (kz b)), (3, .int (kz t))] ∧ iv (dC, dI) ca A X H ∧ va_at (dC, dI) vwCl (o, .inr (12, mM am zi zl)) H ∧ va_S A s.heap H locs ∧ va_at (dC, dI) vwCl (am 3, .inl (ca 21, 320, .inl (fc 3))) H ∧ va_at (dC, dI) vwCl (am 4, .inl (ca 20, 40, .inl (fc 4))) H ∧ va_at (dC, dI) vwCl (am 5, .inl (ca 20, 40, .inl (fc 5))) H ∧ va_at (dC, dI) vwCl (am 10, .inl (ca 21, 240, .inl (fc 10))) H ∧ va_at (dC, dI) vwCl (am 11, .inl (ca 20, 24, .inl (fc 11))) H ∧ va_at (dC, dI) vwCl (am 12, .inl (ca 20, 24, .inl (fc 12))) H ∧ va_at (dC, dI) vwCl (am 13, .inl (ca 20, 24, .inl (fc 13))) H ∧ va_at (dC, dI) vwCl (am 17, .inl (ca 22, 36, .inl (fc 17))) H ∧ va_at (dC, dI) vwCl (am 27, .inl (ca 21, 40, .inl (fc 27))) H ∧ va_at (dC, dI) vwCl (am 29, .inl (ca 20, 1600, .inl (fc 29))) H ∧ va_at (dC, dI) vwCl (am 30, .inl (ca 22, 6560, .inl (fc 30))) H ∧ va_at (dC, dI) vwCl (am 32, .inl (ca 20, 52480, .inl fn9.1)) H ∧ va_at (dC, dI) vwCl (am 33, .inl (ca 20, 6560, .inl fn9.2)) H ∧ va_at (dC, dI) vwCl (am 44, .inl (ca 20, 40, .inl (fc 44))) H ∧ ok20 X (am 32) 52480 (-2147483648) (2147483647) fn9.1 ∧ ok20 X (am 33) 6560 (0) (8) fn9.2) 100000 (gb, gm) (x0 := (-1)) ?_ ⟨by omega, by omega, n_10f2, by omega, lv_sub hl [0, 1, 2, 3, 4, 5, 6] rfl, hI, hO, hS, c_3, c_4, c_5, c_10, c_11, c_12, c_13, c_17, c_27, c_29, c_30, c_32, c_33, c_44, k_gb, k_gm⟩
        intro n_12 ⟨gb, gm⟩ q H locs ls ⟨n_12f0, n_12f1, n_12f2, n_12f3, hl, hI, hO, hS, c_3, c_4, c_5, c_10, c_11, c_12, c_13, c_17, c_27, c_29, c_30, c_32, c_33, c_44, k_gb, k_gm⟩ ihn_12
        have n_12f2 : cn fc (zi 28) (zi 34) (zi 2) (zi 9) f b t gb gm := n_12f2
        have c_32 : va_at (dC, dI) vwCl (am 32, .inl (ca 20, 52480, .inl gb)) H := c_32
        have k_gb : ok20 X (am 32) 52480 (-2147483648) (2147483647) gb := k_gb
        have c_33 : va_at (dC, dI) vwCl (am 33, .inl (ca 20, 6560, .inl gm)) H := c_33
        have k_gm : ok20 X (am 33) 6560 (0) (8) gm := k_gm
        refine lv_iload hx hb dX12_counts_82 (lv_at hl 0 rfl) ?_
        refine lv_aload_n hx hb dX12_counts_84 rfl (lv_at hl 3 rfl) ?_
        refine iz_get (D := (dC, dI)) (ci := 12) (v := .int (kz (zi 9))) (C := RX12) (T := TX12) (N := 49) hx hb hts hin hown hK hO rfl 9 (by decide) hL138 (fun _ h9 => h9) rfl dX12_counts_85 ?_
        refine iz_ge (tgt := 274) hx hb dX12_counts_88 (by decide) (by unfold rg2; omega) (fun br_13 => ?_) (fun br_13 => ?_)
        · refine lv_iinc (v := kz (g1 + 1)) (lv' := [(5, .int (kz (g1 + 1))), (6, .int (kz q)), (4, .int (kz z_3)), (0, .ref o), (1, .int (kz f)), (2, .int (kz b)), (3, .int (kz t))]) hx hb dX12_counts_274 hl (k := 1) rfl (kz_add g1 1) (by decide) rfl (fun ls hl => ?_)
          refine lv_goto (tgt := 70) hx hb dX12_counts_277 (by decide) ?_
          exact ihn_10 (n_10 - 1) (by omega) (gb, gm) (g1 + 1) _ _ _ ⟨by omega, by omega, n_12f2, by omega, lv_sub hl [0, 2, 3, 4, 5, 6] rfl, hI, hO, hS, c_3, c_4, c_5, c_10, c_11, c_12, c_13, c_17, c_27, c_29, c_30, c_32, c_33, c_44, k_gb, k_gm⟩
        · refine lv_aload_n hx hb dX12_counts_91 rfl (lv_at hl 3 rfl) ?_
          refine lv_iload_n hx hb dX12_counts_92 rfl (lv_at hl 4 rfl) ?_
          refine lv_iload hx hb dX12_counts_93 (lv_at hl 1 rfl) ?_
          refine lv_iload hx hb dX12_counts_95 (lv_at hl 0 rfl) ?_
          refine vp_callSi (va_Run.run (va_runV (As := [.int (kz f), .int (kz g1), .int (kz q)]) (rest := []) ⟨hx, hb, hml, hown, hts⟩ (m_isBetween l dC dI ca A X o am zi zl (cup (cup fc 32 gb) 33 gm) hM hz ⟨k_4, k_5, k_11, k_12, k_13, k_29, k_gb, k_gm, k_44⟩ f g1 q (by omega) (by omega) (by omega)) (cwV 3 hts gX12_counts_X12_isBetween rfl rfl rfl (by decide +kernel) ⟨Nat.le_of_ble_eq_true rfl, Nat.le_of_ble_eq_true rfl⟩) ⟨fun a U g mk q => by obtain ⟨q0, qK, qI⟩ := q; exact ⟨q0, va_K.moved (u := U) (U := U.calling g mk a) (Vm.Alike.refl U.vm) qK, qI⟩, va_recv hK (at_P hO) (ci := 12) (q0 := 0) rfl rfl, fun U hU hW => ⟨rfl, va_K.moved hW.alike hK, by rw [hU]; exact ⟨⟨hI, hO⟩, c_3, c_4, c_5, c_10, c_11, c_12, c_13, c_17, c_27, c_29, c_30, c_32, c_33, c_44⟩⟩⟩ rfl rfl hl.1 rfl (lv_room (Nat.le_of_ble_eq_true rfl)) dX12_counts_97 ⟨Nat.le_of_ble_eq_true rfl, Nat.le_of_ble_eq_true rfl⟩)) (fun r_15 hw_14 => ?_)
          rcases hw_14 with ⟨rfl, hw_14⟩ | ⟨rfl, hw_14⟩
          · have hw_14 : bw fc (zi 34) f g1 q := hw_14
            refine iz_nez (tgt := 106) hx hb dX12_counts_100 (by decide) (by unfold rg2; omega) (fun _ => ?_) (fun q9 => absurd q9 (by decide))
            refine lv_aload_n hx hb dX12_counts_106 rfl (lv_at hl 3 rfl) ?_
            refine lv_iload_n hx hb dX12_counts_107 rfl (lv_at hl 4 rfl) ?_
            refine lv_iload_n hx hb dX12_counts_108 rfl (lv_at hl 5 rfl) ?_
            refine lv_iload_n hx hb dX12_counts_109 rfl (lv_at hl 6 rfl) ?_
            refine lv_iload hx hb dX12_counts_110 (lv_at hl 0 rfl) ?_
            refine vp_callSi (va_Run.run (va_runV (As := [.int (kz f), .int (kz b), .int (kz t), .int (kz q)]) (rest := []) ⟨hx, hb, hml, hown, hts⟩ (m_passes l dC dI ca A X o am zi zl (cup (cup fc 32 gb) 33 gm) hM hz ⟨k_4, k_5, k_11, k_12, k_13, k_29, k_gb, k_gm, k_44⟩ f b t q (by omega) (by omega) (by show b ≤ ge1 (fc 4) f; omega) (by omega) (by omega)) (cwV 4 hts gX12_counts_X12_passes rfl rfl rfl (by decide +kernel) ⟨Nat.le_of_ble_eq_true rfl, Nat.le_of_ble_eq_true rfl⟩) ⟨fun a U g mk q => by obtain ⟨q0, qK, qI⟩ := q; exact ⟨q0, va_K.moved (u := U) (U := U.calling g mk a) (Vm.Alike.refl U.vm) qK, qI⟩, va_recv hK (at_P hO) (ci := 12) (q0 := 0) rfl rfl, fun U hU hW => ⟨rfl, va_K.moved hW.alike hK, by rw [hU]; exact ⟨⟨hI, hO⟩, c_3, c_4, c_5, c_10, c_11, c_12, c_13, c_17, c_27, c_29, c_30, c_32, c_33, c_44⟩⟩⟩ rfl rfl hl.1 rfl (lv_room (Nat.le_of_ble_eq_true rfl)) dX12_counts_112 ⟨Nat.le_of_ble_eq_true rfl, Nat.le_of_ble_eq_true rfl⟩)) (fun r_17 hw_16 => ?_)
            rcases hw_16 with ⟨hw_16, rfl⟩ | ⟨hw_16, rfl⟩
            · have hw_16 : ps fc (zi 28) f b t q := hw_16
              obtain ⟨z_18, ez_18⟩ : ∃ z9 : Int, z9 = ds (cup (cup fc 32 gb) 33 gm) f b t q := ⟨_, rfl⟩
              rw [← ez_18]
              have ez_18 : z_18 = ds fc f b t q := ez_18
              have rz_18 := ds_rng (X := X) (am := am) (fc := fc) hk (by omega) (by omega) (by omega) (by omega) hw_16
              rw [← ez_18] at rz_18
              refine lv_istore (lv' := [(7, .int (kz z_18)), (6, .int (kz q)), (5, .int (kz g1)), (4, .int (kz z_3)), (0, .ref o), (1, .int (kz f)), (2, .int (kz b)), (3, .int (kz t))]) hx hb dX12_counts_115 hl (by decide) rfl (fun ls hl => ?_)
              refine lv_iload hx hb dX12_counts_117 (lv_at hl 0 rfl) ?_
              refine iz_gez (tgt := 125) hx hb dX12_counts_119 (by decide) (by unfold rg2; omega) (fun br_19 => ?_) (fun br_19 => ?_)
              · refine lv_iload hx hb dX12_counts_125 (lv_at hl 2 rfl) ?_
                refine lv_iload hx hb dX12_counts_127 (lv_at hl 1 rfl) ?_
                refine iz_gez (tgt := 136) hx hb dX12_counts_129 (by decide) (by unfold rg2; omega) (fun br_20 => ?_) (fun br_20 => ?_)
                · refine lv_aload_n hx hb dX12_counts_136 rfl (lv_at hl 4 rfl) ?_
                  refine iz_get (D := (dC, dI)) (ci := 12) (v := .ref (am 12)) (C := RX12) (T := TX12) (N := 49) hx hb hts hin hown hK hO rfl 12 (by decide) hL39 (fun _ h9 => h9) rfl dX12_counts_137 ?_
                  refine lv_iload hx hb dX12_counts_140 (lv_at hl 1 rfl) ?_
                  refine iz_iald hx hb hK 0 c_12 rfl (by omega) (by decide) dX12_counts_142 ?_
                  obtain ⟨v_21a, v_21b, v_21c⟩ := k_12 q (by omega)
                  clear v_21c
                  obtain ⟨v_21, ev_21⟩ : ∃ z9 : Int, ge1 (fc 12) q = z9 := ⟨_, rfl⟩
                  rw [ev_21] at v_21a v_21b ⊢
                  refine lv_iload hx hb dX12_counts_143 (lv_at hl 0 rfl) ?_
                  refine vp_callSi (va_Run.run (va_runS (As := [.int (kz g1), .int (kz v_21), .int (kz z_18)]) (rest := []) ⟨hx, hb, hml, hown, hts⟩ (m_placeOf l g1 v_21 z_18) (va_cwS 3 hts gX12_counts_X12_placeOf rfl rfl rfl (by decide +kernel) ⟨Nat.le_of_ble_eq_true rfl, Nat.le_of_ble_eq_true rfl⟩) ⟨fun a U g mk q => q, fun U hU hW => ⟨rfl, trivial⟩⟩ rfl rfl hl.1 rfl (lv_room (Nat.le_of_ble_eq_true rfl)) dX12_counts_145 ⟨Nat.le_of_ble_eq_true rfl, Nat.le_of_ble_eq_true rfl⟩)) (fun r_23 hw_22 => ?_)
                  obtain ⟨z_24, rfl, z_24h⟩ := hw_22
                  refine lv_istore (lv' := [(8, .int (kz z_24)), (7, .int (kz z_18)), (6, .int (kz q)), (5, .int (kz g1)), (4, .int (kz z_3)), (0, .ref o), (1, .int (kz f)), (2, .int (kz b)), (3, .int (kz t))]) hx hb dX12_counts_148 hl (by decide) rfl (fun ls hl => ?_)
                  refine lv_aload_n hx hb dX12_counts_150 rfl (lv_at hl 5 rfl) ?_
                  refine iz_get (D := (dC, dI)) (ci := 12) (v := .ref (am 31)) (C := RX12) (T := TX12) (N := 49) hx hb hts hin hown hK hO rfl 31 (by decide) hL85 (fun _ h9 => h9) rfl dX12_counts_151 ?_
                  refine lv_iload hx hb dX12_counts_154 (lv_at hl 4 rfl) ?_
                  refine lv_aload_n hx hb dX12_counts_156 rfl (lv_at hl 5 rfl) ?_
                  refine iz_get (D := (dC, dI)) (ci := 12) (v := .ref (am 31)) (C := RX12) (T := TX12) (N := 49) hx hb hts hin hown hK hO rfl 31 (by decide) hL85 (fun _ h9 => h9) rfl dX12_counts_157 ?_
                  refine lv_iload hx hb dX12_counts_160 (lv_at hl 4 rfl) ?_
                  obtain ⟨f31_25, c_f31_25⟩ := iv_o23 hI g31
                  refine iz_lald hx hb hK 3 c_f31_25 rfl (by omega) (by decide) dX12_counts_162 ?_
                  refine lv_topl (fun y_26 ey_26 => ?_)
                  refine lv_aload_n hx hb dX12_counts_163 rfl (lv_at hl 5 rfl) ?_
                  refine iz_get (D := (dC, dI)) (ci := 12) (v := .ref (am 31)) (C := RX12) (T := TX12) (N := 49) hx hb hts hin hown hK hO rfl 31 (by decide) hL85 (fun _ h9 => h9) rfl dX12_counts_164 ?_
                  refine lv_iload hx hb dX12_counts_167 (lv_at hl 0 rfl) ?_
                  refine iz_lald hx hb hK 3 c_f31_25 rfl (by omega) (by decide) dX12_counts_169 ?_
                  refine lv_topl (fun y_27 ey_27 => ?_)
                  refine vp_callSl (va_Run.run (va_runS (As := [.long y_26, .long y_27]) (rest := [.int (kz z_3), .ref (am 31)]) ⟨hx, hb, hml, hown, hts⟩ (m_plus l y_26 y_27) (va_cwS 2 hts gX12_counts_X12_plus rfl rfl rfl (by decide +kernel) ⟨Nat.le_of_ble_eq_true rfl, Nat.le_of_ble_eq_true rfl⟩) ⟨fun a U g mk q => q, fun U hU hW => ⟨rfl, trivial⟩⟩ rfl rfl hl.1 rfl (lv_room (Nat.le_of_ble_eq_true rfl)) dX12_counts_170 ⟨Nat.le_of_ble_eq_true rfl, Nat.le_of_ble_eq_true rfl⟩)) (fun r_29 hw_28 => ?_)
                  refine iz_last hx hb hK 3 c_f31_25 hS (iv_A hI g31 (by decide)) rfl (by omega) (by decide) dX12_counts_173 (fun H locs c9 oq hS => ?_)
                  have hI := iv_s23 hI g31 c9 oq
                  have hO := hO.kept (oq _ (iv_ne0 g31 hM.2.1 (by decide)).symm)
                  have c_3 := c_3.kept (oq _ (iv_ne g3 g31 (by decide)))
                  have c_4 := c_4.kept (oq _ (iv_ne g4 g31 (by decide)))
                  have c_5 := c_5.kept (oq _ (iv_ne g5 g31 (by decide)))
                  have c_10 := c_10.kept (oq _ (iv_ne g10 g31 (by decide)))
                  have c_11 := c_11.kept (oq _ (iv_ne g11 g31 (by decide)))
                  have c_12 := c_12.kept (oq _ (iv_ne g12 g31 (by decide)))
                  have c_13 := c_13.kept (oq _ (iv_ne g13 g31 (by decide)))
                  have c_17 := c_17.kept (oq _ (iv_ne g17 g31 (by decide)))
                  have c_27 := c_27.kept (oq _ (iv_ne g27 g31 (by decide)))
                  have c_29 := c_29.kept (oq _ (iv_ne g29 g31 (by decide)))
                  have c_30 := c_30.kept (oq _ (iv_ne g30 g31 (by decide)))
                  have c_32 := c_32.kept (oq _ (iv_ne g32 g31 (by decide)))
                  have c_33 := c_33.kept (oq _ (iv_ne g33 g31 (by decide)))
                  have c_44 := c_44.kept (oq _ (iv_ne g44 g31 (by decide)))
                  clear oq c9
                  refine lv_aload_n hx hb dX12_counts_174 rfl (lv_at hl 5 rfl) ?_
                  refine iz_get (D := (dC, dI)) (ci := 12) (v := .ref (am 7)) (C := RX12) (T := TX12) (N := 49) hx hb hts hin hown hK hO rfl 7 (by decide) hL26 (fun _ h9 => h9) rfl dX12_counts_175 ?_
                  refine lv_iload_n hx hb dX12_counts_178 rfl (lv_at hl 6 rfl) ?_
                  obtain ⟨f7_30, c_f7_30, k_f7_30⟩ := iv_o20 hI g7
                  refine iz_iald hx hb hK 0 c_f7_30 rfl (by omega) (by decide) dX12_counts_179 ?_
                  obtain ⟨v_31a, v_31b, v_31c⟩ := k_f7_30 f (by omega)
                  clear v_31c
                  obtain ⟨v_31, ev_31⟩ : ∃ z9 : Int, ge1 f7_30 f = z9 := ⟨_, rfl⟩
                  rw [ev_31] at v_31a v_31b ⊢
                  refine lv_iload hx hb dX12_counts_180 (lv_at hl 2 rfl) ?_
                  refine iz_gez (tgt := 189) hx hb dX12_counts_182 (by decide) (by unfold rg2; omega) (fun br_32 => ?_) (fun br_32 => ?_)
                  · refine lv_aload_n hx hb dX12_counts_189 rfl (lv_at hl 5 rfl) ?_
                    refine iz_get (D := (dC, dI)) (ci := 12) (v := .ref (am 14)) (C := RX12) (T := TX12) (N := 49) hx hb hts hin hown hK hO rfl 14 (by decide) hL45 (fun _ h9 => h9) rfl dX12_counts_190 ?_
                    refine lv_iload hx hb dX12_counts_193 (lv_at hl 2 rfl) ?_
                    obtain ⟨f14_33, c_f14_33, k_f14_33⟩ := iv_o20 hI g14
                    refine iz_iald hx hb hK 0 c_f14_33 rfl (by omega) (by decide) dX12_counts_195 ?_
                    obtain ⟨v_34a, v_34b, v_34c⟩ := k_f14_33 q (by omega)
                    clear v_34c
                    obtain ⟨v_34, ev_34⟩ : ∃ z9 : Int, ge1 f14_33 q = z9 := ⟨_, rfl⟩
                    rw [ev_34] at v_34a v_34b ⊢
                    refine iz_iadd hx hb dX12_counts_196 ?_
                    refine lv_istore (lv' := [(9, .int (kz (v_31 + v_34))), (8, .int (kz z_24)), (7, .int (kz z_18)), (6, .int (kz q)), (5, .int (kz g1)), (4, .int (kz z_3)), (0, .ref o), (1, .int (kz f)), (2, .int (kz b)), (3, .int (kz t))]) hx hb dX12_counts_197 hl (by decide) rfl (fun ls hl => ?_)
                    refine lv_iconst (v := kz 0) hx hb dX12_counts_199 rfl ?_
                    refine lv_istore (lv' := [(10, .int (kz 0)), (9, .int (kz (v_31 + v_34))), (8, .int (kz z_24)), (7, .int (kz z_18)), (6, .int (kz q)), (5, .int (kz g1)), (4, .int (kz z_3)), (0, .ref o), (1, .int (kz f)), (2, .int (kz b)), (3, .int (kz t))]) hx hb dX12_counts_200 hl (by decide) rfl (fun ls hl => ?_)
                    refine iz_loopA1 (α := (Nat → Int32) × (Nat → Int32)) (P := fun N9 fn9 k H locs ls => (0 ≤ k) ∧ (k ≤ 8) ∧ (cn fc (zi 28) (zi 34) (zi 2) (zi 9) f b t fn9.1 fn9.2) ∧ 8 - k ≤ (N9 : Int) ∧ lv_has ls 11 [(10, .int (kz k)), (9, .int (kz (v_31 + v_34))), (8, .int (kz z_24)), (7, .int (kz z_18)), (6, .int (kz q)), (5, .int (kz g1)), (4, .int (kz z_3)), (0, .ref o), (1, .int (kz f)), (2, .int (kz b)), (3, .int (kz t))] ∧ iv (dC, dI) ca A X H ∧ va_at (dC, dI) vwCl (o, .inr (12, mM am zi zl)) H ∧ va_S A s.heap H locs ∧ va_at (dC, dI) vwCl (am 3, .inl (ca 21, 320, .inl (fc 3))) H ∧ va_at (dC, dI) vwCl (am 4, .inl (ca 20, 40, .inl (fc 4))) H ∧ va_at (dC, dI) vwCl (am 5, .inl (ca 20, 40, .inl (fc 5))) H ∧ va_at (dC, dI) vwCl (am 10, .inl (ca 21, 240, .inl (fc 10))) H ∧ va_at (dC, dI) vwCl (am 11, .inl (ca 20, 24, .inl (fc 11))) H ∧ va_at (dC, dI) vwCl (am 12, .inl (ca 20, 24, .inl (fc 12))) H ∧ va_at (dC, dI) vwCl (am 13, .inl (ca 20, 24, .inl (fc 13))) H ∧ va_at (dC, dI) vwCl (am 17, .inl (ca 22, 36, .inl (fc 17))) H ∧ va_at (dC, dI) vwCl (am 27, .inl (ca 21, 40, .inl (fc 27))) H ∧ va_at (dC, dI) vwCl (am 29, .inl (ca 20, 1600, .inl (fc 29))) H ∧ va_at (dC, dI) vwCl (am 30, .inl (ca 22, 6560, .inl (fc 30))) H ∧ va_at (dC, dI) vwCl (am 32, .inl (ca 20, 52480, .inl fn9.1)) H ∧ va_at (dC, dI) vwCl (am 33, .inl (ca 20, 6560, .inl fn9.2)) H ∧ va_at (dC, dI) vwCl (am 44, .inl (ca 20, 40, .inl (fc 44))) H ∧ ok20 X (am 32) 52480 (-2147483648) (2147483647) fn9.1 ∧ ok20 X (am 33) 6560 (0) (8) fn9.2) 100000 (gb, gm) (x0 := 0) ?_ ⟨by omega, by omega, n_12f2, by omega, lv_sub hl [0, 1, 2, 3, 4, 5, 6, 7, 8, 9, 10] rfl, hI, hO, hS, c_3, c_4, c_5, c_10, c_11, c_12, c_13, c_17, c_27, c_29, c_30, c_32, c_33, c_44, k_gb, k_gm⟩
                    intro n_35 ⟨gb, gm⟩ k H locs ls ⟨n_35f0, n_35f1, n_35f2, n_35f3, hl, hI, hO, hS, c_3, c_4, c_5, c_10, c_11, c_12, c_13, c_17, c_27, c_29, c_30, c_32, c_33, c_44, k_gb, k_gm⟩ ihn_35
                    have n_35f2 : cn fc (zi 28) (zi 34) (zi 2) (zi 9) f b t gb gm := n_35f2
                    have c_32 : va_at (dC, dI) vwCl (am 32, .inl (ca 20, 52480, .inl gb)) H := c_32
                    have k_gb : ok20 X (am 32) 52480 (-2147483648) (2147483647) gb := k_gb
                    have c_33 : va_at (dC, dI) vwCl (am 33, .inl (ca 20, 6560, .inl gm)) H := c_33
                    have k_gm : ok20 X (am 33) 6560 (0) (8) gm := k_gm
                    refine lv_iload hx hb dX12_counts_202 (lv_at hl 0 rfl) ?_
                    refine lv_aload_n hx hb dX12_counts_204 rfl (lv_at hl 7 rfl) ?_
                    refine iz_get (D := (dC, dI)) (ci := 12) (v := .ref (am 33)) (C := RX12) (T := TX12) (N := 49) hx hb hts hin hown hK hO rfl 33 (by decide) hL93 (fun _ h9 => h9) rfl dX12_counts_205 ?_
                    refine lv_iload hx hb dX12_counts_208 (lv_at hl 2 rfl) ?_
                    refine iz_iald hx hb hK 0 c_33 rfl (by omega) (by decide) dX12_counts_210 ?_
                    obtain ⟨v_36a, v_36b, v_36c⟩ := k_gm z_24 (by omega)
                    clear v_36c
                    obtain ⟨v_36, ev_36⟩ : ∃ z9 : Int, ge1 gm z_24 = z9 := ⟨_, rfl⟩
                    rw [ev_36] at v_36a v_36b ⊢
                    refine iz_ge (tgt := 268) hx hb dX12_counts_211 (by decide) (by unfold rg2; omega) (fun br_37 => ?_) (fun br_37 => ?_)
                    · refine lv_iinc (v := kz (q + 1)) (lv' := [(6, .int (kz (q + 1))), (10, .int (kz k)), (9, .int (kz (v_31 + v_34))), (8, .int (kz z_24)), (7, .int (kz z_18)), (5, .int (kz g1)), (4, .int (kz z_3)), (0, .ref o), (1, .int (kz f)), (2, .int (kz b)), (3, .int (kz t))]) hx hb dX12_counts_268 hl (k := 4) rfl (kz_add q 1) (by decide) rfl (fun ls hl => ?_)
                      refine lv_goto (tgt := 82) hx hb dX12_counts_271 (by decide) ?_
                      exact ihn_12 (n_12 - 1) (by omega) (gb, gm) (q + 1) _ _ _ ⟨by omega, by omega, n_35f2, by omega, lv_sub hl [0, 5, 6, 7, 8, 9, 10] rfl, hI, hO, hS, c_3, c_4, c_5, c_10, c_11, c_12, c_13, c_17, c_27, c_29, c_30, c_32, c_33, c_44, k_gb, k_gm⟩
                    · refine lv_aload_n hx hb dX12_counts_214 rfl (lv_at hl 7 rfl) ?_
                      refine lv_iload hx hb dX12_counts_215 (lv_at hl 6 rfl) ?_
                      refine lv_iload hx hb dX12_counts_217 (lv_at hl 1 rfl) ?_
                      refine lv_aload_n hx hb dX12_counts_219 rfl (lv_at hl 7 rfl) ?_
                      refine iz_get (D := (dC, dI)) (ci := 12) (v := .ref (am 32)) (C := RX12) (T := TX12) (N := 49) hx hb hts hin hown hK hO rfl 32 (by decide) hL90 (fun _ h9 => h9) rfl dX12_counts_220 ?_
                      refine lv_bipush (v := kz 8) hx hb dX12_counts_223 (by decide) ?_
                      refine lv_iload hx hb dX12_counts_225 (lv_at hl 2 rfl) ?_
                      refine iz_imul hx hb dX12_counts_227 ?_
                      refine lv_iload hx hb dX12_counts_228 (lv_at hl 0 rfl) ?_
                      refine iz_iadd hx hb dX12_counts_230 ?_
                      refine iz_iald hx hb hK 0 c_32 rfl (by omega) (by decide) dX12_counts_231 ?_
                      obtain ⟨v_38a, v_38b, v_38c⟩ := k_gb ((8 * z_24) + k) (by omega)
                      clear v_38c
                      obtain ⟨v_38, ev_38⟩ : ∃ z9 : Int, ge1 gb ((8 * z_24) + k) = z9 := ⟨_, rfl⟩
                      rw [ev_38] at v_38a v_38b ⊢
                      refine vp_callSi (va_Run.run (va_runS (As := [.int (kz v_38)]) (rest := [.int (kz (v_31 + v_34)), .int (kz z_3), .ref o]) ⟨hx, hb, hml, hown, hts⟩ (m_costOf l v_38) (va_cwS 1 hts gX12_counts_X12_costOf rfl rfl rfl (by decide +kernel) ⟨Nat.le_of_ble_eq_true rfl, Nat.le_of_ble_eq_true rfl⟩) ⟨fun a U g mk q => q, fun U hU hW => ⟨rfl, trivial⟩⟩ rfl rfl hl.1 rfl (lv_room (Nat.le_of_ble_eq_true rfl)) dX12_counts_232 ⟨Nat.le_of_ble_eq_true rfl, Nat.le_of_ble_eq_true rfl⟩)) (fun r_40 hw_39 => ?_)
                      obtain ⟨z_41, z_41a, z_41b, rfl⟩ := kz_ex r_40
                      refine iz_iadd hx hb dX12_counts_235 ?_
                      refine lv_bipush (v := kz 15) hx hb dX12_counts_236 (by decide) ?_
                      refine lv_ishl hx hb dX12_counts_238 ?_
                      refine iz_any (fun z_42 z_42a z_42b z_42e => ?_)
                      refine lv_sipush (v := kz 16384) hx hb dX12_counts_239 (by decide) ?_
                      refine lv_ior hx hb dX12_counts_242 ?_
                      refine iz_any (fun z_43 z_43a z_43b z_43e => ?_)
                      refine lv_iload hx hb dX12_counts_243 (lv_at hl 4 rfl) ?_
                      refine lv_iconst (v := kz 1) hx hb dX12_counts_245 rfl ?_
                      refine iz_iadd hx hb dX12_counts_246 ?_
                      refine lv_bipush (v := kz 9) hx hb dX12_counts_247 (by decide) ?_
                      refine lv_ishl hx hb dX12_counts_249 ?_
                      refine iz_any (fun z_44 z_44a z_44b z_44e => ?_)
                      refine lv_ior hx hb dX12_counts_250 ?_
                      refine iz_any (fun z_45 z_45a z_45b z_45e => ?_)
                      refine lv_iload hx hb dX12_counts_251 (lv_at hl 5 rfl) ?_
                      refine lv_iconst (v := kz 3) hx hb dX12_counts_253 rfl ?_
                      refine lv_ishl hx hb dX12_counts_254 ?_
                      refine iz_any (fun z_46 z_46a z_46b z_46e => ?_)
                      refine lv_ior hx hb dX12_counts_255 ?_
                      refine iz_any (fun z_47 z_47a z_47b z_47e => ?_)
                      refine lv_iload hx hb dX12_counts_256 (lv_at hl 0 rfl) ?_
                      refine lv_ior hx hb dX12_counts_258 ?_
                      refine iz_any (fun z_48 z_48a z_48b z_48e => ?_)
                      refine va_callv (va_runV (As := [.int (kz z_3), .int (kz z_48)]) (rest := []) ⟨hx, hb, hml, hown, hts⟩ (m_keeps l dC dI ca A X o am zi zl (cup (cup fc 32 gb) 33 gm) hM hz ⟨k_4, k_5, k_11, k_12, k_13, k_29, k_gb, k_gm, k_44⟩ z_3 z_48 (by omega) (by omega)) (cwV 2 hts gX12_counts_X12_keeps rfl rfl rfl (by decide +kernel) ⟨Nat.le_of_ble_eq_true rfl, Nat.le_of_ble_eq_true rfl⟩) ⟨fun a U g mk q => by obtain ⟨q0, qK, qI⟩ := q; exact ⟨q0, va_K.moved (u := U) (U := U.calling g mk a) (Vm.Alike.refl U.vm) qK, qI⟩, va_recv hK (at_P hO) (ci := 12) (q0 := 0) rfl rfl, fun U hU hW => ⟨rfl, va_K.moved hW.alike hK, by rw [hU]; exact ⟨⟨hI, hO⟩, c_3, c_4, c_5, c_10, c_11, c_12, c_13, c_17, c_27, c_29, c_30, c_32, c_33, c_44⟩⟩⟩ rfl rfl hl.1 rfl (lv_room (Nat.le_of_ble_eq_true rfl)) dX12_counts_259 ⟨Nat.le_of_ble_eq_true rfl, Nat.le_of_ble_eq_true rfl⟩) hS (fun q _ h => h) (fun q h => h) (fun u t9 H locs ht hvm hw_49 hB hz1 hk1 hS => ?_)
                      obtain ⟨-, ⟨hI, hO⟩, c_3, c_4, c_5, c_10, c_11, c_12, c_13, c_17, c_27, c_29, c_30, c_32, c_33, c_44⟩ := hB
                      rw [ht] at hI hO c_3 c_4 c_5 c_10 c_11 c_12 c_13 c_17 c_27 c_29 c_30 c_32 c_33 c_44
                      clear ht hvm hz1 hk1
                      have he_z_48 := enc_bits z_42e z_43e z_44e z_45e z_46e z_47e z_48e
                      have hg_z_48 : ge1 gm z_24 = ge1 (fc 33) z_24 := n_35f2.2.1 z_24 (by omega) (by unfold pl; omega)
                      have hv_z_48 : ev1 fc (zi 28) (zi 34) (zi 2) (zi 9) f b t z_48 := (ev1_in (gm := gm) ⟨by omega, by omega, hw_14, hw_16⟩ (show z_24 = pl g1 (nb fc q) (ds fc f b t q) by unfold pl nb; rw [if_neg (show ¬ q < 0 by omega), ev_21, ← ez_18]; omega) hg_z_48 (by omega) (enc_q he_z_48 (by omega) (by omega) (by omega)) (enc_g he_z_48 (by omega) (by omega)) (enc_w he_z_48 (by omega)) (by omega))
                      obtain ⟨gb_51, gm_52, rfl, k_gb_51, k_gm_52, x_gb_51⟩ := hw_49
                      have c_3 : va_at (dC, dI) vwCl (am 3, .inl (ca 21, 320, .inl (fc 3))) H := c_3
                      have c_4 : va_at (dC, dI) vwCl (am 4, .inl (ca 20, 40, .inl (fc 4))) H := c_4
                      have c_5 : va_at (dC, dI) vwCl (am 5, .inl (ca 20, 40, .inl (fc 5))) H := c_5
                      have c_10 : va_at (dC, dI) vwCl (am 10, .inl (ca 21, 240, .inl (fc 10))) H := c_10
                      have c_11 : va_at (dC, dI) vwCl (am 11, .inl (ca 20, 24, .inl (fc 11))) H := c_11
                      have c_12 : va_at (dC, dI) vwCl (am 12, .inl (ca 20, 24, .inl (fc 12))) H := c_12
                      have c_13 : va_at (dC, dI) vwCl (am 13, .inl (ca 20, 24, .inl (fc 13))) H := c_13
                      have c_17 : va_at (dC, dI) vwCl (am 17, .inl (ca 22, 36, .inl (fc 17))) H := c_17
                      have c_27 : va_at (dC, dI) vwCl (am 27, .inl (ca 21, 40, .inl (fc 27))) H := c_27
                      have c_29 : va_at (dC, dI) vwCl (am 29, .inl (ca 20, 1600, .inl (fc 29))) H := c_29
                      have c_30 : va_at (dC, dI) vwCl (am 30, .inl (ca 22, 6560, .inl (fc 30))) H := c_30
                      have c_32 : va_at (dC, dI) vwCl (am 32, .inl (ca 20, 52480, .inl gb_51)) H := c_32
                      have c_33 : va_at (dC, dI) vwCl (am 33, .inl (ca 20, 6560, .inl gm_52)) H := c_33
                      have c_44 : va_at (dC, dI) vwCl (am 44, .inl (ca 20, 40, .inl (fc 44))) H := c_44
                      have cn_gb_51 : cn fc (zi 28) (zi 34) (zi 2) (zi 9) f b t gb_51 gm_52 := cn_keep z_3h (by omega) n_35f2 hv_z_48 x_gb_51
                      refine lv_iinc (v := kz (k + 1)) (lv' := [(10, .int (kz (k + 1))), (9, .int (kz (v_31 + v_34))), (8, .int (kz z_24)), (7, .int (kz z_18)), (6, .int (kz q)), (5, .int (kz g1)), (4, .int (kz z_3)), (0, .ref o), (1, .int (kz f)), (2, .int (kz b)), (3, .int (kz t))]) hx hb dX12_counts_262 hl (k := 0) rfl (kz_add k 1) (by decide) rfl (fun ls hl => ?_)
                      refine lv_goto (tgt := 202) hx hb dX12_counts_265 (by decide) ?_
                      exact ihn_35 (n_35 - 1) (by omega) (gb_51, gm_52) (k + 1) _ _ _ ⟨by omega, by omega, cn_gb_51, by omega, lv_sub hl [0, 1, 2, 3, 4, 5, 6, 7, 8, 9, 10] rfl, hI, hO, hS, c_3, c_4, c_5, c_10, c_11, c_12, c_13, c_17, c_27, c_29, c_30, c_32, c_33, c_44, k_gb_51, k_gm_52⟩
                  · refine lv_iconst (v := kz 0) hx hb dX12_counts_185 rfl ?_
                    refine lv_goto (tgt := 196) hx hb dX12_counts_186 (by decide) ?_
                    refine iz_iadd hx hb dX12_counts_196 ?_
                    refine lv_istore (lv' := [(9, .int (kz (v_31 + 0))), (8, .int (kz z_24)), (7, .int (kz z_18)), (6, .int (kz q)), (5, .int (kz g1)), (4, .int (kz z_3)), (0, .ref o), (1, .int (kz f)), (2, .int (kz b)), (3, .int (kz t))]) hx hb dX12_counts_197 hl (by decide) rfl (fun ls hl => ?_)
                    refine lv_iconst (v := kz 0) hx hb dX12_counts_199 rfl ?_
                    refine lv_istore (lv' := [(10, .int (kz 0)), (9, .int (kz (v_31 + 0))), (8, .int (kz z_24)), (7, .int (kz z_18)), (6, .int (kz q)), (5, .int (kz g1)), (4, .int (kz z_3)), (0, .ref o), (1, .int (kz f)), (2, .int (kz b)), (3, .int (kz t))]) hx hb dX12_counts_200 hl (by decide) rfl (fun ls hl => ?_)
                    refine iz_loopA1 (α := (Nat → Int32) × (Nat → Int32)) (P := fun N9 fn9 k H locs ls => (0 ≤ k) ∧ (k ≤ 8) ∧ (cn fc (zi 28) (zi 34) (zi 2) (zi 9) f b t fn9.1 fn9.2) ∧ 8 - k ≤ (N9 : Int) ∧ lv_has ls 11 [(10, .int (kz k)), (9, .int (kz (v_31 + 0))), (8, .int (kz z_24)), (7, .int (kz z_18)), (6, .int (kz q)), (5, .int (kz g1)), (4, .int (kz z_3)), (0, .ref o), (1, .int (kz f)), (2, .int (kz b)), (3, .int (kz t))] ∧ iv (dC, dI) ca A X H ∧ va_at (dC, dI) vwCl (o, .inr (12, mM am zi zl)) H ∧ va_S A s.heap H locs ∧ va_at (dC, dI) vwCl (am 3, .inl (ca 21, 320, .inl (fc 3))) H ∧ va_at (dC, dI) vwCl (am 4, .inl (ca 20, 40, .inl (fc 4))) H ∧ va_at (dC, dI) vwCl (am 5, .inl (ca 20, 40, .inl (fc 5))) H ∧ va_at (dC, dI) vwCl (am 10, .inl (ca 21, 240, .inl (fc 10))) H ∧ va_at (dC, dI) vwCl (am 11, .inl (ca 20, 24, .inl (fc 11))) H ∧ va_at (dC, dI) vwCl (am 12, .inl (ca 20, 24, .inl (fc 12))) H ∧ va_at (dC, dI) vwCl (am 13, .inl (ca 20, 24, .inl (fc 13))) H ∧ va_at (dC, dI) vwCl (am 17, .inl (ca 22, 36, .inl (fc 17))) H ∧ va_at (dC, dI) vwCl (am 27, .inl (ca 21, 40, .inl (fc 27))) H ∧ va_at (dC, dI) vwCl (am 29, .inl (ca 20, 1600, .inl (fc 29))) H ∧ va_at (dC, dI) vwCl (am 30, .inl (ca 22, 6560, .inl (fc 30))) H ∧ va_at (dC, dI) vwCl (am 32, .inl (ca 20, 52480, .inl fn9.1)) H ∧ va_at (dC, dI) vwCl (am 33, .inl (ca 20, 6560, .inl fn9.2)) H ∧ va_at (dC, dI) vwCl (am 44, .inl (ca 20, 40, .inl (fc 44))) H ∧ ok20 X (am 32) 52480 (-2147483648) (2147483647) fn9.1 ∧ ok20 X (am 33) 6560 (0) (8) fn9.2) 100000 (gb, gm) (x0 := 0) ?_ ⟨by omega, by omega, n_12f2, by omega, lv_sub hl [0, 1, 2, 3, 4, 5, 6, 7, 8, 9, 10] rfl, hI, hO, hS, c_3, c_4, c_5, c_10, c_11, c_12, c_13, c_17, c_27, c_29, c_30, c_32, c_33, c_44, k_gb, k_gm⟩
                    intro n_53 ⟨gb, gm⟩ k H locs ls ⟨n_53f0, n_53f1, n_53f2, n_53f3, hl, hI, hO, hS, c_3, c_4, c_5, c_10, c_11, c_12, c_13, c_17, c_27, c_29, c_30, c_32, c_33, c_44, k_gb, k_gm⟩ ihn_53
                    have n_53f2 : cn fc (zi 28) (zi 34) (zi 2) (zi 9) f b t gb gm := n_53f2
                    have c_32 : va_at (dC, dI) vwCl (am 32, .inl (ca 20, 52480, .inl gb)) H := c_32
                    have k_gb : ok20 X (am 32) 52480 (-2147483648) (2147483647) gb := k_gb
                    have c_33 : va_at (dC, dI) vwCl (am 33, .inl (ca 20, 6560, .inl gm)) H := c_33
                    have k_gm : ok20 X (am 33) 6560 (0) (8) gm := k_gm
                    refine lv_iload hx hb dX12_counts_202 (lv_at hl 0 rfl) ?_
                    refine lv_aload_n hx hb dX12_counts_204 rfl (lv_at hl 7 rfl) ?_
                    refine iz_get (D := (dC, dI)) (ci := 12) (v := .ref (am 33)) (C := RX12) (T := TX12) (N := 49) hx hb hts hin hown hK hO rfl 33 (by decide) hL93 (fun _ h9 => h9) rfl dX12_counts_205 ?_
                    refine lv_iload hx hb dX12_counts_208 (lv_at hl 2 rfl) ?_
                    refine iz_iald hx hb hK 0 c_33 rfl (by omega) (by decide) dX12_counts_210 ?_
                    obtain ⟨v_54a, v_54b, v_54c⟩ := k_gm z_24 (by omega)
                    clear v_54c
                    obtain ⟨v_54, ev_54⟩ : ∃ z9 : Int, ge1 gm z_24 = z9 := ⟨_, rfl⟩
                    rw [ev_54] at v_54a v_54b ⊢
                    refine iz_ge (tgt := 268) hx hb dX12_counts_211 (by decide) (by unfold rg2; omega) (fun br_55 => ?_) (fun br_55 => ?_)
                    · refine lv_iinc (v := kz (q + 1)) (lv' := [(6, .int (kz (q + 1))), (10, .int (kz k)), (9, .int (kz (v_31 + 0))), (8, .int (kz z_24)), (7, .int (kz z_18)), (5, .int (kz g1)), (4, .int (kz z_3)), (0, .ref o), (1, .int (kz f)), (2, .int (kz b)), (3, .int (kz t))]) hx hb dX12_counts_268 hl (k := 4) rfl (kz_add q 1) (by decide) rfl (fun ls hl => ?_)
                      refine lv_goto (tgt := 82) hx hb dX12_counts_271 (by decide) ?_
                      exact ihn_12 (n_12 - 1) (by omega) (gb, gm) (q + 1) _ _ _ ⟨by omega, by omega, n_53f2, by omega, lv_sub hl [0, 5, 6, 7, 8, 9, 10] rfl, hI, hO, hS, c_3, c_4, c_5, c_10, c_11, c_12, c_13, c_17, c_27, c_29, c_30, c_32, c_33, c_44, k_gb, k_gm⟩
                    · refine lv_aload_n hx hb dX12_counts_214 rfl (lv_at hl 7 rfl) ?_
                      refine lv_iload hx hb dX12_counts_215 (lv_at hl 6 rfl) ?_
                      refine lv_iload hx hb dX12_counts_217 (lv_at hl 1 rfl) ?_
                      refine lv_aload_n hx hb dX12_counts_219 rfl (lv_at hl 7 rfl) ?_
                      refine iz_get (D := (dC, dI)) (ci := 12) (v := .ref (am 32)) (C := RX12) (T := TX12) (N := 49) hx hb hts hin hown hK hO rfl 32 (by decide) hL90 (fun _ h9 => h9) rfl dX12_counts_220 ?_
                      refine lv_bipush (v := kz 8) hx hb dX12_counts_223 (by decide) ?_
                      refine lv_iload hx hb dX12_counts_225 (lv_at hl 2 rfl) ?_
                      refine iz_imul hx hb dX12_counts_227 ?_
                      refine lv_iload hx hb dX12_counts_228 (lv_at hl 0 rfl) ?_
                      refine iz_iadd hx hb dX12_counts_230 ?_
                      refine iz_iald hx hb hK 0 c_32 rfl (by omega) (by decide) dX12_counts_231 ?_
                      obtain ⟨v_56a, v_56b, v_56c⟩ := k_gb ((8 * z_24) + k) (by omega)
                      clear v_56c
                      obtain ⟨v_56, ev_56⟩ : ∃ z9 : Int, ge1 gb ((8 * z_24) + k) = z9 := ⟨_, rfl⟩
                      rw [ev_56] at v_56a v_56b ⊢
                      refine vp_callSi (va_Run.run (va_runS (As := [.int (kz v_56)]) (rest := [.int (kz (v_31 + 0)), .int (kz z_3), .ref o]) ⟨hx, hb, hml, hown, hts⟩ (m_costOf l v_56) (va_cwS 1 hts gX12_counts_X12_costOf rfl rfl rfl (by decide +kernel) ⟨Nat.le_of_ble_eq_true rfl, Nat.le_of_ble_eq_true rfl⟩) ⟨fun a U g mk q => q, fun U hU hW => ⟨rfl, trivial⟩⟩ rfl rfl hl.1 rfl (lv_room (Nat.le_of_ble_eq_true rfl)) dX12_counts_232 ⟨Nat.le_of_ble_eq_true rfl, Nat.le_of_ble_eq_true rfl⟩)) (fun r_58 hw_57 => ?_)
                      obtain ⟨z_59, z_59a, z_59b, rfl⟩ := kz_ex r_58
                      refine iz_iadd hx hb dX12_counts_235 ?_
                      refine lv_bipush (v := kz 15) hx hb dX12_counts_236 (by decide) ?_
                      refine lv_ishl hx hb dX12_counts_238 ?_
                      refine iz_any (fun z_60 z_60a z_60b z_60e => ?_)
                      refine lv_sipush (v := kz 16384) hx hb dX12_counts_239 (by decide) ?_
                      refine lv_ior hx hb dX12_counts_242 ?_
                      refine iz_any (fun z_61 z_61a z_61b z_61e => ?_)
                      refine lv_iload hx hb dX12_counts_243 (lv_at hl 4 rfl) ?_
                      refine lv_iconst (v := kz 1) hx hb dX12_counts_245 rfl ?_
                      refine iz_iadd hx hb dX12_counts_246 ?_
                      refine lv_bipush (v := kz 9) hx hb dX12_counts_247 (by decide) ?_
                      refine lv_ishl hx hb dX12_counts_249 ?_
                      refine iz_any (fun z_62 z_62a z_62b z_62e => ?_)
                      refine lv_ior hx hb dX12_counts_250 ?_
                      refine iz_any (fun z_63 z_63a z_63b z_63e => ?_)
                      refine lv_iload hx hb dX12_counts_251 (lv_at hl 5 rfl) ?_
                      refine lv_iconst (v := kz 3) hx hb dX12_counts_253 rfl ?_
                      refine lv_ishl hx hb dX12_counts_254 ?_
                      refine iz_any (fun z_64 z_64a z_64b z_64e => ?_)
                      refine lv_ior hx hb dX12_counts_255 ?_
                      refine iz_any (fun z_65 z_65a z_65b z_65e => ?_)
                      refine lv_iload hx hb dX12_counts_256 (lv_at hl 0 rfl) ?_
                      refine lv_ior hx hb dX12_counts_258 ?_
                      refine iz_any (fun z_66 z_66a z_66b z_66e => ?_)
                      refine va_callv (va_runV (As := [.int (kz z_3), .int (kz z_66)]) (rest := []) ⟨hx, hb, hml, hown, hts⟩ (m_keeps l dC dI ca A X o am zi zl (cup (cup fc 32 gb) 33 gm) hM hz ⟨k_4, k_5, k_11, k_12, k_13, k_29, k_gb, k_gm, k_44⟩ z_3 z_66 (by omega) (by omega)) (cwV 2 hts gX12_counts_X12_keeps rfl rfl rfl (by decide +kernel) ⟨Nat.le_of_ble_eq_true rfl, Nat.le_of_ble_eq_true rfl⟩) ⟨fun a U g mk q => by obtain ⟨q0, qK, qI⟩ := q; exact ⟨q0, va_K.moved (u := U) (U := U.calling g mk a) (Vm.Alike.refl U.vm) qK, qI⟩, va_recv hK (at_P hO) (ci := 12) (q0 := 0) rfl rfl, fun U hU hW => ⟨rfl, va_K.moved hW.alike hK, by rw [hU]; exact ⟨⟨hI, hO⟩, c_3, c_4, c_5, c_10, c_11, c_12, c_13, c_17, c_27, c_29, c_30, c_32, c_33, c_44⟩⟩⟩ rfl rfl hl.1 rfl (lv_room (Nat.le_of_ble_eq_true rfl)) dX12_counts_259 ⟨Nat.le_of_ble_eq_true rfl, Nat.le_of_ble_eq_true rfl⟩) hS (fun q _ h => h) (fun q h => h) (fun u t9 H locs ht hvm hw_67 hB hz1 hk1 hS => ?_)
                      obtain ⟨-, ⟨hI, hO⟩, c_3, c_4, c_5, c_10, c_11, c_12, c_13, c_17, c_27, c_29, c_30, c_32, c_33, c_44⟩ := hB
                      rw [ht] at hI hO c_3 c_4 c_5 c_10 c_11 c_12 c_13 c_17 c_27 c_29 c_30 c_32 c_33 c_44
                      clear ht hvm hz1 hk1
                      have he_z_66 := enc_bits z_60e z_61e z_62e z_63e z_64e z_65e z_66e
                      have hg_z_66 : ge1 gm z_24 = ge1 (fc 33) z_24 := n_53f2.2.1 z_24 (by omega) (by unfold pl; omega)
                      have hv_z_66 : ev1 fc (zi 28) (zi 34) (zi 2) (zi 9) f b t z_66 := (ev1_in (gm := gm) ⟨by omega, by omega, hw_14, hw_16⟩ (show z_24 = pl g1 (nb fc q) (ds fc f b t q) by unfold pl nb; rw [if_neg (show ¬ q < 0 by omega), ev_21, ← ez_18]; omega) hg_z_66 (by omega) (enc_q he_z_66 (by omega) (by omega) (by omega)) (enc_g he_z_66 (by omega) (by omega)) (enc_w he_z_66 (by omega)) (by omega))
                      obtain ⟨gb_69, gm_70, rfl, k_gb_69, k_gm_70, x_gb_69⟩ := hw_67
                      have c_3 : va_at (dC, dI) vwCl (am 3, .inl (ca 21, 320, .inl (fc 3))) H := c_3
                      have c_4 : va_at (dC, dI) vwCl (am 4, .inl (ca 20, 40, .inl (fc 4))) H := c_4
                      have c_5 : va_at (dC, dI) vwCl (am 5, .inl (ca 20, 40, .inl (fc 5))) H := c_5
                      have c_10 : va_at (dC, dI) vwCl (am 10, .inl (ca 21, 240, .inl (fc 10))) H := c_10
                      have c_11 : va_at (dC, dI) vwCl (am 11, .inl (ca 20, 24, .inl (fc 11))) H := c_11
                      have c_12 : va_at (dC, dI) vwCl (am 12, .inl (ca 20, 24, .inl (fc 12))) H := c_12
                      have c_13 : va_at (dC, dI) vwCl (am 13, .inl (ca 20, 24, .inl (fc 13))) H := c_13
                      have c_17 : va_at (dC, dI) vwCl (am 17, .inl (ca 22, 36, .inl (fc 17))) H := c_17
                      have c_27 : va_at (dC, dI) vwCl (am 27, .inl (ca 21, 40, .inl (fc 27))) H := c_27
                      have c_29 : va_at (dC, dI) vwCl (am 29, .inl (ca 20, 1600, .inl (fc 29))) H := c_29
                      have c_30 : va_at (dC, dI) vwCl (am 30, .inl (ca 22, 6560, .inl (fc 30))) H := c_30
                      have c_32 : va_at (dC, dI) vwCl (am 32, .inl (ca 20, 52480, .inl gb_69)) H := c_32
                      have c_33 : va_at (dC, dI) vwCl (am 33, .inl (ca 20, 6560, .inl gm_70)) H := c_33
                      have c_44 : va_at (dC, dI) vwCl (am 44, .inl (ca 20, 40, .inl (fc 44))) H := c_44
                      have cn_gb_69 : cn fc (zi 28) (zi 34) (zi 2) (zi 9) f b t gb_69 gm_70 := cn_keep z_3h (by omega) n_53f2 hv_z_66 x_gb_69
                      refine lv_iinc (v := kz (k + 1)) (lv' := [(10, .int (kz (k + 1))), (9, .int (kz (v_31 + 0))), (8, .int (kz z_24)), (7, .int (kz z_18)), (6, .int (kz q)), (5, .int (kz g1)), (4, .int (kz z_3)), (0, .ref o), (1, .int (kz f)), (2, .int (kz b)), (3, .int (kz t))]) hx hb dX12_counts_262 hl (k := 0) rfl (kz_add k 1) (by decide) rfl (fun ls hl => ?_)
                      refine lv_goto (tgt := 202) hx hb dX12_counts_265 (by decide) ?_
                      exact ihn_53 (n_53 - 1) (by omega) (gb_69, gm_70) (k + 1) _ _ _ ⟨by omega, by omega, cn_gb_69, by omega, lv_sub hl [0, 1, 2, 3, 4, 5, 6, 7, 8, 9, 10] rfl, hI, hO, hS, c_3, c_4, c_5, c_10, c_11, c_12, c_13, c_17, c_27, c_29, c_30, c_32, c_33, c_44, k_gb_69, k_gm_70⟩
                · refine lv_iconst (v := kz 0) hx hb dX12_counts_132 rfl ?_
                  refine lv_goto (tgt := 143) hx hb dX12_counts_133 (by decide) ?_
                  refine lv_iload hx hb dX12_counts_143 (lv_at hl 0 rfl) ?_
                  refine vp_callSi (va_Run.run (va_runS (As := [.int (kz g1), .int (kz 0), .int (kz z_18)]) (rest := []) ⟨hx, hb, hml, hown, hts⟩ (m_placeOf l g1 0 z_18) (va_cwS 3 hts gX12_counts_X12_placeOf rfl rfl rfl (by decide +kernel) ⟨Nat.le_of_ble_eq_true rfl, Nat.le_of_ble_eq_true rfl⟩) ⟨fun a U g mk q => q, fun U hU hW => ⟨rfl, trivial⟩⟩ rfl rfl hl.1 rfl (lv_room (Nat.le_of_ble_eq_true rfl)) dX12_counts_145 ⟨Nat.le_of_ble_eq_true rfl, Nat.le_of_ble_eq_true rfl⟩)) (fun r_72 hw_71 => ?_)
                  obtain ⟨z_73, rfl, z_73h⟩ := hw_71
                  refine lv_istore (lv' := [(8, .int (kz z_73)), (7, .int (kz z_18)), (6, .int (kz q)), (5, .int (kz g1)), (4, .int (kz z_3)), (0, .ref o), (1, .int (kz f)), (2, .int (kz b)), (3, .int (kz t))]) hx hb dX12_counts_148 hl (by decide) rfl (fun ls hl => ?_)
                  refine lv_aload_n hx hb dX12_counts_150 rfl (lv_at hl 5 rfl) ?_
                  refine iz_get (D := (dC, dI)) (ci := 12) (v := .ref (am 31)) (C := RX12) (T := TX12) (N := 49) hx hb hts hin hown hK hO rfl 31 (by decide) hL85 (fun _ h9 => h9) rfl dX12_counts_151 ?_
                  refine lv_iload hx hb dX12_counts_154 (lv_at hl 4 rfl) ?_
                  refine lv_aload_n hx hb dX12_counts_156 rfl (lv_at hl 5 rfl) ?_
                  refine iz_get (D := (dC, dI)) (ci := 12) (v := .ref (am 31)) (C := RX12) (T := TX12) (N := 49) hx hb hts hin hown hK hO rfl 31 (by decide) hL85 (fun _ h9 => h9) rfl dX12_counts_157 ?_
                  refine lv_iload hx hb dX12_counts_160 (lv_at hl 4 rfl) ?_
                  obtain ⟨f31_74, c_f31_74⟩ := iv_o23 hI g31
                  refine iz_lald hx hb hK 3 c_f31_74 rfl (by omega) (by decide) dX12_counts_162 ?_
                  refine lv_topl (fun y_75 ey_75 => ?_)
                  refine lv_aload_n hx hb dX12_counts_163 rfl (lv_at hl 5 rfl) ?_
                  refine iz_get (D := (dC, dI)) (ci := 12) (v := .ref (am 31)) (C := RX12) (T := TX12) (N := 49) hx hb hts hin hown hK hO rfl 31 (by decide) hL85 (fun _ h9 => h9) rfl dX12_counts_164 ?_
                  refine lv_iload hx hb dX12_counts_167 (lv_at hl 0 rfl) ?_
                  refine iz_lald hx hb hK 3 c_f31_74 rfl (by omega) (by decide) dX12_counts_169 ?_
                  refine lv_topl (fun y_76 ey_76 => ?_)
                  refine vp_callSl (va_Run.run (va_runS (As := [.long y_75, .long y_76]) (rest := [.int (kz z_3), .ref (am 31)]) ⟨hx, hb, hml, hown, hts⟩ (m_plus l y_75 y_76) (va_cwS 2 hts gX12_counts_X12_plus rfl rfl rfl (by decide +kernel) ⟨Nat.le_of_ble_eq_true rfl, Nat.le_of_ble_eq_true rfl⟩) ⟨fun a U g mk q => q, fun U hU hW => ⟨rfl, trivial⟩⟩ rfl rfl hl.1 rfl (lv_room (Nat.le_of_ble_eq_true rfl)) dX12_counts_170 ⟨Nat.le_of_ble_eq_true rfl, Nat.le_of_ble_eq_true rfl⟩)) (fun r_78 hw_77 => ?_)
                  refine iz_last hx hb hK 3 c_f31_74 hS (iv_A hI g31 (by decide)) rfl (by omega) (by decide) dX12_counts_173 (fun H locs c9 oq hS => ?_)
                  have hI := iv_s23 hI g31 c9 oq
                  have hO := hO.kept (oq _ (iv_ne0 g31 hM.2.1 (by decide)).symm)
                  have c_3 := c_3.kept (oq _ (iv_ne g3 g31 (by decide)))
                  have c_4 := c_4.kept (oq _ (iv_ne g4 g31 (by decide)))
                  have c_5 := c_5.kept (oq _ (iv_ne g5 g31 (by decide)))
                  have c_10 := c_10.kept (oq _ (iv_ne g10 g31 (by decide)))
                  have c_11 := c_11.kept (oq _ (iv_ne g11 g31 (by decide)))
                  have c_12 := c_12.kept (oq _ (iv_ne g12 g31 (by decide)))
                  have c_13 := c_13.kept (oq _ (iv_ne g13 g31 (by decide)))
                  have c_17 := c_17.kept (oq _ (iv_ne g17 g31 (by decide)))
                  have c_27 := c_27.kept (oq _ (iv_ne g27 g31 (by decide)))
                  have c_29 := c_29.kept (oq _ (iv_ne g29 g31 (by decide)))
                  have c_30 := c_30.kept (oq _ (iv_ne g30 g31 (by decide)))
                  have c_32 := c_32.kept (oq _ (iv_ne g32 g31 (by decide)))
                  have c_33 := c_33.kept (oq _ (iv_ne g33 g31 (by decide)))
                  have c_44 := c_44.kept (oq _ (iv_ne g44 g31 (by decide)))
                  clear oq c9
                  refine lv_aload_n hx hb dX12_counts_174 rfl (lv_at hl 5 rfl) ?_
                  refine iz_get (D := (dC, dI)) (ci := 12) (v := .ref (am 7)) (C := RX12) (T := TX12) (N := 49) hx hb hts hin hown hK hO rfl 7 (by decide) hL26 (fun _ h9 => h9) rfl dX12_counts_175 ?_
                  refine lv_iload_n hx hb dX12_counts_178 rfl (lv_at hl 6 rfl) ?_
                  obtain ⟨f7_79, c_f7_79, k_f7_79⟩ := iv_o20 hI g7
                  refine iz_iald hx hb hK 0 c_f7_79 rfl (by omega) (by decide) dX12_counts_179 ?_
                  obtain ⟨v_80a, v_80b, v_80c⟩ := k_f7_79 f (by omega)
                  clear v_80c
                  obtain ⟨v_80, ev_80⟩ : ∃ z9 : Int, ge1 f7_79 f = z9 := ⟨_, rfl⟩
                  rw [ev_80] at v_80a v_80b ⊢
                  refine lv_iload hx hb dX12_counts_180 (lv_at hl 2 rfl) ?_
                  refine iz_gez (tgt := 189) hx hb dX12_counts_182 (by decide) (by unfold rg2; omega) (fun br_81 => ?_) (fun br_81 => ?_)
                  · refine lv_aload_n hx hb dX12_counts_189 rfl (lv_at hl 5 rfl) ?_
                    refine iz_get (D := (dC, dI)) (ci := 12) (v := .ref (am 14)) (C := RX12) (T := TX12) (N := 49) hx hb hts hin hown hK hO rfl 14 (by decide) hL45 (fun _ h9 => h9) rfl dX12_counts_190 ?_
                    refine lv_iload hx hb dX12_counts_193 (lv_at hl 2 rfl) ?_
                    obtain ⟨f14_82, c_f14_82, k_f14_82⟩ := iv_o20 hI g14
                    refine iz_iald hx hb hK 0 c_f14_82 rfl (by omega) (by decide) dX12_counts_195 ?_
                    obtain ⟨v_83a, v_83b, v_83c⟩ := k_f14_82 q (by omega)
                    clear v_83c
                    obtain ⟨v_83, ev_83⟩ : ∃ z9 : Int, ge1 f14_82 q = z9 := ⟨_, rfl⟩
                    rw [ev_83] at v_83a v_83b ⊢
                    refine iz_iadd hx hb dX12_counts_196 ?_
                    refine lv_istore (lv' := [(9, .int (kz (v_80 + v_83))), (8, .int (kz z_73)), (7, .int (kz z_18)), (6, .int (kz q)), (5, .int (kz g1)), (4, .int (kz z_3)), (0, .ref o), (1, .int (kz f)), (2, .int (kz b)), (3, .int (kz t))]) hx hb dX12_counts_197 hl (by decide) rfl (fun ls hl => ?_)
                    refine lv_iconst (v := kz 0) hx hb dX12_counts_199 rfl ?_
                    refine lv_istore (lv' := [(10, .int (kz 0)), (9, .int (kz (v_80 + v_83))), (8, .int (kz z_73)), (7, .int (kz z_18)), (6, .int (kz q)), (5, .int (kz g1)), (4, .int (kz z_3)), (0, .ref o), (1, .int (kz f)), (2, .int (kz b)), (3, .int (kz t))]) hx hb dX12_counts_200 hl (by decide) rfl (fun ls hl => ?_)
                    refine iz_loopA1 (α := (Nat → Int32) × (Nat → Int32)) (P := fun N9 fn9 k H locs ls => (0 ≤ k) ∧ (k ≤ 8) ∧ (cn fc (zi 28) (zi 34) (zi 2) (zi 9) f b t fn9.1 fn9.2) ∧ 8 - k ≤ (N9 : Int) ∧ lv_has ls 11 [(10, .int (kz k)), (9, .int (kz (v_80 + v_83))), (8, .int (kz z_73)), (7, .int (kz z_18)), (6, .int (kz q)), (5, .int (kz g1)), (4, .int (kz z_3)), (0, .ref o), (1, .int (kz f)), (2, .int (kz b)), (3, .int (kz t))] ∧ iv (dC, dI) ca A X H ∧ va_at (dC, dI) vwCl (o, .inr (12, mM am zi zl)) H ∧ va_S A s.heap H locs ∧ va_at (dC, dI) vwCl (am 3, .inl (ca 21, 320, .inl (fc 3))) H ∧ va_at (dC, dI) vwCl (am 4, .inl (ca 20, 40, .inl (fc 4))) H ∧ va_at (dC, dI) vwCl (am 5, .inl (ca 20, 40, .inl (fc 5))) H ∧ va_at (dC, dI) vwCl (am 10, .inl (ca 21, 240, .inl (fc 10))) H ∧ va_at (dC, dI) vwCl (am 11, .inl (ca 20, 24, .inl (fc 11))) H ∧ va_at (dC, dI) vwCl (am 12, .inl (ca 20, 24, .inl (fc 12))) H ∧ va_at (dC, dI) vwCl (am 13, .inl (ca 20, 24, .inl (fc 13))) H ∧ va_at (dC, dI) vwCl (am 17, .inl (ca 22, 36, .inl (fc 17))) H ∧ va_at (dC, dI) vwCl (am 27, .inl (ca 21, 40, .inl (fc 27))) H ∧ va_at (dC, dI) vwCl (am 29, .inl (ca 20, 1600, .inl (fc 29))) H ∧ va_at (dC, dI) vwCl (am 30, .inl (ca 22, 6560, .inl (fc 30))) H ∧ va_at (dC, dI) vwCl (am 32, .inl (ca 20, 52480, .inl fn9.1)) H ∧ va_at (dC, dI) vwCl (am 33, .inl (ca 20, 6560, .inl fn9.2)) H ∧ va_at (dC, dI) vwCl (am 44, .inl (ca 20, 40, .inl (fc 44))) H ∧ ok20 X (am 32) 52480 (-2147483648) (2147483647) fn9.1 ∧ ok20 X (am 33) 6560 (0) (8) fn9.2) 100000 (gb, gm) (x0 := 0) ?_ ⟨by omega, by omega, n_12f2, by omega, lv_sub hl [0, 1, 2, 3, 4, 5, 6, 7, 8, 9, 10] rfl, hI, hO, hS, c_3, c_4, c_5, c_10, c_11, c_12, c_13, c_17, c_27, c_29, c_30, c_32, c_33, c_44, k_gb, k_gm⟩
                    intro n_84 ⟨gb, gm⟩ k H locs ls ⟨n_84f0, n_84f1, n_84f2, n_84f3, hl, hI, hO, hS, c_3, c_4, c_5, c_10, c_11, c_12, c_13, c_17, c_27, c_29, c_30, c_32, c_33, c_44, k_gb, k_gm⟩ ihn_84
                    have n_84f2 : cn fc (zi 28) (zi 34) (zi 2) (zi 9) f b t gb gm := n_84f2
                    have c_32 : va_at (dC, dI) vwCl (am 32, .inl (ca 20, 52480, .inl gb)) H := c_32
                    have k_gb : ok20 X (am 32) 52480 (-2147483648) (2147483647) gb := k_gb
                    have c_33 : va_at (dC, dI) vwCl (am 33, .inl (ca 20, 6560, .inl gm)) H := c_33
                    have k_gm : ok20 X (am 33) 6560 (0) (8) gm := k_gm
                    refine lv_iload hx hb dX12_counts_202 (lv_at hl 0 rfl) ?_
                    refine lv_aload_n hx hb dX12_counts_204 rfl (lv_at hl 7 rfl) ?_
                    refine iz_get (D := (dC, dI)) (ci := 12) (v := .ref (am 33)) (C := RX12) (T := TX12) (N := 49) hx hb hts hin hown hK hO rfl 33 (by decide) hL93 (fun _ h9 => h9) rfl dX12_counts_205 ?_
                    refine lv_iload hx hb dX12_counts_208 (lv_at hl 2 rfl) ?_
                    refine iz_iald hx hb hK 0 c_33 rfl (by omega) (by decide) dX12_counts_210 ?_
                    obtain ⟨v_85a, v_85b, v_85c⟩ := k_gm z_73 (by omega)
                    clear v_85c
                    obtain ⟨v_85, ev_85⟩ : ∃ z9 : Int, ge1 gm z_73 = z9 := ⟨_, rfl⟩
                    rw [ev_85] at v_85a v_85b ⊢
                    refine iz_ge (tgt := 268) hx hb dX12_counts_211 (by decide) (by unfold rg2; omega) (fun br_86 => ?_) (fun br_86 => ?_)
                    · refine lv_iinc (v := kz (q + 1)) (lv' := [(6, .int (kz (q + 1))), (10, .int (kz k)), (9, .int (kz (v_80 + v_83))), (8, .int (kz z_73)), (7, .int (kz z_18)), (5, .int (kz g1)), (4, .int (kz z_3)), (0, .ref o), (1, .int (kz f)), (2, .int (kz b)), (3, .int (kz t))]) hx hb dX12_counts_268 hl (k := 4) rfl (kz_add q 1) (by decide) rfl (fun ls hl => ?_)
                      refine lv_goto (tgt := 82) hx hb dX12_counts_271 (by decide) ?_
                      exact ihn_12 (n_12 - 1) (by omega) (gb, gm) (q + 1) _ _ _ ⟨by omega, by omega, n_84f2, by omega, lv_sub hl [0, 5, 6, 7, 8, 9, 10] rfl, hI, hO, hS, c_3, c_4, c_5, c_10, c_11, c_12, c_13, c_17, c_27, c_29, c_30, c_32, c_33, c_44, k_gb, k_gm⟩
                    · refine lv_aload_n hx hb dX12_counts_214 rfl (lv_at hl 7 rfl) ?_
                      refine lv_iload hx hb dX12_counts_215 (lv_at hl 6 rfl) ?_
                      refine lv_iload hx hb dX12_counts_217 (lv_at hl 1 rfl) ?_
                      refine lv_aload_n hx hb dX12_counts_219 rfl (lv_at hl 7 rfl) ?_
                      refine iz_get (D := (dC, dI)) (ci := 12) (v := .ref (am 32)) (C := RX12) (T := TX12) (N := 49) hx hb hts hin hown hK hO rfl 32 (by decide) hL90 (fun _ h9 => h9) rfl dX12_counts_220 ?_
                      refine lv_bipush (v := kz 8) hx hb dX12_counts_223 (by decide) ?_
                      refine lv_iload hx hb dX12_counts_225 (lv_at hl 2 rfl) ?_
                      refine iz_imul hx hb dX12_counts_227 ?_
                      refine lv_iload hx hb dX12_counts_228 (lv_at hl 0 rfl) ?_
                      refine iz_iadd hx hb dX12_counts_230 ?_
                      refine iz_iald hx hb hK 0 c_32 rfl (by omega) (by decide) dX12_counts_231 ?_
                      obtain ⟨v_87a, v_87b, v_87c⟩ := k_gb ((8 * z_73) + k) (by omega)
                      clear v_87c
                      obtain ⟨v_87, ev_87⟩ : ∃ z9 : Int, ge1 gb ((8 * z_73) + k) = z9 := ⟨_, rfl⟩
                      rw [ev_87] at v_87a v_87b ⊢
                      refine vp_callSi (va_Run.run (va_runS (As := [.int (kz v_87)]) (rest := [.int (kz (v_80 + v_83)), .int (kz z_3), .ref o]) ⟨hx, hb, hml, hown, hts⟩ (m_costOf l v_87) (va_cwS 1 hts gX12_counts_X12_costOf rfl rfl rfl (by decide +kernel) ⟨Nat.le_of_ble_eq_true rfl, Nat.le_of_ble_eq_true rfl⟩) ⟨fun a U g mk q => q, fun U hU hW => ⟨rfl, trivial⟩⟩ rfl rfl hl.1 rfl (lv_room (Nat.le_of_ble_eq_true rfl)) dX12_counts_232 ⟨Nat.le_of_ble_eq_true rfl, Nat.le_of_ble_eq_true rfl⟩)) (fun r_89 hw_88 => ?_)
                      obtain ⟨z_90, z_90a, z_90b, rfl⟩ := kz_ex r_89
                      refine iz_iadd hx hb dX12_counts_235 ?_
                      refine lv_bipush (v := kz 15) hx hb dX12_counts_236 (by decide) ?_
                      refine lv_ishl hx hb dX12_counts_238 ?_
                      refine iz_any (fun z_91 z_91a z_91b z_91e => ?_)
                      refine lv_sipush (v := kz 16384) hx hb dX12_counts_239 (by decide) ?_
                      refine lv_ior hx hb dX12_counts_242 ?_
                      refine iz_any (fun z_92 z_92a z_92b z_92e => ?_)
                      refine lv_iload hx hb dX12_counts_243 (lv_at hl 4 rfl) ?_
                      refine lv_iconst (v := kz 1) hx hb dX12_counts_245 rfl ?_
                      refine iz_iadd hx hb dX12_counts_246 ?_
                      refine lv_bipush (v := kz 9) hx hb dX12_counts_247 (by decide) ?_
                      refine lv_ishl hx hb dX12_counts_249 ?_
                      refine iz_any (fun z_93 z_93a z_93b z_93e => ?_)
                      refine lv_ior hx hb dX12_counts_250 ?_
                      refine iz_any (fun z_94 z_94a z_94b z_94e => ?_)
                      refine lv_iload hx hb dX12_counts_251 (lv_at hl 5 rfl) ?_
                      refine lv_iconst (v := kz 3) hx hb dX12_counts_253 rfl ?_
                      refine lv_ishl hx hb dX12_counts_254 ?_
                      refine iz_any (fun z_95 z_95a z_95b z_95e => ?_)
                      refine lv_ior hx hb dX12_counts_255 ?_
                      refine iz_any (fun z_96 z_96a z_96b z_96e => ?_)
                      refine lv_iload hx hb dX12_counts_256 (lv_at hl 0 rfl) ?_
                      refine lv_ior hx hb dX12_counts_258 ?_
                      refine iz_any (fun z_97 z_97a z_97b z_97e => ?_)
                      refine va_callv (va_runV (As := [.int (kz z_3), .int (kz z_97)]) (rest := []) ⟨hx, hb, hml, hown, hts⟩ (m_keeps l dC dI ca A X o am zi zl (cup (cup fc 32 gb) 33 gm) hM hz ⟨k_4, k_5, k_11, k_12, k_13, k_29, k_gb, k_gm, k_44⟩ z_3 z_97 (by omega) (by omega)) (cwV 2 hts gX12_counts_X12_keeps rfl rfl rfl (by decide +kernel) ⟨Nat.le_of_ble_eq_true rfl, Nat.le_of_ble_eq_true rfl⟩) ⟨fun a U g mk q => by obtain ⟨q0, qK, qI⟩ := q; exact ⟨q0, va_K.moved (u := U) (U := U.calling g mk a) (Vm.Alike.refl U.vm) qK, qI⟩, va_recv hK (at_P hO) (ci := 12) (q0 := 0) rfl rfl, fun U hU hW => ⟨rfl, va_K.moved hW.alike hK, by rw [hU]; exact ⟨⟨hI, hO⟩, c_3, c_4, c_5, c_10, c_11, c_12, c_13, c_17, c_27, c_29, c_30, c_32, c_33, c_44⟩⟩⟩ rfl rfl hl.1 rfl (lv_room (Nat.le_of_ble_eq_true rfl)) dX12_counts_259 ⟨Nat.le_of_ble_eq_true rfl, Nat.le_of_ble_eq_true rfl⟩) hS (fun q _ h => h) (fun q h => h) (fun u t9 H locs ht hvm hw_98 hB hz1 hk1 hS => ?_)
                      obtain ⟨-, ⟨hI, hO⟩, c_3, c_4, c_5, c_10, c_11, c_12, c_13, c_17, c_27, c_29, c_30, c_32, c_33, c_44⟩ := hB
                      rw [ht] at hI hO c_3 c_4 c_5 c_10 c_11 c_12 c_13 c_17 c_27 c_29 c_30 c_32 c_33 c_44
                      clear ht hvm hz1 hk1
                      have he_z_97 := enc_bits z_91e z_92e z_93e z_94e z_95e z_96e z_97e
                      have hg_z_97 : ge1 gm z_73 = ge1 (fc 33) z_73 := n_84f2.2.1 z_73 (by omega) (by unfold pl; omega)
                      have hv_z_97 : ev1 fc (zi 28) (zi 34) (zi 2) (zi 9) f b t z_97 := (ev1_in (gm := gm) ⟨by omega, by omega, hw_14, hw_16⟩ (show z_73 = pl g1 (nb fc q) (ds fc f b t q) by unfold pl nb; rw [if_pos (show q < 0 by omega), ← ez_18]; omega) hg_z_97 (by omega) (enc_q he_z_97 (by omega) (by omega) (by omega)) (enc_g he_z_97 (by omega) (by omega)) (enc_w he_z_97 (by omega)) (by omega))
                      obtain ⟨gb_100, gm_101, rfl, k_gb_100, k_gm_101, x_gb_100⟩ := hw_98
                      have c_3 : va_at (dC, dI) vwCl (am 3, .inl (ca 21, 320, .inl (fc 3))) H := c_3
                      have c_4 : va_at (dC, dI) vwCl (am 4, .inl (ca 20, 40, .inl (fc 4))) H := c_4
                      have c_5 : va_at (dC, dI) vwCl (am 5, .inl (ca 20, 40, .inl (fc 5))) H := c_5
                      have c_10 : va_at (dC, dI) vwCl (am 10, .inl (ca 21, 240, .inl (fc 10))) H := c_10
                      have c_11 : va_at (dC, dI) vwCl (am 11, .inl (ca 20, 24, .inl (fc 11))) H := c_11
                      have c_12 : va_at (dC, dI) vwCl (am 12, .inl (ca 20, 24, .inl (fc 12))) H := c_12
                      have c_13 : va_at (dC, dI) vwCl (am 13, .inl (ca 20, 24, .inl (fc 13))) H := c_13
                      have c_17 : va_at (dC, dI) vwCl (am 17, .inl (ca 22, 36, .inl (fc 17))) H := c_17
                      have c_27 : va_at (dC, dI) vwCl (am 27, .inl (ca 21, 40, .inl (fc 27))) H := c_27
                      have c_29 : va_at (dC, dI) vwCl (am 29, .inl (ca 20, 1600, .inl (fc 29))) H := c_29
                      have c_30 : va_at (dC, dI) vwCl (am 30, .inl (ca 22, 6560, .inl (fc 30))) H := c_30
                      have c_32 : va_at (dC, dI) vwCl (am 32, .inl (ca 20, 52480, .inl gb_100)) H := c_32
                      have c_33 : va_at (dC, dI) vwCl (am 33, .inl (ca 20, 6560, .inl gm_101)) H := c_33
                      have c_44 : va_at (dC, dI) vwCl (am 44, .inl (ca 20, 40, .inl (fc 44))) H := c_44
                      have cn_gb_100 : cn fc (zi 28) (zi 34) (zi 2) (zi 9) f b t gb_100 gm_101 := cn_keep z_3h (by omega) n_84f2 hv_z_97 x_gb_100
                      refine lv_iinc (v := kz (k + 1)) (lv' := [(10, .int (kz (k + 1))), (9, .int (kz (v_80 + v_83))), (8, .int (kz z_73)), (7, .int (kz z_18)), (6, .int (kz q)), (5, .int (kz g1)), (4, .int (kz z_3)), (0, .ref o), (1, .int (kz f)), (2, .int (kz b)), (3, .int (kz t))]) hx hb dX12_counts_262 hl (k := 0) rfl (kz_add k 1) (by decide) rfl (fun ls hl => ?_)
                      refine lv_goto (tgt := 202) hx hb dX12_counts_265 (by decide) ?_
                      exact ihn_84 (n_84 - 1) (by omega) (gb_100, gm_101) (k + 1) _ _ _ ⟨by omega, by omega, cn_gb_100, by omega, lv_sub hl [0, 1, 2, 3, 4, 5, 6, 7, 8, 9, 10] rfl, hI, hO, hS, c_3, c_4, c_5, c_10, c_11, c_12, c_13, c_17, c_27, c_29, c_30, c_32, c_33, c_44, k_gb_100, k_gm_101⟩
                  · refine lv_iconst (v := kz 0) hx hb dX12_counts_185 rfl ?_
                    refine lv_goto (tgt := 196) hx hb dX12_counts_186 (by decide) ?_
                    refine iz_iadd hx hb dX12_counts_196 ?_
                    refine lv_istore (lv' := [(9, .int (kz (v_80 + 0))), (8, .int (kz z_73)), (7, .int (kz z_18)), (6, .int (kz q)), (5, .int (kz g1)), (4, .int (kz z_3)), (0, .ref o), (1, .int (kz f)), (2, .int (kz b)), (3, .int (kz t))]) hx hb dX12_counts_197 hl (by decide) rfl (fun ls hl => ?_)
                    refine lv_iconst (v := kz 0) hx hb dX12_counts_199 rfl ?_
                    refine lv_istore (lv' := [(10, .int (kz 0)), (9, .int (kz (v_80 + 0))), (8, .int (kz z_73)), (7, .int (kz z_18)), (6, .int (kz q)), (5, .int (kz g1)), (4, .int (kz z_3)), (0, .ref o), (1, .int (kz f)), (2, .int (kz b)), (3, .int (kz t))]) hx hb dX12_counts_200 hl (by decide) rfl (fun ls hl => ?_)
                    refine iz_loopA1 (α := (Nat → Int32) × (Nat → Int32)) (P := fun N9 fn9 k H locs ls => (0 ≤ k) ∧ (k ≤ 8) ∧ (cn fc (zi 28) (zi 34) (zi 2) (zi 9) f b t fn9.1 fn9.2) ∧ 8 - k ≤ (N9 : Int) ∧ lv_has ls 11 [(10, .int (kz k)), (9, .int (kz (v_80 + 0))), (8, .int (kz z_73)), (7, .int (kz z_18)), (6, .int (kz q)), (5, .int (kz g1)), (4, .int (kz z_3)), (0, .ref o), (1, .int (kz f)), (2, .int (kz b)), (3, .int (kz t))] ∧ iv (dC, dI) ca A X H ∧ va_at (dC, dI) vwCl (o, .inr (12, mM am zi zl)) H ∧ va_S A s.heap H locs ∧ va_at (dC, dI) vwCl (am 3, .inl (ca 21, 320, .inl (fc 3))) H ∧ va_at (dC, dI) vwCl (am 4, .inl (ca 20, 40, .inl (fc 4))) H ∧ va_at (dC, dI) vwCl (am 5, .inl (ca 20, 40, .inl (fc 5))) H ∧ va_at (dC, dI) vwCl (am 10, .inl (ca 21, 240, .inl (fc 10))) H ∧ va_at (dC, dI) vwCl (am 11, .inl (ca 20, 24, .inl (fc 11))) H ∧ va_at (dC, dI) vwCl (am 12, .inl (ca 20, 24, .inl (fc 12))) H ∧ va_at (dC, dI) vwCl (am 13, .inl (ca 20, 24, .inl (fc 13))) H ∧ va_at (dC, dI) vwCl (am 17, .inl (ca 22, 36, .inl (fc 17))) H ∧ va_at (dC, dI) vwCl (am 27, .inl (ca 21, 40, .inl (fc 27))) H ∧ va_at (dC, dI) vwCl (am 29, .inl (ca 20, 1600, .inl (fc 29))) H ∧ va_at (dC, dI) vwCl (am 30, .inl (ca 22, 6560, .inl (fc 30))) H ∧ va_at (dC, dI) vwCl (am 32, .inl (ca 20, 52480, .inl fn9.1)) H ∧ va_at (dC, dI) vwCl (am 33, .inl (ca 20, 6560, .inl fn9.2)) H ∧ va_at (dC, dI) vwCl (am 44, .inl (ca 20, 40, .inl (fc 44))) H ∧ ok20 X (am 32) 52480 (-2147483648) (2147483647) fn9.1 ∧ ok20 X (am 33) 6560 (0) (8) fn9.2) 100000 (gb, gm) (x0 := 0) ?_ ⟨by omega, by omega, n_12f2, by omega, lv_sub hl [0, 1, 2, 3, 4, 5, 6, 7, 8, 9, 10] rfl, hI, hO, hS, c_3, c_4, c_5, c_10, c_11, c_12, c_13, c_17, c_27, c_29, c_30, c_32, c_33, c_44, k_gb, k_gm⟩
                    intro n_102 ⟨gb, gm⟩ k H locs ls ⟨n_102f0, n_102f1, n_102f2, n_102f3, hl, hI, hO, hS, c_3, c_4, c_5, c_10, c_11, c_12, c_13, c_17, c_27, c_29, c_30, c_32, c_33, c_44, k_gb, k_gm⟩ ihn_102
                    have n_102f2 : cn fc (zi 28) (zi 34) (zi 2) (zi 9) f b t gb gm := n_102f2
                    have c_32 : va_at (dC, dI) vwCl (am 32, .inl (ca 20, 52480, .inl gb)) H := c_32
                    have k_gb : ok20 X (am 32) 52480 (-2147483648) (2147483647) gb := k_gb
                    have c_33 : va_at (dC, dI) vwCl (am 33, .inl (ca 20, 6560, .inl gm)) H := c_33
                    have k_gm : ok20 X (am 33) 6560 (0) (8) gm := k_gm
                    refine lv_iload hx hb dX12_counts_202 (lv_at hl 0 rfl) ?_
                    refine lv_aload_n hx hb dX12_counts_204 rfl (lv_at hl 7 rfl) ?_
                    refine iz_get (D := (dC, dI)) (ci := 12) (v := .ref (am 33)) (C := RX12) (T := TX12) (N := 49) hx hb hts hin hown hK hO rfl 33 (by decide) hL93 (fun _ h9 => h9) rfl dX12_counts_205 ?_
                    refine lv_iload hx hb dX12_counts_208 (lv_at hl 2 rfl) ?_
                    refine iz_iald hx hb hK 0 c_33 rfl (by omega) (by decide) dX12_counts_210 ?_
                    obtain ⟨v_103a, v_103b, v_103c⟩ := k_gm z_73 (by omega)
                    clear v_103c
                    obtain ⟨v_103, ev_103⟩ : ∃ z9 : Int, ge1 gm z_73 = z9 := ⟨_, rfl⟩
                    rw [ev_103] at v_103a v_103b ⊢
                    refine iz_ge (tgt := 268) hx hb dX12_counts_211 (by decide) (by unfold rg2; omega) (fun br_104 => ?_) (fun br_104 => ?_)
                    · refine lv_iinc (v := kz (q + 1)) (lv' := [(6, .int (kz (q + 1))), (10, .int (kz k)), (9, .int (kz (v_80 + 0))), (8, .int (kz z_73)), (7, .int (kz z_18)), (5, .int (kz g1)), (4, .int (kz z_3)), (0, .ref o), (1, .int (kz f)), (2, .int (kz b)), (3, .int (kz t))]) hx hb dX12_counts_268 hl (k := 4) rfl (kz_add q 1) (by decide) rfl (fun ls hl => ?_)
                      refine lv_goto (tgt := 82) hx hb dX12_counts_271 (by decide) ?_
                      exact ihn_12 (n_12 - 1) (by omega) (gb, gm) (q + 1) _ _ _ ⟨by omega, by omega, n_102f2, by omega, lv_sub hl [0, 5, 6, 7, 8, 9, 10] rfl, hI, hO, hS, c_3, c_4, c_5, c_10, c_11, c_12, c_13, c_17, c_27, c_29, c_30, c_32, c_33, c_44, k_gb, k_gm⟩
                    · refine lv_aload_n hx hb dX12_counts_214 rfl (lv_at hl 7 rfl) ?_
                      refine lv_iload hx hb dX12_counts_215 (lv_at hl 6 rfl) ?_
                      refine lv_iload hx hb dX12_counts_217 (lv_at hl 1 rfl) ?_
                      refine lv_aload_n hx hb dX12_counts_219 rfl (lv_at hl 7 rfl) ?_
                      refine iz_get (D := (dC, dI)) (ci := 12) (v := .ref (am 32)) (C := RX12) (T := TX12) (N := 49) hx hb hts hin hown hK hO rfl 32 (by decide) hL90 (fun _ h9 => h9) rfl dX12_counts_220 ?_
                      refine lv_bipush (v := kz 8) hx hb dX12_counts_223 (by decide) ?_
                      refine lv_iload hx hb dX12_counts_225 (lv_at hl 2 rfl) ?_
                      refine iz_imul hx hb dX12_counts_227 ?_
                      refine lv_iload hx hb dX12_counts_228 (lv_at hl 0 rfl) ?_
                      refine iz_iadd hx hb dX12_counts_230 ?_
                      refine iz_iald hx hb hK 0 c_32 rfl (by omega) (by decide) dX12_counts_231 ?_
                      obtain ⟨v_105a, v_105b, v_105c⟩ := k_gb ((8 * z_73) + k) (by omega)
                      clear v_105c
                      obtain ⟨v_105, ev_105⟩ : ∃ z9 : Int, ge1 gb ((8 * z_73) + k) = z9 := ⟨_, rfl⟩
                      rw [ev_105] at v_105a v_105b ⊢
                      refine vp_callSi (va_Run.run (va_runS (As := [.int (kz v_105)]) (rest := [.int (kz (v_80 + 0)), .int (kz z_3), .ref o]) ⟨hx, hb, hml, hown, hts⟩ (m_costOf l v_105) (va_cwS 1 hts gX12_counts_X12_costOf rfl rfl rfl (by decide +kernel) ⟨Nat.le_of_ble_eq_true rfl, Nat.le_of_ble_eq_true rfl⟩) ⟨fun a U g mk q => q, fun U hU hW => ⟨rfl, trivial⟩⟩ rfl rfl hl.1 rfl (lv_room (Nat.le_of_ble_eq_true rfl)) dX12_counts_232 ⟨Nat.le_of_ble_eq_true rfl, Nat.le_of_ble_eq_true rfl⟩)) (fun r_107 hw_106 => ?_)
                      obtain ⟨z_108, z_108a, z_108b, rfl⟩ := kz_ex r_107
                      refine iz_iadd hx hb dX12_counts_235 ?_
                      refine lv_bipush (v := kz 15) hx hb dX12_counts_236 (by decide) ?_
                      refine lv_ishl hx hb dX12_counts_238 ?_
                      refine iz_any (fun z_109 z_109a z_109b z_109e => ?_)
                      refine lv_sipush (v := kz 16384) hx hb dX12_counts_239 (by decide) ?_
                      refine lv_ior hx hb dX12_counts_242 ?_
                      refine iz_any (fun z_110 z_110a z_110b z_110e => ?_)
                      refine lv_iload hx hb dX12_counts_243 (lv_at hl 4 rfl) ?_
                      refine lv_iconst (v := kz 1) hx hb dX12_counts_245 rfl ?_
                      refine iz_iadd hx hb dX12_counts_246 ?_
                      refine lv_bipush (v := kz 9) hx hb dX12_counts_247 (by decide) ?_
                      refine lv_ishl hx hb dX12_counts_249 ?_
                      refine iz_any (fun z_111 z_111a z_111b z_111e => ?_)
                      refine lv_ior hx hb dX12_counts_250 ?_
                      refine iz_any (fun z_112 z_112a z_112b z_112e => ?_)
                      refine lv_iload hx hb dX12_counts_251 (lv_at hl 5 rfl) ?_
                      refine lv_iconst (v := kz 3) hx hb dX12_counts_253 rfl ?_
                      refine lv_ishl hx hb dX12_counts_254 ?_
                      refine iz_any (fun z_113 z_113a z_113b z_113e => ?_)
                      refine lv_ior hx hb dX12_counts_255 ?_
                      refine iz_any (fun z_114 z_114a z_114b z_114e => ?_)
                      refine lv_iload hx hb dX12_counts_256 (lv_at hl 0 rfl) ?_
                      refine lv_ior hx hb dX12_counts_258 ?_
                      refine iz_any (fun z_115 z_115a z_115b z_115e => ?_)
                      refine va_callv (va_runV (As := [.int (kz z_3), .int (kz z_115)]) (rest := []) ⟨hx, hb, hml, hown, hts⟩ (m_keeps l dC dI ca A X o am zi zl (cup (cup fc 32 gb) 33 gm) hM hz ⟨k_4, k_5, k_11, k_12, k_13, k_29, k_gb, k_gm, k_44⟩ z_3 z_115 (by omega) (by omega)) (cwV 2 hts gX12_counts_X12_keeps rfl rfl rfl (by decide +kernel) ⟨Nat.le_of_ble_eq_true rfl, Nat.le_of_ble_eq_true rfl⟩) ⟨fun a U g mk q => by obtain ⟨q0, qK, qI⟩ := q; exact ⟨q0, va_K.moved (u := U) (U := U.calling g mk a) (Vm.Alike.refl U.vm) qK, qI⟩, va_recv hK (at_P hO) (ci := 12) (q0 := 0) rfl rfl, fun U hU hW => ⟨rfl, va_K.moved hW.alike hK, by rw [hU]; exact ⟨⟨hI, hO⟩, c_3, c_4, c_5, c_10, c_11, c_12, c_13, c_17, c_27, c_29, c_30, c_32, c_33, c_44⟩⟩⟩ rfl rfl hl.1 rfl (lv_room (Nat.le_of_ble_eq_true rfl)) dX12_counts_259 ⟨Nat.le_of_ble_eq_true rfl, Nat.le_of_ble_eq_true rfl⟩) hS (fun q _ h => h) (fun q h => h) (fun u t9 H locs ht hvm hw_116 hB hz1 hk1 hS => ?_)
                      obtain ⟨-, ⟨hI, hO⟩, c_3, c_4, c_5, c_10, c_11, c_12, c_13, c_17, c_27, c_29, c_30, c_32, c_33, c_44⟩ := hB
                      rw [ht] at hI hO c_3 c_4 c_5 c_10 c_11 c_12 c_13 c_17 c_27 c_29 c_30 c_32 c_33 c_44
                      clear ht hvm hz1 hk1
                      have he_z_115 := enc_bits z_109e z_110e z_111e z_112e z_113e z_114e z_115e
                      have hg_z_115 : ge1 gm z_73 = ge1 (fc 33) z_73 := n_102f2.2.1 z_73 (by omega) (by unfold pl; omega)
                      have hv_z_115 : ev1 fc (zi 28) (zi 34) (zi 2) (zi 9) f b t z_115 := (ev1_in (gm := gm) ⟨by omega, by omega, hw_14, hw_16⟩ (show z_73 = pl g1 (nb fc q) (ds fc f b t q) by unfold pl nb; rw [if_pos (show q < 0 by omega), ← ez_18]; omega) hg_z_115 (by omega) (enc_q he_z_115 (by omega) (by omega) (by omega)) (enc_g he_z_115 (by omega) (by omega)) (enc_w he_z_115 (by omega)) (by omega))
                      obtain ⟨gb_118, gm_119, rfl, k_gb_118, k_gm_119, x_gb_118⟩ := hw_116
                      have c_3 : va_at (dC, dI) vwCl (am 3, .inl (ca 21, 320, .inl (fc 3))) H := c_3
                      have c_4 : va_at (dC, dI) vwCl (am 4, .inl (ca 20, 40, .inl (fc 4))) H := c_4
                      have c_5 : va_at (dC, dI) vwCl (am 5, .inl (ca 20, 40, .inl (fc 5))) H := c_5
                      have c_10 : va_at (dC, dI) vwCl (am 10, .inl (ca 21, 240, .inl (fc 10))) H := c_10
                      have c_11 : va_at (dC, dI) vwCl (am 11, .inl (ca 20, 24, .inl (fc 11))) H := c_11
                      have c_12 : va_at (dC, dI) vwCl (am 12, .inl (ca 20, 24, .inl (fc 12))) H := c_12
                      have c_13 : va_at (dC, dI) vwCl (am 13, .inl (ca 20, 24, .inl (fc 13))) H := c_13
                      have c_17 : va_at (dC, dI) vwCl (am 17, .inl (ca 22, 36, .inl (fc 17))) H := c_17
                      have c_27 : va_at (dC, dI) vwCl (am 27, .inl (ca 21, 40, .inl (fc 27))) H := c_27
                      have c_29 : va_at (dC, dI) vwCl (am 29, .inl (ca 20, 1600, .inl (fc 29))) H := c_29
                      have c_30 : va_at (dC, dI) vwCl (am 30, .inl (ca 22, 6560, .inl (fc 30))) H := c_30
                      have c_32 : va_at (dC, dI) vwCl (am 32, .inl (ca 20, 52480, .inl gb_118)) H := c_32
                      have c_33 : va_at (dC, dI) vwCl (am 33, .inl (ca 20, 6560, .inl gm_119)) H := c_33
                      have c_44 : va_at (dC, dI) vwCl (am 44, .inl (ca 20, 40, .inl (fc 44))) H := c_44
                      have cn_gb_118 : cn fc (zi 28) (zi 34) (zi 2) (zi 9) f b t gb_118 gm_119 := cn_keep z_3h (by omega) n_102f2 hv_z_115 x_gb_118
                      refine lv_iinc (v := kz (k + 1)) (lv' := [(10, .int (kz (k + 1))), (9, .int (kz (v_80 + 0))), (8, .int (kz z_73)), (7, .int (kz z_18)), (6, .int (kz q)), (5, .int (kz g1)), (4, .int (kz z_3)), (0, .ref o), (1, .int (kz f)), (2, .int (kz b)), (3, .int (kz t))]) hx hb dX12_counts_262 hl (k := 0) rfl (kz_add k 1) (by decide) rfl (fun ls hl => ?_)
                      refine lv_goto (tgt := 202) hx hb dX12_counts_265 (by decide) ?_
                      exact ihn_102 (n_102 - 1) (by omega) (gb_118, gm_119) (k + 1) _ _ _ ⟨by omega, by omega, cn_gb_118, by omega, lv_sub hl [0, 1, 2, 3, 4, 5, 6, 7, 8, 9, 10] rfl, hI, hO, hS, c_3, c_4, c_5, c_10, c_11, c_12, c_13, c_17, c_27, c_29, c_30, c_32, c_33, c_44, k_gb_118, k_gm_119⟩
              · refine lv_goto (tgt := 268) hx hb dX12_counts_122 (by decide) ?_
                refine lv_iinc (v := kz (q + 1)) (lv' := [(6, .int (kz (q + 1))), (7, .int (kz z_18)), (5, .int (kz g1)), (4, .int (kz z_3)), (0, .ref o), (1, .int (kz f)), (2, .int (kz b)), (3, .int (kz t))]) hx hb dX12_counts_268 hl (k := 1) rfl (kz_add q 1) (by decide) rfl (fun ls hl => ?_)
                refine lv_goto (tgt := 82) hx hb dX12_counts_271 (by decide) ?_
                exact ihn_12 (n_12 - 1) (by omega) (gb, gm) (q + 1) _ _ _ ⟨by omega, by omega, n_12f2, by omega, lv_sub hl [0, 2, 3, 4, 5, 6, 7] rfl, hI, hO, hS, c_3, c_4, c_5, c_10, c_11, c_12, c_13, c_17, c_27, c_29, c_30, c_32, c_33, c_44, k_gb, k_gm⟩
            · have hw_16 : ¬ ps fc (zi 28) f b t q := hw_16
              refine lv_istore (lv' := [(7, .int (kz (-1))), (6, .int (kz q)), (5, .int (kz g1)), (4, .int (kz z_3)), (0, .ref o), (1, .int (kz f)), (2, .int (kz b)), (3, .int (kz t))]) hx hb dX12_counts_115 hl (by decide) rfl (fun ls hl => ?_)
              refine lv_iload hx hb dX12_counts_117 (lv_at hl 0 rfl) ?_
              refine iz_gez (tgt := 125) hx hb dX12_counts_119 (by decide) (by unfold rg2; omega) (fun q9 => absurd q9 (by decide)) (fun _ => ?_)
              refine lv_goto (tgt := 268) hx hb dX12_counts_122 (by decide) ?_
              refine lv_iinc (v := kz (q + 1)) (lv' := [(6, .int (kz (q + 1))), (7, .int (kz (-1))), (5, .int (kz g1)), (4, .int (kz z_3)), (0, .ref o), (1, .int (kz f)), (2, .int (kz b)), (3, .int (kz t))]) hx hb dX12_counts_268 hl (k := 1) rfl (kz_add q 1) (by decide) rfl (fun ls hl => ?_)
              refine lv_goto (tgt := 82) hx hb dX12_counts_271 (by decide) ?_
              exact ihn_12 (n_12 - 1) (by omega) (gb, gm) (q + 1) _ _ _ ⟨by omega, by omega, n_12f2, by omega, lv_sub hl [0, 2, 3, 4, 5, 6, 7] rfl, hI, hO, hS, c_3, c_4, c_5, c_10, c_11, c_12, c_13, c_17, c_27, c_29, c_30, c_32, c_33, c_44, k_gb, k_gm⟩
          · have hw_14 : ¬ bw fc (zi 34) f g1 q := hw_14
            refine iz_nez (tgt := 106) hx hb dX12_counts_100 (by decide) (by unfold rg2; omega) (fun q9 => absurd q9 (by decide)) (fun _ => ?_)
            refine lv_goto (tgt := 268) hx hb dX12_counts_103 (by decide) ?_
            refine lv_iinc (v := kz (q + 1)) (lv' := [(6, .int (kz (q + 1))), (5, .int (kz g1)), (4, .int (kz z_3)), (0, .ref o), (1, .int (kz f)), (2, .int (kz b)), (3, .int (kz t))]) hx hb dX12_counts_268 hl (k := 0) rfl (kz_add q 1) (by decide) rfl (fun ls hl => ?_)
            refine lv_goto (tgt := 82) hx hb dX12_counts_271 (by decide) ?_
            exact ihn_12 (n_12 - 1) (by omega) (gb, gm) (q + 1) _ _ _ ⟨by omega, by omega, n_12f2, by omega, lv_sub hl [0, 1, 2, 3, 4, 5, 6] rfl, hI, hO, hS, c_3, c_4, c_5, c_10, c_11, c_12, c_13, c_17, c_27, c_29, c_30, c_32, c_33, c_44, k_gb, k_gm⟩
    · refine lv_aload_n hx hb dX12_counts_44 rfl (lv_at hl 1 rfl) ?_
      refine iz_get (D := (dC, dI)) (ci := 12) (v := .ref (am 31)) (C := RX12) (T := TX12) (N := 49) hx hb hts hin hown hK hO rfl 31 (by decide) hL85 (fun _ h9 => h9) rfl dX12_counts_45 ?_
      refine lv_iload hx hb dX12_counts_48 (lv_at hl 0 rfl) ?_
      refine lv_lconst (v := 1) hx hb dX12_counts_50 (by decide) ?_
      obtain ⟨f31_120, c_f31_120⟩ := iv_o23 hI g31
      refine iz_last hx hb hK 3 c_f31_120 hS (iv_A hI g31 (by decide)) rfl (by omega) (by decide) dX12_counts_51 (fun H locs c9 oq hS => ?_)
      have hI := iv_s23 hI g31 c9 oq
      have hO := hO.kept (oq _ (iv_ne0 g31 hM.2.1 (by decide)).symm)
      have c_3 := c_3.kept (oq _ (iv_ne g3 g31 (by decide)))
      have c_4 := c_4.kept (oq _ (iv_ne g4 g31 (by decide)))
      have c_5 := c_5.kept (oq _ (iv_ne g5 g31 (by decide)))
      have c_10 := c_10.kept (oq _ (iv_ne g10 g31 (by decide)))
      have c_11 := c_11.kept (oq _ (iv_ne g11 g31 (by decide)))
      have c_12 := c_12.kept (oq _ (iv_ne g12 g31 (by decide)))
      have c_13 := c_13.kept (oq _ (iv_ne g13 g31 (by decide)))
      have c_17 := c_17.kept (oq _ (iv_ne g17 g31 (by decide)))
      have c_27 := c_27.kept (oq _ (iv_ne g27 g31 (by decide)))
      have c_29 := c_29.kept (oq _ (iv_ne g29 g31 (by decide)))
      have c_30 := c_30.kept (oq _ (iv_ne g30 g31 (by decide)))
      have c_32 := c_32.kept (oq _ (iv_ne g32 g31 (by decide)))
      have c_33 := c_33.kept (oq _ (iv_ne g33 g31 (by decide)))
      have c_44 := c_44.kept (oq _ (iv_ne g44 g31 (by decide)))
      clear oq c9
      refine lv_aload_n hx hb dX12_counts_52 rfl (lv_at hl 1 rfl) ?_
      refine lv_iload hx hb dX12_counts_53 (lv_at hl 0 rfl) ?_
      refine lv_aload_n hx hb dX12_counts_55 rfl (lv_at hl 1 rfl) ?_
      refine iz_get (D := (dC, dI)) (ci := 12) (v := .ref (am 7)) (C := RX12) (T := TX12) (N := 49) hx hb hts hin hown hK hO rfl 7 (by decide) hL26 (fun _ h9 => h9) rfl dX12_counts_56 ?_
      refine lv_iload_n hx hb dX12_counts_59 rfl (lv_at hl 2 rfl) ?_
      obtain ⟨f7_121, c_f7_121, k_f7_121⟩ := iv_o20 hI g7
      refine iz_iald hx hb hK 0 c_f7_121 rfl (by omega) (by decide) dX12_counts_60 ?_
      obtain ⟨v_122a, v_122b, v_122c⟩ := k_f7_121 f (by omega)
      clear v_122c
      obtain ⟨v_122, ev_122⟩ : ∃ z9 : Int, ge1 f7_121 f = z9 := ⟨_, rfl⟩
      rw [ev_122] at v_122a v_122b ⊢
      refine lv_bipush (v := kz 15) hx hb dX12_counts_61 (by decide) ?_
      refine lv_ishl hx hb dX12_counts_63 ?_
      refine iz_any (fun z_123 z_123a z_123b z_123e => ?_)
      refine va_callv (va_runV (As := [.int (kz z_3), .int (kz z_123)]) (rest := []) ⟨hx, hb, hml, hown, hts⟩ (m_keeps l dC dI ca A X o am zi zl (cup fc 33 g_5) hM hz ⟨k_4, k_5, k_11, k_12, k_13, k_29, k_32, k_g_5, k_44⟩ z_3 z_123 (by omega) (by omega)) (cwV 2 hts gX12_counts_X12_keeps rfl rfl rfl (by decide +kernel) ⟨Nat.le_of_ble_eq_true rfl, Nat.le_of_ble_eq_true rfl⟩) ⟨fun a U g mk q => by obtain ⟨q0, qK, qI⟩ := q; exact ⟨q0, va_K.moved (u := U) (U := U.calling g mk a) (Vm.Alike.refl U.vm) qK, qI⟩, va_recv hK (at_P hO) (ci := 12) (q0 := 0) rfl rfl, fun U hU hW => ⟨rfl, va_K.moved hW.alike hK, by rw [hU]; exact ⟨⟨hI, hO⟩, c_3, c_4, c_5, c_10, c_11, c_12, c_13, c_17, c_27, c_29, c_30, c_32, c_33, c_44⟩⟩⟩ rfl rfl hl.1 rfl (lv_room (Nat.le_of_ble_eq_true rfl)) dX12_counts_64 ⟨Nat.le_of_ble_eq_true rfl, Nat.le_of_ble_eq_true rfl⟩) hS (fun q _ h => h) (fun q h => h) (fun u t9 H locs ht hvm hw_124 hB hz1 hk1 hS => ?_)
      obtain ⟨-, ⟨hI, hO⟩, c_3, c_4, c_5, c_10, c_11, c_12, c_13, c_17, c_27, c_29, c_30, c_32, c_33, c_44⟩ := hB
      rw [ht] at hI hO c_3 c_4 c_5 c_10 c_11 c_12 c_13 c_17 c_27 c_29 c_30 c_32 c_33 c_44
      clear ht hvm hz1 hk1
      have hv_z_123 : ev1 fc (zi 28) (zi 34) (zi 2) (zi 9) f b t z_123 := ⟨by omega, Or.inl (d14_shl z_123e)⟩
      obtain ⟨gb_126, gm_127, rfl, k_gb_126, k_gm_127, x_gb_126⟩ := hw_124
      have c_3 : va_at (dC, dI) vwCl (am 3, .inl (ca 21, 320, .inl (fc 3))) H := c_3
      have c_4 : va_at (dC, dI) vwCl (am 4, .inl (ca 20, 40, .inl (fc 4))) H := c_4
      have c_5 : va_at (dC, dI) vwCl (am 5, .inl (ca 20, 40, .inl (fc 5))) H := c_5
      have c_10 : va_at (dC, dI) vwCl (am 10, .inl (ca 21, 240, .inl (fc 10))) H := c_10
      have c_11 : va_at (dC, dI) vwCl (am 11, .inl (ca 20, 24, .inl (fc 11))) H := c_11
      have c_12 : va_at (dC, dI) vwCl (am 12, .inl (ca 20, 24, .inl (fc 12))) H := c_12
      have c_13 : va_at (dC, dI) vwCl (am 13, .inl (ca 20, 24, .inl (fc 13))) H := c_13
      have c_17 : va_at (dC, dI) vwCl (am 17, .inl (ca 22, 36, .inl (fc 17))) H := c_17
      have c_27 : va_at (dC, dI) vwCl (am 27, .inl (ca 21, 40, .inl (fc 27))) H := c_27
      have c_29 : va_at (dC, dI) vwCl (am 29, .inl (ca 20, 1600, .inl (fc 29))) H := c_29
      have c_30 : va_at (dC, dI) vwCl (am 30, .inl (ca 22, 6560, .inl (fc 30))) H := c_30
      have c_32 : va_at (dC, dI) vwCl (am 32, .inl (ca 20, 52480, .inl gb_126)) H := c_32
      have c_33 : va_at (dC, dI) vwCl (am 33, .inl (ca 20, 6560, .inl gm_127)) H := c_33
      have c_44 : va_at (dC, dI) vwCl (am 44, .inl (ca 20, 40, .inl (fc 44))) H := c_44
      have cn_gb_126 : cn fc (zi 28) (zi 34) (zi 2) (zi 9) f b t gb_126 gm_127 := cn_keep z_3h (by omega) (cn_0 (ct := zi 34) (ls := zi 28) (F := zi 2) (R := zi 9) z_3h (by omega) ug_5) hv_z_123 x_gb_126
      refine lv_iconst (v := kz 0) hx hb dX12_counts_67 rfl ?_
      refine lv_istore (lv' := [(5, .int (kz 0)), (4, .int (kz z_3)), (0, .ref o), (1, .int (kz f)), (2, .int (kz b)), (3, .int (kz t))]) hx hb dX12_counts_68 hl (by decide) rfl (fun ls hl => ?_)
      refine iz_loopA1 (α := (Nat → Int32) × (Nat → Int32)) (P := fun N9 fn9 g1 H locs ls => (0 ≤ g1) ∧ (g1 ≤ 40) ∧ (cn fc (zi 28) (zi 34) (zi 2) (zi 9) f b t fn9.1 fn9.2) ∧ 40 - g1 ≤ (N9 : Int) ∧ lv_has ls 11 [(5, .int (kz g1)), (4, .int (kz z_3)), (0, .ref o), (1, .int (kz f)), (2, .int (kz b)), (3, .int (kz t))] ∧ iv (dC, dI) ca A X H ∧ va_at (dC, dI) vwCl (o, .inr (12, mM am zi zl)) H ∧ va_S A s.heap H locs ∧ va_at (dC, dI) vwCl (am 3, .inl (ca 21, 320, .inl (fc 3))) H ∧ va_at (dC, dI) vwCl (am 4, .inl (ca 20, 40, .inl (fc 4))) H ∧ va_at (dC, dI) vwCl (am 5, .inl (ca 20, 40, .inl (fc 5))) H ∧ va_at (dC, dI) vwCl (am 10, .inl (ca 21, 240, .inl (fc 10))) H ∧ va_at (dC, dI) vwCl (am 11, .inl (ca 20, 24, .inl (fc 11))) H ∧ va_at (dC, dI) vwCl (am 12, .inl (ca 20, 24, .inl (fc 12))) H ∧ va_at (dC, dI) vwCl (am 13, .inl (ca 20, 24, .inl (fc 13))) H ∧ va_at (dC, dI) vwCl (am 17, .inl (ca 22, 36, .inl (fc 17))) H ∧ va_at (dC, dI) vwCl (am 27, .inl (ca 21, 40, .inl (fc 27))) H ∧ va_at (dC, dI) vwCl (am 29, .inl (ca 20, 1600, .inl (fc 29))) H ∧ va_at (dC, dI) vwCl (am 30, .inl (ca 22, 6560, .inl (fc 30))) H ∧ va_at (dC, dI) vwCl (am 32, .inl (ca 20, 52480, .inl fn9.1)) H ∧ va_at (dC, dI) vwCl (am 33, .inl (ca 20, 6560, .inl fn9.2)) H ∧ va_at (dC, dI) vwCl (am 44, .inl (ca 20, 40, .inl (fc 44))) H ∧ ok20 X (am 32) 52480 (-2147483648) (2147483647) fn9.1 ∧ ok20 X (am 33) 6560 (0) (8) fn9.2) 100000 (gb_126, gm_127) (x0 := 0) ?_ ⟨by omega, by omega, cn_gb_126, by omega, lv_sub hl [0, 1, 2, 3, 4, 5] rfl, hI, hO, hS, c_3, c_4, c_5, c_10, c_11, c_12, c_13, c_17, c_27, c_29, c_30, c_32, c_33, c_44, k_gb_126, k_gm_127⟩
      intro n_128 ⟨gb, gm⟩ g1 H locs ls ⟨n_128f0, n_128f1, n_128f2, n_128f3, hl, hI, hO, hS, c_3, c_4, c_5, c_10, c_11, c_12, c_13, c_17, c_27, c_29, c_30, c_32, c_33, c_44, k_gb, k_gm⟩ ihn_128
      have n_128f2 : cn fc (zi 28) (zi 34) (zi 2) (zi 9) f b t gb gm := n_128f2
      have c_32 : va_at (dC, dI) vwCl (am 32, .inl (ca 20, 52480, .inl gb)) H := c_32
      have k_gb : ok20 X (am 32) 52480 (-2147483648) (2147483647) gb := k_gb
      have c_33 : va_at (dC, dI) vwCl (am 33, .inl (ca 20, 6560, .inl gm)) H := c_33
      have k_gm : ok20 X (am 33) 6560 (0) (8) gm := k_gm
      refine lv_iload hx hb dX12_counts_70 (lv_at hl 0 rfl) ?_
      refine lv_aload_n hx hb dX12_counts_72 rfl (lv_at hl 2 rfl) ?_
      refine iz_get (D := (dC, dI)) (ci := 12) (v := .int (kz (zi 2))) (C := RX12) (T := TX12) (N := 49) hx hb hts hin hown hK hO rfl 2 (by decide) hL131 (fun _ h9 => h9) rfl dX12_counts_73 ?_
      refine iz_ge (tgt := 280) hx hb dX12_counts_76 (by decide) (by unfold rg2; omega) (fun br_129 => ?_) (fun br_129 => ?_)
      · exact W.vret hx hb hr (fun t9 ht hW => ⟨⟨(cup (cup fc 32 gb) 33 gm), rfl, ⟨gb, gm, rfl, k_gb, k_gm, n_128f2⟩, va_K.moved hW.alike hK, by rw [ht]; exact ⟨hI, hO⟩, by rw [ht]; exact ⟨c_3, c_4, c_5, c_10, c_11, c_12, c_13, c_17, c_27, c_29, c_30, c_32, c_33, c_44⟩⟩, hS.F ht⟩) hS.2.2 dX12_counts_280
      · refine lv_iconst (v := kz (-1)) hx hb dX12_counts_79 rfl ?_
        refine lv_istore (lv' := [(6, .int (kz (-1))), (5, .int (kz g1)), (4, .int (kz z_3)), (0, .ref o), (1, .int (kz f)), (2, .int (kz b)), (3, .int (kz t))]) hx hb dX12_counts_80 hl (by decide) rfl (fun ls hl => ?_)
        refine iz_loopA1 (α := (Nat → Int32) × (Nat → Int32)) (P := fun N9 fn9 q H locs ls => (-1 ≤ q) ∧ (q ≤ 24) ∧ (cn fc (zi 28) (zi 34) (zi 2) (zi 9) f b t fn9.1 fn9.2) ∧ 24 - q ≤ (N9 : Int) ∧ lv_has ls 11 [(6, .int (kz q)), (5, .int (kz g1)), (4, .int (kz z_3)), (0, .ref o), (1, .int (kz f)), (2, .int (kz b)), (3, .int (kz t))] ∧ iv (dC, dI) ca A X H ∧ va_at (dC, dI) vwCl (o, .inr (12, mM am zi zl)) H ∧ va_S A s.heap H locs ∧ va_at (dC, dI) vwCl (am 3, .inl (ca 21, 320, .inl (fc 3))) H ∧ va_at (dC, dI) vwCl (am 4, .inl (ca 20, 40, .inl (fc 4))) H ∧ va_at (dC, dI) vwCl (am 5, .inl (ca 20, 40, .inl (fc 5))) H ∧ va_at (dC, dI) vwCl (am 10, .inl (ca 21, 240, .inl (fc 10))) H ∧ va_at (dC, dI) vwCl (am 11, .inl (ca 20, 24, .inl (fc 11))) H ∧ va_at (dC, dI) vwCl (am 12, .inl (ca 20, 24, .inl (fc 12))) H ∧ va_at (dC, dI) vwCl (am 13, .inl (ca 20, 24, .inl (fc 13))) H ∧ va_at (dC, dI) vwCl (am 17, .inl (ca 22, 36, .inl (fc 17))) H ∧ va_at (dC, dI) vwCl (am 27, .inl (ca 21, 40, .inl (fc 27))) H ∧ va_at (dC, dI) vwCl (am 29, .inl (ca 20, 1600, .inl (fc 29))) H ∧ va_at (dC, dI) vwCl (am 30, .inl (ca 22, 6560, .inl (fc 30))) H ∧ va_at (dC, dI) vwCl (am 32, .inl (ca 20, 52480, .inl fn9.1)) H ∧ va_at (dC, dI) vwCl (am 33, .inl (ca 20, 6560, .inl fn9.2)) H ∧ va_at (dC, dI) vwCl (am 44, .inl (ca 20, 40, .inl (fc 44))) H ∧ ok20 X (am 32) 52480 (-2147483648) (2147483647) fn9.1 ∧ ok20 X (am 33) 6560 (0) (8) fn9.2) 100000 (gb, gm) (x0 := (-1)) ?_ ⟨by omega, by omega, n_128f2, by omega, lv_sub hl [0, 1, 2, 3, 4, 5, 6] rfl, hI, hO, hS, c_3, c_4, c_5, c_10, c_11, c_12, c_13, c_17, c_27, c_29, c_30, c_32, c_33, c_44, k_gb, k_gm⟩
        intro n_130 ⟨gb, gm⟩ q H locs ls ⟨n_130f0, n_130f1, n_130f2, n_130f3, hl, hI, hO, hS, c_3, c_4, c_5, c_10, c_11, c_12, c_13, c_17, c_27, c_29, c_30, c_32, c_33, c_44, k_gb, k_gm⟩ ihn_130
        have n_130f2 : cn fc (zi 28) (zi 34) (zi 2) (zi 9) f b t gb gm := n_130f2
        have c_32 : va_at (dC, dI) vwCl (am 32, .inl (ca 20, 52480, .inl gb)) H := c_32
        have k_gb : ok20 X (am 32) 52480 (-2147483648) (2147483647) gb := k_gb
        have c_33 : va_at (dC, dI) vwCl (am 33, .inl (ca 20, 6560, .inl gm)) H := c_33
        have k_gm : ok20 X (am 33) 6560 (0) (8) gm := k_gm
        refine lv_iload hx hb dX12_counts_82 (lv_at hl 0 rfl) ?_
        refine lv_aload_n hx hb dX12_counts_84 rfl (lv_at hl 3 rfl) ?_
        refine iz_get (D := (dC, dI)) (ci := 12) (v := .int (kz (zi 9))) (C := RX12) (T := TX12) (N := 49) hx hb hts hin hown hK hO rfl 9 (by decide) hL138 (fun _ h9 => h9) rfl dX12_counts_85 ?_
        refine iz_ge (tgt := 274) hx hb dX12_counts_88 (by decide) (by unfold rg2; omega) (fun br_131 => ?_) (fun br_131 => ?_)
        · refine lv_iinc (v := kz (g1 + 1)) (lv' := [(5, .int (kz (g1 + 1))), (6, .int (kz q)), (4, .int (kz z_3)), (0, .ref o), (1, .int (kz f)), (2, .int (kz b)), (3, .int (kz t))]) hx hb dX12_counts_274 hl (k := 1) rfl (kz_add g1 1) (by decide) rfl (fun ls hl => ?_)
          refine lv_goto (tgt := 70) hx hb dX12_counts_277 (by decide) ?_
          exact ihn_128 (n_128 - 1) (by omega) (gb, gm) (g1 + 1) _ _ _ ⟨by omega, by omega, n_130f2, by omega, lv_sub hl [0, 2, 3, 4, 5, 6] rfl, hI, hO, hS, c_3, c_4, c_5, c_10, c_11, c_12, c_13, c_17, c_27, c_29, c_30, c_32, c_33, c_44, k_gb, k_gm⟩
        · refine lv_aload_n hx hb dX12_counts_91 rfl (lv_at hl 3 rfl) ?_
          refine lv_iload_n hx hb dX12_counts_92 rfl (lv_at hl 4 rfl) ?_
          refine lv_iload hx hb dX12_counts_93 (lv_at hl 1 rfl) ?_
          refine lv_iload hx hb dX12_counts_95 (lv_at hl 0 rfl) ?_
          refine vp_callSi (va_Run.run (va_runV (As := [.int (kz f), .int (kz g1), .int (kz q)]) (rest := []) ⟨hx, hb, hml, hown, hts⟩ (m_isBetween l dC dI ca A X o am zi zl (cup (cup fc 32 gb) 33 gm) hM hz ⟨k_4, k_5, k_11, k_12, k_13, k_29, k_gb, k_gm, k_44⟩ f g1 q (by omega) (by omega) (by omega)) (cwV 3 hts gX12_counts_X12_isBetween rfl rfl rfl (by decide +kernel) ⟨Nat.le_of_ble_eq_true rfl, Nat.le_of_ble_eq_true rfl⟩) ⟨fun a U g mk q => by obtain ⟨q0, qK, qI⟩ := q; exact ⟨q0, va_K.moved (u := U) (U := U.calling g mk a) (Vm.Alike.refl U.vm) qK, qI⟩, va_recv hK (at_P hO) (ci := 12) (q0 := 0) rfl rfl, fun U hU hW => ⟨rfl, va_K.moved hW.alike hK, by rw [hU]; exact ⟨⟨hI, hO⟩, c_3, c_4, c_5, c_10, c_11, c_12, c_13, c_17, c_27, c_29, c_30, c_32, c_33, c_44⟩⟩⟩ rfl rfl hl.1 rfl (lv_room (Nat.le_of_ble_eq_true rfl)) dX12_counts_97 ⟨Nat.le_of_ble_eq_true rfl, Nat.le_of_ble_eq_true rfl⟩)) (fun r_133 hw_132 => ?_)
          rcases hw_132 with ⟨rfl, hw_132⟩ | ⟨rfl, hw_132⟩
          · have hw_132 : bw fc (zi 34) f g1 q := hw_132
            refine iz_nez (tgt := 106) hx hb dX12_counts_100 (by decide) (by unfold rg2; omega) (fun _ => ?_) (fun q9 => absurd q9 (by decide))
            refine lv_aload_n hx hb dX12_counts_106 rfl (lv_at hl 3 rfl) ?_
            refine lv_iload_n hx hb dX12_counts_107 rfl (lv_at hl 4 rfl) ?_
            refine lv_iload_n hx hb dX12_counts_108 rfl (lv_at hl 5 rfl) ?_
            refine lv_iload_n hx hb dX12_counts_109 rfl (lv_at hl 6 rfl) ?_
            refine lv_iload hx hb dX12_counts_110 (lv_at hl 0 rfl) ?_
            refine vp_callSi (va_Run.run (va_runV (As := [.int (kz f), .int (kz b), .int (kz t), .int (kz q)]) (rest := []) ⟨hx, hb, hml, hown, hts⟩ (m_passes l dC dI ca A X o am zi zl (cup (cup fc 32 gb) 33 gm) hM hz ⟨k_4, k_5, k_11, k_12, k_13, k_29, k_gb, k_gm, k_44⟩ f b t q (by omega) (by omega) (by show b ≤ ge1 (fc 4) f; omega) (by omega) (by omega)) (cwV 4 hts gX12_counts_X12_passes rfl rfl rfl (by decide +kernel) ⟨Nat.le_of_ble_eq_true rfl, Nat.le_of_ble_eq_true rfl⟩) ⟨fun a U g mk q => by obtain ⟨q0, qK, qI⟩ := q; exact ⟨q0, va_K.moved (u := U) (U := U.calling g mk a) (Vm.Alike.refl U.vm) qK, qI⟩, va_recv hK (at_P hO) (ci := 12) (q0 := 0) rfl rfl, fun U hU hW => ⟨rfl, va_K.moved hW.alike hK, by rw [hU]; exact ⟨⟨hI, hO⟩, c_3, c_4, c_5, c_10, c_11, c_12, c_13, c_17, c_27, c_29, c_30, c_32, c_33, c_44⟩⟩⟩ rfl rfl hl.1 rfl (lv_room (Nat.le_of_ble_eq_true rfl)) dX12_counts_112 ⟨Nat.le_of_ble_eq_true rfl, Nat.le_of_ble_eq_true rfl⟩)) (fun r_135 hw_134 => ?_)
            rcases hw_134 with ⟨hw_134, rfl⟩ | ⟨hw_134, rfl⟩
            · have hw_134 : ps fc (zi 28) f b t q := hw_134
              obtain ⟨z_136, ez_136⟩ : ∃ z9 : Int, z9 = ds (cup (cup fc 32 gb) 33 gm) f b t q := ⟨_, rfl⟩
              rw [← ez_136]
              have ez_136 : z_136 = ds fc f b t q := ez_136
              have rz_136 := ds_rng (X := X) (am := am) (fc := fc) hk (by omega) (by omega) (by omega) (by omega) hw_134
              rw [← ez_136] at rz_136
              refine lv_istore (lv' := [(7, .int (kz z_136)), (6, .int (kz q)), (5, .int (kz g1)), (4, .int (kz z_3)), (0, .ref o), (1, .int (kz f)), (2, .int (kz b)), (3, .int (kz t))]) hx hb dX12_counts_115 hl (by decide) rfl (fun ls hl => ?_)
              refine lv_iload hx hb dX12_counts_117 (lv_at hl 0 rfl) ?_
              refine iz_gez (tgt := 125) hx hb dX12_counts_119 (by decide) (by unfold rg2; omega) (fun br_137 => ?_) (fun br_137 => ?_)
              · refine lv_iload hx hb dX12_counts_125 (lv_at hl 2 rfl) ?_
                refine lv_iload hx hb dX12_counts_127 (lv_at hl 1 rfl) ?_
                refine iz_gez (tgt := 136) hx hb dX12_counts_129 (by decide) (by unfold rg2; omega) (fun br_138 => ?_) (fun br_138 => ?_)
                · refine lv_aload_n hx hb dX12_counts_136 rfl (lv_at hl 4 rfl) ?_
                  refine iz_get (D := (dC, dI)) (ci := 12) (v := .ref (am 12)) (C := RX12) (T := TX12) (N := 49) hx hb hts hin hown hK hO rfl 12 (by decide) hL39 (fun _ h9 => h9) rfl dX12_counts_137 ?_
                  refine lv_iload hx hb dX12_counts_140 (lv_at hl 1 rfl) ?_
                  refine iz_iald hx hb hK 0 c_12 rfl (by omega) (by decide) dX12_counts_142 ?_
                  obtain ⟨v_139a, v_139b, v_139c⟩ := k_12 q (by omega)
                  clear v_139c
                  obtain ⟨v_139, ev_139⟩ : ∃ z9 : Int, ge1 (fc 12) q = z9 := ⟨_, rfl⟩
                  rw [ev_139] at v_139a v_139b ⊢
                  refine lv_iload hx hb dX12_counts_143 (lv_at hl 0 rfl) ?_
                  refine vp_callSi (va_Run.run (va_runS (As := [.int (kz g1), .int (kz v_139), .int (kz z_136)]) (rest := []) ⟨hx, hb, hml, hown, hts⟩ (m_placeOf l g1 v_139 z_136) (va_cwS 3 hts gX12_counts_X12_placeOf rfl rfl rfl (by decide +kernel) ⟨Nat.le_of_ble_eq_true rfl, Nat.le_of_ble_eq_true rfl⟩) ⟨fun a U g mk q => q, fun U hU hW => ⟨rfl, trivial⟩⟩ rfl rfl hl.1 rfl (lv_room (Nat.le_of_ble_eq_true rfl)) dX12_counts_145 ⟨Nat.le_of_ble_eq_true rfl, Nat.le_of_ble_eq_true rfl⟩)) (fun r_141 hw_140 => ?_)
                  obtain ⟨z_142, rfl, z_142h⟩ := hw_140
                  refine lv_istore (lv' := [(8, .int (kz z_142)), (7, .int (kz z_136)), (6, .int (kz q)), (5, .int (kz g1)), (4, .int (kz z_3)), (0, .ref o), (1, .int (kz f)), (2, .int (kz b)), (3, .int (kz t))]) hx hb dX12_counts_148 hl (by decide) rfl (fun ls hl => ?_)
                  refine lv_aload_n hx hb dX12_counts_150 rfl (lv_at hl 5 rfl) ?_
                  refine iz_get (D := (dC, dI)) (ci := 12) (v := .ref (am 31)) (C := RX12) (T := TX12) (N := 49) hx hb hts hin hown hK hO rfl 31 (by decide) hL85 (fun _ h9 => h9) rfl dX12_counts_151 ?_
                  refine lv_iload hx hb dX12_counts_154 (lv_at hl 4 rfl) ?_
                  refine lv_aload_n hx hb dX12_counts_156 rfl (lv_at hl 5 rfl) ?_
                  refine iz_get (D := (dC, dI)) (ci := 12) (v := .ref (am 31)) (C := RX12) (T := TX12) (N := 49) hx hb hts hin hown hK hO rfl 31 (by decide) hL85 (fun _ h9 => h9) rfl dX12_counts_157 ?_
                  refine lv_iload hx hb dX12_counts_160 (lv_at hl 4 rfl) ?_
                  obtain ⟨f31_143, c_f31_143⟩ := iv_o23 hI g31
                  refine iz_lald hx hb hK 3 c_f31_143 rfl (by omega) (by decide) dX12_counts_162 ?_
                  refine lv_topl (fun y_144 ey_144 => ?_)
                  refine lv_aload_n hx hb dX12_counts_163 rfl (lv_at hl 5 rfl) ?_
                  refine iz_get (D := (dC, dI)) (ci := 12) (v := .ref (am 31)) (C := RX12) (T := TX12) (N := 49) hx hb hts hin hown hK hO rfl 31 (by decide) hL85 (fun _ h9 => h9) rfl dX12_counts_164 ?_
                  refine lv_iload hx hb dX12_counts_167 (lv_at hl 0 rfl) ?_
                  refine iz_lald hx hb hK 3 c_f31_143 rfl (by omega) (by decide) dX12_counts_169 ?_
                  refine lv_topl (fun y_145 ey_145 => ?_)
                  refine vp_callSl (va_Run.run (va_runS (As := [.long y_144, .long y_145]) (rest := [.int (kz z_3), .ref (am 31)]) ⟨hx, hb, hml, hown, hts⟩ (m_plus l y_144 y_145) (va_cwS 2 hts gX12_counts_X12_plus rfl rfl rfl (by decide +kernel) ⟨Nat.le_of_ble_eq_true rfl, Nat.le_of_ble_eq_true rfl⟩) ⟨fun a U g mk q => q, fun U hU hW => ⟨rfl, trivial⟩⟩ rfl rfl hl.1 rfl (lv_room (Nat.le_of_ble_eq_true rfl)) dX12_counts_170 ⟨Nat.le_of_ble_eq_true rfl, Nat.le_of_ble_eq_true rfl⟩)) (fun r_147 hw_146 => ?_)
                  refine iz_last hx hb hK 3 c_f31_143 hS (iv_A hI g31 (by decide)) rfl (by omega) (by decide) dX12_counts_173 (fun H locs c9 oq hS => ?_)
                  have hI := iv_s23 hI g31 c9 oq
                  have hO := hO.kept (oq _ (iv_ne0 g31 hM.2.1 (by decide)).symm)
                  have c_3 := c_3.kept (oq _ (iv_ne g3 g31 (by decide)))
                  have c_4 := c_4.kept (oq _ (iv_ne g4 g31 (by decide)))
                  have c_5 := c_5.kept (oq _ (iv_ne g5 g31 (by decide)))
                  have c_10 := c_10.kept (oq _ (iv_ne g10 g31 (by decide)))
                  have c_11 := c_11.kept (oq _ (iv_ne g11 g31 (by decide)))
                  have c_12 := c_12.kept (oq _ (iv_ne g12 g31 (by decide)))
                  have c_13 := c_13.kept (oq _ (iv_ne g13 g31 (by decide)))
                  have c_17 := c_17.kept (oq _ (iv_ne g17 g31 (by decide)))
                  have c_27 := c_27.kept (oq _ (iv_ne g27 g31 (by decide)))
                  have c_29 := c_29.kept (oq _ (iv_ne g29 g31 (by decide)))
                  have c_30 := c_30.kept (oq _ (iv_ne g30 g31 (by decide)))
                  have c_32 := c_32.kept (oq _ (iv_ne g32 g31 (by decide)))
                  have c_33 := c_33.kept (oq _ (iv_ne g33 g31 (by decide)))
                  have c_44 := c_44.kept (oq _ (iv_ne g44 g31 (by decide)))
                  clear oq c9
                  refine lv_aload_n hx hb dX12_counts_174 rfl (lv_at hl 5 rfl) ?_
                  refine iz_get (D := (dC, dI)) (ci := 12) (v := .ref (am 7)) (C := RX12) (T := TX12) (N := 49) hx hb hts hin hown hK hO rfl 7 (by decide) hL26 (fun _ h9 => h9) rfl dX12_counts_175 ?_
                  refine lv_iload_n hx hb dX12_counts_178 rfl (lv_at hl 6 rfl) ?_
                  obtain ⟨f7_148, c_f7_148, k_f7_148⟩ := iv_o20 hI g7
                  refine iz_iald hx hb hK 0 c_f7_148 rfl (by omega) (by decide) dX12_counts_179 ?_
                  obtain ⟨v_149a, v_149b, v_149c⟩ := k_f7_148 f (by omega)
                  clear v_149c
                  obtain ⟨v_149, ev_149⟩ : ∃ z9 : Int, ge1 f7_148 f = z9 := ⟨_, rfl⟩
                  rw [ev_149] at v_149a v_149b ⊢
                  refine lv_iload hx hb dX12_counts_180 (lv_at hl 2 rfl) ?_
                  refine iz_gez (tgt := 189) hx hb dX12_counts_182 (by decide) (by unfold rg2; omega) (fun br_150 => ?_) (fun br_150 => ?_)
                  · refine lv_aload_n hx hb dX12_counts_189 rfl (lv_at hl 5 rfl) ?_
                    refine iz_get (D := (dC, dI)) (ci := 12) (v := .ref (am 14)) (C := RX12) (T := TX12) (N := 49) hx hb hts hin hown hK hO rfl 14 (by decide) hL45 (fun _ h9 => h9) rfl dX12_counts_190 ?_
                    refine lv_iload hx hb dX12_counts_193 (lv_at hl 2 rfl) ?_
                    obtain ⟨f14_151, c_f14_151, k_f14_151⟩ := iv_o20 hI g14
                    refine iz_iald hx hb hK 0 c_f14_151 rfl (by omega) (by decide) dX12_counts_195 ?_
                    obtain ⟨v_152a, v_152b, v_152c⟩ := k_f14_151 q (by omega)
                    clear v_152c
                    obtain ⟨v_152, ev_152⟩ : ∃ z9 : Int, ge1 f14_151 q = z9 := ⟨_, rfl⟩
                    rw [ev_152] at v_152a v_152b ⊢
                    refine iz_iadd hx hb dX12_counts_196 ?_
                    refine lv_istore (lv' := [(9, .int (kz (v_149 + v_152))), (8, .int (kz z_142)), (7, .int (kz z_136)), (6, .int (kz q)), (5, .int (kz g1)), (4, .int (kz z_3)), (0, .ref o), (1, .int (kz f)), (2, .int (kz b)), (3, .int (kz t))]) hx hb dX12_counts_197 hl (by decide) rfl (fun ls hl => ?_)
                    refine lv_iconst (v := kz 0) hx hb dX12_counts_199 rfl ?_
                    refine lv_istore (lv' := [(10, .int (kz 0)), (9, .int (kz (v_149 + v_152))), (8, .int (kz z_142)), (7, .int (kz z_136)), (6, .int (kz q)), (5, .int (kz g1)), (4, .int (kz z_3)), (0, .ref o), (1, .int (kz f)), (2, .int (kz b)), (3, .int (kz t))]) hx hb dX12_counts_200 hl (by decide) rfl (fun ls hl => ?_)
                    refine iz_loopA1 (α := (Nat → Int32) × (Nat → Int32)) (P := fun N9 fn9 k H locs ls => (0 ≤ k) ∧ (k ≤ 8) ∧ (cn fc (zi 28) (zi 34) (zi 2) (zi 9) f b t fn9.1 fn9.2) ∧ 8 - k ≤ (N9 : Int) ∧ lv_has ls 11 [(10, .int (kz k)), (9, .int (kz (v_149 + v_152))), (8, .int (kz z_142)), (7, .int (kz z_136)), (6, .int (kz q)), (5, .int (kz g1)), (4, .int (kz z_3)), (0, .ref o), (1, .int (kz f)), (2, .int (kz b)), (3, .int (kz t))] ∧ iv (dC, dI) ca A X H ∧ va_at (dC, dI) vwCl (o, .inr (12, mM am zi zl)) H ∧ va_S A s.heap H locs ∧ va_at (dC, dI) vwCl (am 3, .inl (ca 21, 320, .inl (fc 3))) H ∧ va_at (dC, dI) vwCl (am 4, .inl (ca 20, 40, .inl (fc 4))) H ∧ va_at (dC, dI) vwCl (am 5, .inl (ca 20, 40, .inl (fc 5))) H ∧ va_at (dC, dI) vwCl (am 10, .inl (ca 21, 240, .inl (fc 10))) H ∧ va_at (dC, dI) vwCl (am 11, .inl (ca 20, 24, .inl (fc 11))) H ∧ va_at (dC, dI) vwCl (am 12, .inl (ca 20, 24, .inl (fc 12))) H ∧ va_at (dC, dI) vwCl (am 13, .inl (ca 20, 24, .inl (fc 13))) H ∧ va_at (dC, dI) vwCl (am 17, .inl (ca 22, 36, .inl (fc 17))) H ∧ va_at (dC, dI) vwCl (am 27, .inl (ca 21, 40, .inl (fc 27))) H ∧ va_at (dC, dI) vwCl (am 29, .inl (ca 20, 1600, .inl (fc 29))) H ∧ va_at (dC, dI) vwCl (am 30, .inl (ca 22, 6560, .inl (fc 30))) H ∧ va_at (dC, dI) vwCl (am 32, .inl (ca 20, 52480, .inl fn9.1)) H ∧ va_at (dC, dI) vwCl (am 33, .inl (ca 20, 6560, .inl fn9.2)) H ∧ va_at (dC, dI) vwCl (am 44, .inl (ca 20, 40, .inl (fc 44))) H ∧ ok20 X (am 32) 52480 (-2147483648) (2147483647) fn9.1 ∧ ok20 X (am 33) 6560 (0) (8) fn9.2) 100000 (gb, gm) (x0 := 0) ?_ ⟨by omega, by omega, n_130f2, by omega, lv_sub hl [0, 1, 2, 3, 4, 5, 6, 7, 8, 9, 10] rfl, hI, hO, hS, c_3, c_4, c_5, c_10, c_11, c_12, c_13, c_17, c_27, c_29, c_30, c_32, c_33, c_44, k_gb, k_gm⟩
                    intro n_153 ⟨gb, gm⟩ k H locs ls ⟨n_153f0, n_153f1, n_153f2, n_153f3, hl, hI, hO, hS, c_3, c_4, c_5, c_10, c_11, c_12, c_13, c_17, c_27, c_29, c_30, c_32, c_33, c_44, k_gb, k_gm⟩ ihn_153
                    have n_153f2 : cn fc (zi 28) (zi 34) (zi 2) (zi 9) f b t gb gm := n_153f2
                    have c_32 : va_at (dC, dI) vwCl (am 32, .inl (ca 20, 52480, .inl gb)) H := c_32
                    have k_gb : ok20 X (am 32) 52480 (-2147483648) (2147483647) gb := k_gb
                    have c_33 : va_at (dC, dI) vwCl (am 33, .inl (ca 20, 6560, .inl gm)) H := c_33
                    have k_gm : ok20 X (am 33) 6560 (0) (8) gm := k_gm
                    refine lv_iload hx hb dX12_counts_202 (lv_at hl 0 rfl) ?_
                    refine lv_aload_n hx hb dX12_counts_204 rfl (lv_at hl 7 rfl) ?_
                    refine iz_get (D := (dC, dI)) (ci := 12) (v := .ref (am 33)) (C := RX12) (T := TX12) (N := 49) hx hb hts hin hown hK hO rfl 33 (by decide) hL93 (fun _ h9 => h9) rfl dX12_counts_205 ?_
                    refine lv_iload hx hb dX12_counts_208 (lv_at hl 2 rfl) ?_
                    refine iz_iald hx hb hK 0 c_33 rfl (by omega) (by decide) dX12_counts_210 ?_
                    obtain ⟨v_154a, v_154b, v_154c⟩ := k_gm z_142 (by omega)
                    clear v_154c
                    obtain ⟨v_154, ev_154⟩ : ∃ z9 : Int, ge1 gm z_142 = z9 := ⟨_, rfl⟩
                    rw [ev_154] at v_154a v_154b ⊢
                    refine iz_ge (tgt := 268) hx hb dX12_counts_211 (by decide) (by unfold rg2; omega) (fun br_155 => ?_) (fun br_155 => ?_)
                    · refine lv_iinc (v := kz (q + 1)) (lv' := [(6, .int (kz (q + 1))), (10, .int (kz k)), (9, .int (kz (v_149 + v_152))), (8, .int (kz z_142)), (7, .int (kz z_136)), (5, .int (kz g1)), (4, .int (kz z_3)), (0, .ref o), (1, .int (kz f)), (2, .int (kz b)), (3, .int (kz t))]) hx hb dX12_counts_268 hl (k := 4) rfl (kz_add q 1) (by decide) rfl (fun ls hl => ?_)
                      refine lv_goto (tgt := 82) hx hb dX12_counts_271 (by decide) ?_
                      exact ihn_130 (n_130 - 1) (by omega) (gb, gm) (q + 1) _ _ _ ⟨by omega, by omega, n_153f2, by omega, lv_sub hl [0, 5, 6, 7, 8, 9, 10] rfl, hI, hO, hS, c_3, c_4, c_5, c_10, c_11, c_12, c_13, c_17, c_27, c_29, c_30, c_32, c_33, c_44, k_gb, k_gm⟩
                    · refine lv_aload_n hx hb dX12_counts_214 rfl (lv_at hl 7 rfl) ?_
                      refine lv_iload hx hb dX12_counts_215 (lv_at hl 6 rfl) ?_
                      refine lv_iload hx hb dX12_counts_217 (lv_at hl 1 rfl) ?_
                      refine lv_aload_n hx hb dX12_counts_219 rfl (lv_at hl 7 rfl) ?_
                      refine iz_get (D := (dC, dI)) (ci := 12) (v := .ref (am 32)) (C := RX12) (T := TX12) (N := 49) hx hb hts hin hown hK hO rfl 32 (by decide) hL90 (fun _ h9 => h9) rfl dX12_counts_220 ?_
                      refine lv_bipush (v := kz 8) hx hb dX12_counts_223 (by decide) ?_
                      refine lv_iload hx hb dX12_counts_225 (lv_at hl 2 rfl) ?_
                      refine iz_imul hx hb dX12_counts_227 ?_
                      refine lv_iload hx hb dX12_counts_228 (lv_at hl 0 rfl) ?_
                      refine iz_iadd hx hb dX12_counts_230 ?_
                      refine iz_iald hx hb hK 0 c_32 rfl (by omega) (by decide) dX12_counts_231 ?_
                      obtain ⟨v_156a, v_156b, v_156c⟩ := k_gb ((8 * z_142) + k) (by omega)
                      clear v_156c
                      obtain ⟨v_156, ev_156⟩ : ∃ z9 : Int, ge1 gb ((8 * z_142) + k) = z9 := ⟨_, rfl⟩
                      rw [ev_156] at v_156a v_156b ⊢
                      refine vp_callSi (va_Run.run (va_runS (As := [.int (kz v_156)]) (rest := [.int (kz (v_149 + v_152)), .int (kz z_3), .ref o]) ⟨hx, hb, hml, hown, hts⟩ (m_costOf l v_156) (va_cwS 1 hts gX12_counts_X12_costOf rfl rfl rfl (by decide +kernel) ⟨Nat.le_of_ble_eq_true rfl, Nat.le_of_ble_eq_true rfl⟩) ⟨fun a U g mk q => q, fun U hU hW => ⟨rfl, trivial⟩⟩ rfl rfl hl.1 rfl (lv_room (Nat.le_of_ble_eq_true rfl)) dX12_counts_232 ⟨Nat.le_of_ble_eq_true rfl, Nat.le_of_ble_eq_true rfl⟩)) (fun r_158 hw_157 => ?_)
                      obtain ⟨z_159, z_159a, z_159b, rfl⟩ := kz_ex r_158
                      refine iz_iadd hx hb dX12_counts_235 ?_
                      refine lv_bipush (v := kz 15) hx hb dX12_counts_236 (by decide) ?_
                      refine lv_ishl hx hb dX12_counts_238 ?_
                      refine iz_any (fun z_160 z_160a z_160b z_160e => ?_)
                      refine lv_sipush (v := kz 16384) hx hb dX12_counts_239 (by decide) ?_
                      refine lv_ior hx hb dX12_counts_242 ?_
                      refine iz_any (fun z_161 z_161a z_161b z_161e => ?_)
                      refine lv_iload hx hb dX12_counts_243 (lv_at hl 4 rfl) ?_
                      refine lv_iconst (v := kz 1) hx hb dX12_counts_245 rfl ?_
                      refine iz_iadd hx hb dX12_counts_246 ?_
                      refine lv_bipush (v := kz 9) hx hb dX12_counts_247 (by decide) ?_
                      refine lv_ishl hx hb dX12_counts_249 ?_
                      refine iz_any (fun z_162 z_162a z_162b z_162e => ?_)
                      refine lv_ior hx hb dX12_counts_250 ?_
                      refine iz_any (fun z_163 z_163a z_163b z_163e => ?_)
                      refine lv_iload hx hb dX12_counts_251 (lv_at hl 5 rfl) ?_
                      refine lv_iconst (v := kz 3) hx hb dX12_counts_253 rfl ?_
                      refine lv_ishl hx hb dX12_counts_254 ?_
                      refine iz_any (fun z_164 z_164a z_164b z_164e => ?_)
                      refine lv_ior hx hb dX12_counts_255 ?_
                      refine iz_any (fun z_165 z_165a z_165b z_165e => ?_)
                      refine lv_iload hx hb dX12_counts_256 (lv_at hl 0 rfl) ?_
                      refine lv_ior hx hb dX12_counts_258 ?_
                      refine iz_any (fun z_166 z_166a z_166b z_166e => ?_)
                      refine va_callv (va_runV (As := [.int (kz z_3), .int (kz z_166)]) (rest := []) ⟨hx, hb, hml, hown, hts⟩ (m_keeps l dC dI ca A X o am zi zl (cup (cup fc 32 gb) 33 gm) hM hz ⟨k_4, k_5, k_11, k_12, k_13, k_29, k_gb, k_gm, k_44⟩ z_3 z_166 (by omega) (by omega)) (cwV 2 hts gX12_counts_X12_keeps rfl rfl rfl (by decide +kernel) ⟨Nat.le_of_ble_eq_true rfl, Nat.le_of_ble_eq_true rfl⟩) ⟨fun a U g mk q => by obtain ⟨q0, qK, qI⟩ := q; exact ⟨q0, va_K.moved (u := U) (U := U.calling g mk a) (Vm.Alike.refl U.vm) qK, qI⟩, va_recv hK (at_P hO) (ci := 12) (q0 := 0) rfl rfl, fun U hU hW => ⟨rfl, va_K.moved hW.alike hK, by rw [hU]; exact ⟨⟨hI, hO⟩, c_3, c_4, c_5, c_10, c_11, c_12, c_13, c_17, c_27, c_29, c_30, c_32, c_33, c_44⟩⟩⟩ rfl rfl hl.1 rfl (lv_room (Nat.le_of_ble_eq_true rfl)) dX12_counts_259 ⟨Nat.le_of_ble_eq_true rfl, Nat.le_of_ble_eq_true rfl⟩) hS (fun q _ h => h) (fun q h => h) (fun u t9 H locs ht hvm hw_167 hB hz1 hk1 hS => ?_)
                      obtain ⟨-, ⟨hI, hO⟩, c_3, c_4, c_5, c_10, c_11, c_12, c_13, c_17, c_27, c_29, c_30, c_32, c_33, c_44⟩ := hB
                      rw [ht] at hI hO c_3 c_4 c_5 c_10 c_11 c_12 c_13 c_17 c_27 c_29 c_30 c_32 c_33 c_44
                      clear ht hvm hz1 hk1
                      have he_z_166 := enc_bits z_160e z_161e z_162e z_163e z_164e z_165e z_166e
                      have hg_z_166 : ge1 gm z_142 = ge1 (fc 33) z_142 := n_153f2.2.1 z_142 (by omega) (by unfold pl; omega)
                      have hv_z_166 : ev1 fc (zi 28) (zi 34) (zi 2) (zi 9) f b t z_166 := (ev1_in (gm := gm) ⟨by omega, by omega, hw_132, hw_134⟩ (show z_142 = pl g1 (nb fc q) (ds fc f b t q) by unfold pl nb; rw [if_neg (show ¬ q < 0 by omega), ev_139, ← ez_136]; omega) hg_z_166 (by omega) (enc_q he_z_166 (by omega) (by omega) (by omega)) (enc_g he_z_166 (by omega) (by omega)) (enc_w he_z_166 (by omega)) (by omega))
                      obtain ⟨gb_169, gm_170, rfl, k_gb_169, k_gm_170, x_gb_169⟩ := hw_167
                      have c_3 : va_at (dC, dI) vwCl (am 3, .inl (ca 21, 320, .inl (fc 3))) H := c_3
                      have c_4 : va_at (dC, dI) vwCl (am 4, .inl (ca 20, 40, .inl (fc 4))) H := c_4
                      have c_5 : va_at (dC, dI) vwCl (am 5, .inl (ca 20, 40, .inl (fc 5))) H := c_5
                      have c_10 : va_at (dC, dI) vwCl (am 10, .inl (ca 21, 240, .inl (fc 10))) H := c_10
                      have c_11 : va_at (dC, dI) vwCl (am 11, .inl (ca 20, 24, .inl (fc 11))) H := c_11
                      have c_12 : va_at (dC, dI) vwCl (am 12, .inl (ca 20, 24, .inl (fc 12))) H := c_12
                      have c_13 : va_at (dC, dI) vwCl (am 13, .inl (ca 20, 24, .inl (fc 13))) H := c_13
                      have c_17 : va_at (dC, dI) vwCl (am 17, .inl (ca 22, 36, .inl (fc 17))) H := c_17
                      have c_27 : va_at (dC, dI) vwCl (am 27, .inl (ca 21, 40, .inl (fc 27))) H := c_27
                      have c_29 : va_at (dC, dI) vwCl (am 29, .inl (ca 20, 1600, .inl (fc 29))) H := c_29
                      have c_30 : va_at (dC, dI) vwCl (am 30, .inl (ca 22, 6560, .inl (fc 30))) H := c_30
                      have c_32 : va_at (dC, dI) vwCl (am 32, .inl (ca 20, 52480, .inl gb_169)) H := c_32
                      have c_33 : va_at (dC, dI) vwCl (am 33, .inl (ca 20, 6560, .inl gm_170)) H := c_33
                      have c_44 : va_at (dC, dI) vwCl (am 44, .inl (ca 20, 40, .inl (fc 44))) H := c_44
                      have cn_gb_169 : cn fc (zi 28) (zi 34) (zi 2) (zi 9) f b t gb_169 gm_170 := cn_keep z_3h (by omega) n_153f2 hv_z_166 x_gb_169
                      refine lv_iinc (v := kz (k + 1)) (lv' := [(10, .int (kz (k + 1))), (9, .int (kz (v_149 + v_152))), (8, .int (kz z_142)), (7, .int (kz z_136)), (6, .int (kz q)), (5, .int (kz g1)), (4, .int (kz z_3)), (0, .ref o), (1, .int (kz f)), (2, .int (kz b)), (3, .int (kz t))]) hx hb dX12_counts_262 hl (k := 0) rfl (kz_add k 1) (by decide) rfl (fun ls hl => ?_)
                      refine lv_goto (tgt := 202) hx hb dX12_counts_265 (by decide) ?_
                      exact ihn_153 (n_153 - 1) (by omega) (gb_169, gm_170) (k + 1) _ _ _ ⟨by omega, by omega, cn_gb_169, by omega, lv_sub hl [0, 1, 2, 3, 4, 5, 6, 7, 8, 9, 10] rfl, hI, hO, hS, c_3, c_4, c_5, c_10, c_11, c_12, c_13, c_17, c_27, c_29, c_30, c_32, c_33, c_44, k_gb_169, k_gm_170⟩
                  · refine lv_iconst (v := kz 0) hx hb dX12_counts_185 rfl ?_
                    refine lv_goto (tgt := 196) hx hb dX12_counts_186 (by decide) ?_
                    refine iz_iadd hx hb dX12_counts_196 ?_
                    refine lv_istore (lv' := [(9, .int (kz (v_149 + 0))), (8, .int (kz z_142)), (7, .int (kz z_136)), (6, .int (kz q)), (5, .int (kz g1)), (4, .int (kz z_3)), (0, .ref o), (1, .int (kz f)), (2, .int (kz b)), (3, .int (kz t))]) hx hb dX12_counts_197 hl (by decide) rfl (fun ls hl => ?_)
                    refine lv_iconst (v := kz 0) hx hb dX12_counts_199 rfl ?_
                    refine lv_istore (lv' := [(10, .int (kz 0)), (9, .int (kz (v_149 + 0))), (8, .int (kz z_142)), (7, .int (kz z_136)), (6, .int (kz q)), (5, .int (kz g1)), (4, .int (kz z_3)), (0, .ref o), (1, .int (kz f)), (2, .int (kz b)), (3, .int (kz t))]) hx hb dX12_counts_200 hl (by decide) rfl (fun ls hl => ?_)
                    refine iz_loopA1 (α := (Nat → Int32) × (Nat → Int32)) (P := fun N9 fn9 k H locs ls => (0 ≤ k) ∧ (k ≤ 8) ∧ (cn fc (zi 28) (zi 34) (zi 2) (zi 9) f b t fn9.1 fn9.2) ∧ 8 - k ≤ (N9 : Int) ∧ lv_has ls 11 [(10, .int (kz k)), (9, .int (kz (v_149 + 0))), (8, .int (kz z_142)), (7, .int (kz z_136)), (6, .int (kz q)), (5, .int (kz g1)), (4, .int (kz z_3)), (0, .ref o), (1, .int (kz f)), (2, .int (kz b)), (3, .int (kz t))] ∧ iv (dC, dI) ca A X H ∧ va_at (dC, dI) vwCl (o, .inr (12, mM am zi zl)) H ∧ va_S A s.heap H locs ∧ va_at (dC, dI) vwCl (am 3, .inl (ca 21, 320, .inl (fc 3))) H ∧ va_at (dC, dI) vwCl (am 4, .inl (ca 20, 40, .inl (fc 4))) H ∧ va_at (dC, dI) vwCl (am 5, .inl (ca 20, 40, .inl (fc 5))) H ∧ va_at (dC, dI) vwCl (am 10, .inl (ca 21, 240, .inl (fc 10))) H ∧ va_at (dC, dI) vwCl (am 11, .inl (ca 20, 24, .inl (fc 11))) H ∧ va_at (dC, dI) vwCl (am 12, .inl (ca 20, 24, .inl (fc 12))) H ∧ va_at (dC, dI) vwCl (am 13, .inl (ca 20, 24, .inl (fc 13))) H ∧ va_at (dC, dI) vwCl (am 17, .inl (ca 22, 36, .inl (fc 17))) H ∧ va_at (dC, dI) vwCl (am 27, .inl (ca 21, 40, .inl (fc 27))) H ∧ va_at (dC, dI) vwCl (am 29, .inl (ca 20, 1600, .inl (fc 29))) H ∧ va_at (dC, dI) vwCl (am 30, .inl (ca 22, 6560, .inl (fc 30))) H ∧ va_at (dC, dI) vwCl (am 32, .inl (ca 20, 52480, .inl fn9.1)) H ∧ va_at (dC, dI) vwCl (am 33, .inl (ca 20, 6560, .inl fn9.2)) H ∧ va_at (dC, dI) vwCl (am 44, .inl (ca 20, 40, .inl (fc 44))) H ∧ ok20 X (am 32) 52480 (-2147483648) (2147483647) fn9.1 ∧ ok20 X (am 33) 6560 (0) (8) fn9.2) 100000 (gb, gm) (x0 := 0) ?_ ⟨by omega, by omega, n_130f2, by omega, lv_sub hl [0, 1, 2, 3, 4, 5, 6, 7, 8, 9, 10] rfl, hI, hO, hS, c_3, c_4, c_5, c_10, c_11, c_12, c_13, c_17, c_27, c_29, c_30, c_32, c_33, c_44, k_gb, k_gm⟩
                    intro n_171 ⟨gb, gm⟩ k H locs ls ⟨n_171f0, n_171f1, n_171f2, n_171f3, hl, hI, hO, hS, c_3, c_4, c_5, c_10, c_11, c_12, c_13, c_17, c_27, c_29, c_30, c_32, c_33, c_44, k_gb, k_gm⟩ ihn_171
                    have n_171f2 : cn fc (zi 28) (zi 34) (zi 2) (zi 9) f b t gb gm := n_171f2
                    have c_32 : va_at (dC, dI) vwCl (am 32, .inl (ca 20, 52480, .inl gb)) H := c_32
                    have k_gb : ok20 X (am 32) 52480 (-2147483648) (2147483647) gb := k_gb
                    have c_33 : va_at (dC, dI) vwCl (am 33, .inl (ca 20, 6560, .inl gm)) H := c_33
                    have k_gm : ok20 X (am 33) 6560 (0) (8) gm := k_gm
                    refine lv_iload hx hb dX12_counts_202 (lv_at hl 0 rfl) ?_
                    refine lv_aload_n hx hb dX12_counts_204 rfl (lv_at hl 7 rfl) ?_
                    refine iz_get (D := (dC, dI)) (ci := 12) (v := .ref (am 33)) (C := RX12) (T := TX12) (N := 49) hx hb hts hin hown hK hO rfl 33 (by decide) hL93 (fun _ h9 => h9) rfl dX12_counts_205 ?_
                    refine lv_iload hx hb dX12_counts_208 (lv_at hl 2 rfl) ?_
                    refine iz_iald hx hb hK 0 c_33 rfl (by omega) (by decide) dX12_counts_210 ?_
                    obtain ⟨v_172a, v_172b, v_172c⟩ := k_gm z_142 (by omega)
                    clear v_172c
                    obtain ⟨v_172, ev_172⟩ : ∃ z9 : Int, ge1 gm z_142 = z9 := ⟨_, rfl⟩
                    rw [ev_172] at v_172a v_172b ⊢
                    refine iz_ge (tgt := 268) hx hb dX12_counts_211 (by decide) (by unfold rg2; omega) (fun br_173 => ?_) (fun br_173 => ?_)
                    · refine lv_iinc (v := kz (q + 1)) (lv' := [(6, .int (kz (q + 1))), (10, .int (kz k)), (9, .int (kz (v_149 + 0))), (8, .int (kz z_142)), (7, .int (kz z_136)), (5, .int (kz g1)), (4, .int (kz z_3)), (0, .ref o), (1, .int (kz f)), (2, .int (kz b)), (3, .int (kz t))]) hx hb dX12_counts_268 hl (k := 4) rfl (kz_add q 1) (by decide) rfl (fun ls hl => ?_)
                      refine lv_goto (tgt := 82) hx hb dX12_counts_271 (by decide) ?_
                      exact ihn_130 (n_130 - 1) (by omega) (gb, gm) (q + 1) _ _ _ ⟨by omega, by omega, n_171f2, by omega, lv_sub hl [0, 5, 6, 7, 8, 9, 10] rfl, hI, hO, hS, c_3, c_4, c_5, c_10, c_11, c_12, c_13, c_17, c_27, c_29, c_30, c_32, c_33, c_44, k_gb, k_gm⟩
                    · refine lv_aload_n hx hb dX12_counts_214 rfl (lv_at hl 7 rfl) ?_
                      refine lv_iload hx hb dX12_counts_215 (lv_at hl 6 rfl) ?_
                      refine lv_iload hx hb dX12_counts_217 (lv_at hl 1 rfl) ?_
                      refine lv_aload_n hx hb dX12_counts_219 rfl (lv_at hl 7 rfl) ?_
                      refine iz_get (D := (dC, dI)) (ci := 12) (v := .ref (am 32)) (C := RX12) (T := TX12) (N := 49) hx hb hts hin hown hK hO rfl 32 (by decide) hL90 (fun _ h9 => h9) rfl dX12_counts_220 ?_
                      refine lv_bipush (v := kz 8) hx hb dX12_counts_223 (by decide) ?_
                      refine lv_iload hx hb dX12_counts_225 (lv_at hl 2 rfl) ?_
                      refine iz_imul hx hb dX12_counts_227 ?_
                      refine lv_iload hx hb dX12_counts_228 (lv_at hl 0 rfl) ?_
                      refine iz_iadd hx hb dX12_counts_230 ?_
                      refine iz_iald hx hb hK 0 c_32 rfl (by omega) (by decide) dX12_counts_231 ?_
                      obtain ⟨v_174a, v_174b, v_174c⟩ := k_gb ((8 * z_142) + k) (by omega)
                      clear v_174c
                      obtain ⟨v_174, ev_174⟩ : ∃ z9 : Int, ge1 gb ((8 * z_142) + k) = z9 := ⟨_, rfl⟩
                      rw [ev_174] at v_174a v_174b ⊢
                      refine vp_callSi (va_Run.run (va_runS (As := [.int (kz v_174)]) (rest := [.int (kz (v_149 + 0)), .int (kz z_3), .ref o]) ⟨hx, hb, hml, hown, hts⟩ (m_costOf l v_174) (va_cwS 1 hts gX12_counts_X12_costOf rfl rfl rfl (by decide +kernel) ⟨Nat.le_of_ble_eq_true rfl, Nat.le_of_ble_eq_true rfl⟩) ⟨fun a U g mk q => q, fun U hU hW => ⟨rfl, trivial⟩⟩ rfl rfl hl.1 rfl (lv_room (Nat.le_of_ble_eq_true rfl)) dX12_counts_232 ⟨Nat.le_of_ble_eq_true rfl, Nat.le_of_ble_eq_true rfl⟩)) (fun r_176 hw_175 => ?_)
                      obtain ⟨z_177, z_177a, z_177b, rfl⟩ := kz_ex r_176
                      refine iz_iadd hx hb dX12_counts_235 ?_
                      refine lv_bipush (v := kz 15) hx hb dX12_counts_236 (by decide) ?_
                      refine lv_ishl hx hb dX12_counts_238 ?_
                      refine iz_any (fun z_178 z_178a z_178b z_178e => ?_)
                      refine lv_sipush (v := kz 16384) hx hb dX12_counts_239 (by decide) ?_
                      refine lv_ior hx hb dX12_counts_242 ?_
                      refine iz_any (fun z_179 z_179a z_179b z_179e => ?_)
                      refine lv_iload hx hb dX12_counts_243 (lv_at hl 4 rfl) ?_
                      refine lv_iconst (v := kz 1) hx hb dX12_counts_245 rfl ?_
                      refine iz_iadd hx hb dX12_counts_246 ?_
                      refine lv_bipush (v := kz 9) hx hb dX12_counts_247 (by decide) ?_
                      refine lv_ishl hx hb dX12_counts_249 ?_
                      refine iz_any (fun z_180 z_180a z_180b z_180e => ?_)
                      refine lv_ior hx hb dX12_counts_250 ?_
                      refine iz_any (fun z_181 z_181a z_181b z_181e => ?_)
                      refine lv_iload hx hb dX12_counts_251 (lv_at hl 5 rfl) ?_
                      refine lv_iconst (v := kz 3) hx hb dX12_counts_253 rfl ?_
                      refine lv_ishl hx hb dX12_counts_254 ?_
                      refine iz_any (fun z_182 z_182a z_182b z_182e => ?_)
                      refine lv_ior hx hb dX12_counts_255 ?_
                      refine iz_any (fun z_183 z_183a z_183b z_183e => ?_)
                      refine lv_iload hx hb dX12_counts_256 (lv_at hl 0 rfl) ?_
                      refine lv_ior hx hb dX12_counts_258 ?_
                      refine iz_any (fun z_184 z_184a z_184b z_184e => ?_)
                      refine va_callv (va_runV (As := [.int (kz z_3), .int (kz z_184)]) (rest := []) ⟨hx, hb, hml, hown, hts⟩ (m_keeps l dC dI ca A X o am zi zl (cup (cup fc 32 gb) 33 gm) hM hz ⟨k_4, k_5, k_11, k_12, k_13, k_29, k_gb, k_gm, k_44⟩ z_3 z_184 (by omega) (by omega)) (cwV 2 hts gX12_counts_X12_keeps rfl rfl rfl (by decide +kernel) ⟨Nat.le_of_ble_eq_true rfl, Nat.le_of_ble_eq_true rfl⟩) ⟨fun a U g mk q => by obtain ⟨q0, qK, qI⟩ := q; exact ⟨q0, va_K.moved (u := U) (U := U.calling g mk a) (Vm.Alike.refl U.vm) qK, qI⟩, va_recv hK (at_P hO) (ci := 12) (q0 := 0) rfl rfl, fun U hU hW => ⟨rfl, va_K.moved hW.alike hK, by rw [hU]; exact ⟨⟨hI, hO⟩, c_3, c_4, c_5, c_10, c_11, c_12, c_13, c_17, c_27, c_29, c_30, c_32, c_33, c_44⟩⟩⟩ rfl rfl hl.1 rfl (lv_room (Nat.le_of_ble_eq_true rfl)) dX12_counts_259 ⟨Nat.le_of_ble_eq_true rfl, Nat.le_of_ble_eq_true rfl⟩) hS (fun q _ h => h) (fun q h => h) (fun u t9 H locs ht hvm hw_185 hB hz1 hk1 hS => ?_)
                      obtain ⟨-, ⟨hI, hO⟩, c_3, c_4, c_5, c_10, c_11, c_12, c_13, c_17, c_27, c_29, c_30, c_32, c_33, c_44⟩ := hB
                      rw [ht] at hI hO c_3 c_4 c_5 c_10 c_11 c_12 c_13 c_17 c_27 c_29 c_30 c_32 c_33 c_44
                      clear ht hvm hz1 hk1
                      have he_z_184 := enc_bits z_178e z_179e z_180e z_181e z_182e z_183e z_184e
                      have hg_z_184 : ge1 gm z_142 = ge1 (fc 33) z_142 := n_171f2.2.1 z_142 (by omega) (by unfold pl; omega)
                      have hv_z_184 : ev1 fc (zi 28) (zi 34) (zi 2) (zi 9) f b t z_184 := (ev1_in (gm := gm) ⟨by omega, by omega, hw_132, hw_134⟩ (show z_142 = pl g1 (nb fc q) (ds fc f b t q) by unfold pl nb; rw [if_neg (show ¬ q < 0 by omega), ev_139, ← ez_136]; omega) hg_z_184 (by omega) (enc_q he_z_184 (by omega) (by omega) (by omega)) (enc_g he_z_184 (by omega) (by omega)) (enc_w he_z_184 (by omega)) (by omega))
                      obtain ⟨gb_187, gm_188, rfl, k_gb_187, k_gm_188, x_gb_187⟩ := hw_185
                      have c_3 : va_at (dC, dI) vwCl (am 3, .inl (ca 21, 320, .inl (fc 3))) H := c_3
                      have c_4 : va_at (dC, dI) vwCl (am 4, .inl (ca 20, 40, .inl (fc 4))) H := c_4
                      have c_5 : va_at (dC, dI) vwCl (am 5, .inl (ca 20, 40, .inl (fc 5))) H := c_5
                      have c_10 : va_at (dC, dI) vwCl (am 10, .inl (ca 21, 240, .inl (fc 10))) H := c_10
                      have c_11 : va_at (dC, dI) vwCl (am 11, .inl (ca 20, 24, .inl (fc 11))) H := c_11
                      have c_12 : va_at (dC, dI) vwCl (am 12, .inl (ca 20, 24, .inl (fc 12))) H := c_12
                      have c_13 : va_at (dC, dI) vwCl (am 13, .inl (ca 20, 24, .inl (fc 13))) H := c_13
                      have c_17 : va_at (dC, dI) vwCl (am 17, .inl (ca 22, 36, .inl (fc 17))) H := c_17
                      have c_27 : va_at (dC, dI) vwCl (am 27, .inl (ca 21, 40, .inl (fc 27))) H := c_27
                      have c_29 : va_at (dC, dI) vwCl (am 29, .inl (ca 20, 1600, .inl (fc 29))) H := c_29
                      have c_30 : va_at (dC, dI) vwCl (am 30, .inl (ca 22, 6560, .inl (fc 30))) H := c_30
                      have c_32 : va_at (dC, dI) vwCl (am 32, .inl (ca 20, 52480, .inl gb_187)) H := c_32
                      have c_33 : va_at (dC, dI) vwCl (am 33, .inl (ca 20, 6560, .inl gm_188)) H := c_33
                      have c_44 : va_at (dC, dI) vwCl (am 44, .inl (ca 20, 40, .inl (fc 44))) H := c_44
                      have cn_gb_187 : cn fc (zi 28) (zi 34) (zi 2) (zi 9) f b t gb_187 gm_188 := cn_keep z_3h (by omega) n_171f2 hv_z_184 x_gb_187
                      refine lv_iinc (v := kz (k + 1)) (lv' := [(10, .int (kz (k + 1))), (9, .int (kz (v_149 + 0))), (8, .int (kz z_142)), (7, .int (kz z_136)), (6, .int (kz q)), (5, .int (kz g1)), (4, .int (kz z_3)), (0, .ref o), (1, .int (kz f)), (2, .int (kz b)), (3, .int (kz t))]) hx hb dX12_counts_262 hl (k := 0) rfl (kz_add k 1) (by decide) rfl (fun ls hl => ?_)
                      refine lv_goto (tgt := 202) hx hb dX12_counts_265 (by decide) ?_
                      exact ihn_171 (n_171 - 1) (by omega) (gb_187, gm_188) (k + 1) _ _ _ ⟨by omega, by omega, cn_gb_187, by omega, lv_sub hl [0, 1, 2, 3, 4, 5, 6, 7, 8, 9, 10] rfl, hI, hO, hS, c_3, c_4, c_5, c_10, c_11, c_12, c_13, c_17, c_27, c_29, c_30, c_32, c_33, c_44, k_gb_187, k_gm_188⟩
                · refine lv_iconst (v := kz 0) hx hb dX12_counts_132 rfl ?_
                  refine lv_goto (tgt := 143) hx hb dX12_counts_133 (by decide) ?_
                  refine lv_iload hx hb dX12_counts_143 (lv_at hl 0 rfl) ?_
                  refine vp_callSi (va_Run.run (va_runS (As := [.int (kz g1), .int (kz 0), .int (kz z_136)]) (rest := []) ⟨hx, hb, hml, hown, hts⟩ (m_placeOf l g1 0 z_136) (va_cwS 3 hts gX12_counts_X12_placeOf rfl rfl rfl (by decide +kernel) ⟨Nat.le_of_ble_eq_true rfl, Nat.le_of_ble_eq_true rfl⟩) ⟨fun a U g mk q => q, fun U hU hW => ⟨rfl, trivial⟩⟩ rfl rfl hl.1 rfl (lv_room (Nat.le_of_ble_eq_true rfl)) dX12_counts_145 ⟨Nat.le_of_ble_eq_true rfl, Nat.le_of_ble_eq_true rfl⟩)) (fun r_190 hw_189 => ?_)
                  obtain ⟨z_191, rfl, z_191h⟩ := hw_189
                  refine lv_istore (lv' := [(8, .int (kz z_191)), (7, .int (kz z_136)), (6, .int (kz q)), (5, .int (kz g1)), (4, .int (kz z_3)), (0, .ref o), (1, .int (kz f)), (2, .int (kz b)), (3, .int (kz t))]) hx hb dX12_counts_148 hl (by decide) rfl (fun ls hl => ?_)
                  refine lv_aload_n hx hb dX12_counts_150 rfl (lv_at hl 5 rfl) ?_
                  refine iz_get (D := (dC, dI)) (ci := 12) (v := .ref (am 31)) (C := RX12) (T := TX12) (N := 49) hx hb hts hin hown hK hO rfl 31 (by decide) hL85 (fun _ h9 => h9) rfl dX12_counts_151 ?_
                  refine lv_iload hx hb dX12_counts_154 (lv_at hl 4 rfl) ?_
                  refine lv_aload_n hx hb dX12_counts_156 rfl (lv_at hl 5 rfl) ?_
                  refine iz_get (D := (dC, dI)) (ci := 12) (v := .ref (am 31)) (C := RX12) (T := TX12) (N := 49) hx hb hts hin hown hK hO rfl 31 (by decide) hL85 (fun _ h9 => h9) rfl dX12_counts_157 ?_
                  refine lv_iload hx hb dX12_counts_160 (lv_at hl 4 rfl) ?_
                  obtain ⟨f31_192, c_f31_192⟩ := iv_o23 hI g31
                  refine iz_lald hx hb hK 3 c_f31_192 rfl (by omega) (by decide) dX12_counts_162 ?_
                  refine lv_topl (fun y_193 ey_193 => ?_)
                  refine lv_aload_n hx hb dX12_counts_163 rfl (lv_at hl 5 rfl) ?_
                  refine iz_get (D := (dC, dI)) (ci := 12) (v := .ref (am 31)) (C := RX12) (T := TX12) (N := 49) hx hb hts hin hown hK hO rfl 31 (by decide) hL85 (fun _ h9 => h9) rfl dX12_counts_164 ?_
                  refine lv_iload hx hb dX12_counts_167 (lv_at hl 0 rfl) ?_
                  refine iz_lald hx hb hK 3 c_f31_192 rfl (by omega) (by decide) dX12_counts_169 ?_
                  refine lv_topl (fun y_194 ey_194 => ?_)
                  refine vp_callSl (va_Run.run (va_runS (As := [.long y_193, .long y_194]) (rest := [.int (kz z_3), .ref (am 31)]) ⟨hx, hb, hml, hown, hts⟩ (m_plus l y_193 y_194) (va_cwS 2 hts gX12_counts_X12_plus rfl rfl rfl (by decide +kernel) ⟨Nat.le_of_ble_eq_true rfl, Nat.le_of_ble_eq_true rfl⟩) ⟨fun a U g mk q => q, fun U hU hW => ⟨rfl, trivial⟩⟩ rfl rfl hl.1 rfl (lv_room (Nat.le_of_ble_eq_true rfl)) dX12_counts_170 ⟨Nat.le_of_ble_eq_true rfl, Nat.le_of_ble_eq_true rfl⟩)) (fun r_196 hw_195 => ?_)
                  refine iz_last hx hb hK 3 c_f31_192 hS (iv_A hI g31 (by decide)) rfl (by omega) (by decide) dX12_counts_173 (fun H locs c9 oq hS => ?_)
                  have hI := iv_s23 hI g31 c9 oq
                  have hO := hO.kept (oq _ (iv_ne0 g31 hM.2.1 (by decide)).symm)
                  have c_3 := c_3.kept (oq _ (iv_ne g3 g31 (by decide)))
                  have c_4 := c_4.kept (oq _ (iv_ne g4 g31 (by decide)))
                  have c_5 := c_5.kept (oq _ (iv_ne g5 g31 (by decide)))
                  have c_10 := c_10.kept (oq _ (iv_ne g10 g31 (by decide)))
                  have c_11 := c_11.kept (oq _ (iv_ne g11 g31 (by decide)))
                  have c_12 := c_12.kept (oq _ (iv_ne g12 g31 (by decide)))
                  have c_13 := c_13.kept (oq _ (iv_ne g13 g31 (by decide)))
                  have c_17 := c_17.kept (oq _ (iv_ne g17 g31 (by decide)))
                  have c_27 := c_27.kept (oq _ (iv_ne g27 g31 (by decide)))
                  have c_29 := c_29.kept (oq _ (iv_ne g29 g31 (by decide)))
                  have c_30 := c_30.kept (oq _ (iv_ne g30 g31 (by decide)))
                  have c_32 := c_32.kept (oq _ (iv_ne g32 g31 (by decide)))
                  have c_33 := c_33.kept (oq _ (iv_ne g33 g31 (by decide)))
                  have c_44 := c_44.kept (oq _ (iv_ne g44 g31 (by decide)))
                  clear oq c9
                  refine lv_aload_n hx hb dX12_counts_174 rfl (lv_at hl 5 rfl) ?_
                  refine iz_get (D := (dC, dI)) (ci := 12) (v := .ref (am 7)) (C := RX12) (T := TX12) (N := 49) hx hb hts hin hown hK hO rfl 7 (by decide) hL26 (fun _ h9 => h9) rfl dX12_counts_175 ?_
                  refine lv_iload_n hx hb dX12_counts_178 rfl (lv_at hl 6 rfl) ?_
                  obtain ⟨f7_197, c_f7_197, k_f7_197⟩ := iv_o20 hI g7
                  refine iz_iald hx hb hK 0 c_f7_197 rfl (by omega) (by decide) dX12_counts_179 ?_
                  obtain ⟨v_198a, v_198b, v_198c⟩ := k_f7_197 f (by omega)
                  clear v_198c
                  obtain ⟨v_198, ev_198⟩ : ∃ z9 : Int, ge1 f7_197 f = z9 := ⟨_, rfl⟩
                  rw [ev_198] at v_198a v_198b ⊢
                  refine lv_iload hx hb dX12_counts_180 (lv_at hl 2 rfl) ?_
                  refine iz_gez (tgt := 189) hx hb dX12_counts_182 (by decide) (by unfold rg2; omega) (fun br_199 => ?_) (fun br_199 => ?_)
                  · refine lv_aload_n hx hb dX12_counts_189 rfl (lv_at hl 5 rfl) ?_
                    refine iz_get (D := (dC, dI)) (ci := 12) (v := .ref (am 14)) (C := RX12) (T := TX12) (N := 49) hx hb hts hin hown hK hO rfl 14 (by decide) hL45 (fun _ h9 => h9) rfl dX12_counts_190 ?_
                    refine lv_iload hx hb dX12_counts_193 (lv_at hl 2 rfl) ?_
                    obtain ⟨f14_200, c_f14_200, k_f14_200⟩ := iv_o20 hI g14
                    refine iz_iald hx hb hK 0 c_f14_200 rfl (by omega) (by decide) dX12_counts_195 ?_
                    obtain ⟨v_201a, v_201b, v_201c⟩ := k_f14_200 q (by omega)
                    clear v_201c
                    obtain ⟨v_201, ev_201⟩ : ∃ z9 : Int, ge1 f14_200 q = z9 := ⟨_, rfl⟩
                    rw [ev_201] at v_201a v_201b ⊢
                    refine iz_iadd hx hb dX12_counts_196 ?_
                    refine lv_istore (lv' := [(9, .int (kz (v_198 + v_201))), (8, .int (kz z_191)), (7, .int (kz z_136)), (6, .int (kz q)), (5, .int (kz g1)), (4, .int (kz z_3)), (0, .ref o), (1, .int (kz f)), (2, .int (kz b)), (3, .int (kz t))]) hx hb dX12_counts_197 hl (by decide) rfl (fun ls hl => ?_)
                    refine lv_iconst (v := kz 0) hx hb dX12_counts_199 rfl ?_
                    refine lv_istore (lv' := [(10, .int (kz 0)), (9, .int (kz (v_198 + v_201))), (8, .int (kz z_191)), (7, .int (kz z_136)), (6, .int (kz q)), (5, .int (kz g1)), (4, .int (kz z_3)), (0, .ref o), (1, .int (kz f)), (2, .int (kz b)), (3, .int (kz t))]) hx hb dX12_counts_200 hl (by decide) rfl (fun ls hl => ?_)
                    refine iz_loopA1 (α := (Nat → Int32) × (Nat → Int32)) (P := fun N9 fn9 k H locs ls => (0 ≤ k) ∧ (k ≤ 8) ∧ (cn fc (zi 28) (zi 34) (zi 2) (zi 9) f b t fn9.1 fn9.2) ∧ 8 - k ≤ (N9 : Int) ∧ lv_has ls 11 [(10, .int (kz k)), (9, .int (kz (v_198 + v_201))), (8, .int (kz z_191)), (7, .int (kz z_136)), (6, .int (kz q)), (5, .int (kz g1)), (4, .int (kz z_3)), (0, .ref o), (1, .int (kz f)), (2, .int (kz b)), (3, .int (kz t))] ∧ iv (dC, dI) ca A X H ∧ va_at (dC, dI) vwCl (o, .inr (12, mM am zi zl)) H ∧ va_S A s.heap H locs ∧ va_at (dC, dI) vwCl (am 3, .inl (ca 21, 320, .inl (fc 3))) H ∧ va_at (dC, dI) vwCl (am 4, .inl (ca 20, 40, .inl (fc 4))) H ∧ va_at (dC, dI) vwCl (am 5, .inl (ca 20, 40, .inl (fc 5))) H ∧ va_at (dC, dI) vwCl (am 10, .inl (ca 21, 240, .inl (fc 10))) H ∧ va_at (dC, dI) vwCl (am 11, .inl (ca 20, 24, .inl (fc 11))) H ∧ va_at (dC, dI) vwCl (am 12, .inl (ca 20, 24, .inl (fc 12))) H ∧ va_at (dC, dI) vwCl (am 13, .inl (ca 20, 24, .inl (fc 13))) H ∧ va_at (dC, dI) vwCl (am 17, .inl (ca 22, 36, .inl (fc 17))) H ∧ va_at (dC, dI) vwCl (am 27, .inl (ca 21, 40, .inl (fc 27))) H ∧ va_at (dC, dI) vwCl (am 29, .inl (ca 20, 1600, .inl (fc 29))) H ∧ va_at (dC, dI) vwCl (am 30, .inl (ca 22, 6560, .inl (fc 30))) H ∧ va_at (dC, dI) vwCl (am 32, .inl (ca 20, 52480, .inl fn9.1)) H ∧ va_at (dC, dI) vwCl (am 33, .inl (ca 20, 6560, .inl fn9.2)) H ∧ va_at (dC, dI) vwCl (am 44, .inl (ca 20, 40, .inl (fc 44))) H ∧ ok20 X (am 32) 52480 (-2147483648) (2147483647) fn9.1 ∧ ok20 X (am 33) 6560 (0) (8) fn9.2) 100000 (gb, gm) (x0 := 0) ?_ ⟨by omega, by omega, n_130f2, by omega, lv_sub hl [0, 1, 2, 3, 4, 5, 6, 7, 8, 9, 10] rfl, hI, hO, hS, c_3, c_4, c_5, c_10, c_11, c_12, c_13, c_17, c_27, c_29, c_30, c_32, c_33, c_44, k_gb, k_gm⟩
                    intro n_202 ⟨gb, gm⟩ k H locs ls ⟨n_202f0, n_202f1, n_202f2, n_202f3, hl, hI, hO, hS, c_3, c_4, c_5, c_10, c_11, c_12, c_13, c_17, c_27, c_29, c_30, c_32, c_33, c_44, k_gb, k_gm⟩ ihn_202
                    have n_202f2 : cn fc (zi 28) (zi 34) (zi 2) (zi 9) f b t gb gm := n_202f2
                    have c_32 : va_at (dC, dI) vwCl (am 32, .inl (ca 20, 52480, .inl gb)) H := c_32
                    have k_gb : ok20 X (am 32) 52480 (-2147483648) (2147483647) gb := k_gb
                    have c_33 : va_at (dC, dI) vwCl (am 33, .inl (ca 20, 6560, .inl gm)) H := c_33
                    have k_gm : ok20 X (am 33) 6560 (0) (8) gm := k_gm
                    refine lv_iload hx hb dX12_counts_202 (lv_at hl 0 rfl) ?_
                    refine lv_aload_n hx hb dX12_counts_204 rfl (lv_at hl 7 rfl) ?_
                    refine iz_get (D := (dC, dI)) (ci := 12) (v := .ref (am 33)) (C := RX12) (T := TX12) (N := 49) hx hb hts hin hown hK hO rfl 33 (by decide) hL93 (fun _ h9 => h9) rfl dX12_counts_205 ?_
                    refine lv_iload hx hb dX12_counts_208 (lv_at hl 2 rfl) ?_
                    refine iz_iald hx hb hK 0 c_33 rfl (by omega) (by decide) dX12_counts_210 ?_
                    obtain ⟨v_203a, v_203b, v_203c⟩ := k_gm z_191 (by omega)
                    clear v_203c
                    obtain ⟨v_203, ev_203⟩ : ∃ z9 : Int, ge1 gm z_191 = z9 := ⟨_, rfl⟩
                    rw [ev_203] at v_203a v_203b ⊢
                    refine iz_ge (tgt := 268) hx hb dX12_counts_211 (by decide) (by unfold rg2; omega) (fun br_204 => ?_) (fun br_204 => ?_)
                    · refine lv_iinc (v := kz (q + 1)) (lv' := [(6, .int (kz (q + 1))), (10, .int (kz k)), (9, .int (kz (v_198 + v_201))), (8, .int (kz z_191)), (7, .int (kz z_136)), (5, .int (kz g1)), (4, .int (kz z_3)), (0, .ref o), (1, .int (kz f)), (2, .int (kz b)), (3, .int (kz t))]) hx hb dX12_counts_268 hl (k := 4) rfl (kz_add q 1) (by decide) rfl (fun ls hl => ?_)
                      refine lv_goto (tgt := 82) hx hb dX12_counts_271 (by decide) ?_
                      exact ihn_130 (n_130 - 1) (by omega) (gb, gm) (q + 1) _ _ _ ⟨by omega, by omega, n_202f2, by omega, lv_sub hl [0, 5, 6, 7, 8, 9, 10] rfl, hI, hO, hS, c_3, c_4, c_5, c_10, c_11, c_12, c_13, c_17, c_27, c_29, c_30, c_32, c_33, c_44, k_gb, k_gm⟩
                    · refine lv_aload_n hx hb dX12_counts_214 rfl (lv_at hl 7 rfl) ?_
                      refine lv_iload hx hb dX12_counts_215 (lv_at hl 6 rfl) ?_
                      refine lv_iload hx hb dX12_counts_217 (lv_at hl 1 rfl) ?_
                      refine lv_aload_n hx hb dX12_counts_219 rfl (lv_at hl 7 rfl) ?_
                      refine iz_get (D := (dC, dI)) (ci := 12) (v := .ref (am 32)) (C := RX12) (T := TX12) (N := 49) hx hb hts hin hown hK hO rfl 32 (by decide) hL90 (fun _ h9 => h9) rfl dX12_counts_220 ?_
                      refine lv_bipush (v := kz 8) hx hb dX12_counts_223 (by decide) ?_
                      refine lv_iload hx hb dX12_counts_225 (lv_at hl 2 rfl) ?_
                      refine iz_imul hx hb dX12_counts_227 ?_
                      refine lv_iload hx hb dX12_counts_228 (lv_at hl 0 rfl) ?_
                      refine iz_iadd hx hb dX12_counts_230 ?_
                      refine iz_iald hx hb hK 0 c_32 rfl (by omega) (by decide) dX12_counts_231 ?_
                      obtain ⟨v_205a, v_205b, v_205c⟩ := k_gb ((8 * z_191) + k) (by omega)
                      clear v_205c
                      obtain ⟨v_205, ev_205⟩ : ∃ z9 : Int, ge1 gb ((8 * z_191) + k) = z9 := ⟨_, rfl⟩
                      rw [ev_205] at v_205a v_205b ⊢
                      refine vp_callSi (va_Run.run (va_runS (As := [.int (kz v_205)]) (rest := [.int (kz (v_198 + v_201)), .int (kz z_3), .ref o]) ⟨hx, hb, hml, hown, hts⟩ (m_costOf l v_205) (va_cwS 1 hts gX12_counts_X12_costOf rfl rfl rfl (by decide +kernel) ⟨Nat.le_of_ble_eq_true rfl, Nat.le_of_ble_eq_true rfl⟩) ⟨fun a U g mk q => q, fun U hU hW => ⟨rfl, trivial⟩⟩ rfl rfl hl.1 rfl (lv_room (Nat.le_of_ble_eq_true rfl)) dX12_counts_232 ⟨Nat.le_of_ble_eq_true rfl, Nat.le_of_ble_eq_true rfl⟩)) (fun r_207 hw_206 => ?_)
                      obtain ⟨z_208, z_208a, z_208b, rfl⟩ := kz_ex r_207
                      refine iz_iadd hx hb dX12_counts_235 ?_
                      refine lv_bipush (v := kz 15) hx hb dX12_counts_236 (by decide) ?_
                      refine lv_ishl hx hb dX12_counts_238 ?_
                      refine iz_any (fun z_209 z_209a z_209b z_209e => ?_)
                      refine lv_sipush (v := kz 16384) hx hb dX12_counts_239 (by decide) ?_
                      refine lv_ior hx hb dX12_counts_242 ?_
                      refine iz_any (fun z_210 z_210a z_210b z_210e => ?_)
                      refine lv_iload hx hb dX12_counts_243 (lv_at hl 4 rfl) ?_
                      refine lv_iconst (v := kz 1) hx hb dX12_counts_245 rfl ?_
                      refine iz_iadd hx hb dX12_counts_246 ?_
                      refine lv_bipush (v := kz 9) hx hb dX12_counts_247 (by decide) ?_
                      refine lv_ishl hx hb dX12_counts_249 ?_
                      refine iz_any (fun z_211 z_211a z_211b z_211e => ?_)
                      refine lv_ior hx hb dX12_counts_250 ?_
                      refine iz_any (fun z_212 z_212a z_212b z_212e => ?_)
                      refine lv_iload hx hb dX12_counts_251 (lv_at hl 5 rfl) ?_
                      refine lv_iconst (v := kz 3) hx hb dX12_counts_253 rfl ?_
                      refine lv_ishl hx hb dX12_counts_254 ?_
                      refine iz_any (fun z_213 z_213a z_213b z_213e => ?_)
                      refine lv_ior hx hb dX12_counts_255 ?_
                      refine iz_any (fun z_214 z_214a z_214b z_214e => ?_)
                      refine lv_iload hx hb dX12_counts_256 (lv_at hl 0 rfl) ?_
                      refine lv_ior hx hb dX12_counts_258 ?_
                      refine iz_any (fun z_215 z_215a z_215b z_215e => ?_)
                      refine va_callv (va_runV (As := [.int (kz z_3), .int (kz z_215)]) (rest := []) ⟨hx, hb, hml, hown, hts⟩ (m_keeps l dC dI ca A X o am zi zl (cup (cup fc 32 gb) 33 gm) hM hz ⟨k_4, k_5, k_11, k_12, k_13, k_29, k_gb, k_gm, k_44⟩ z_3 z_215 (by omega) (by omega)) (cwV 2 hts gX12_counts_X12_keeps rfl rfl rfl (by decide +kernel) ⟨Nat.le_of_ble_eq_true rfl, Nat.le_of_ble_eq_true rfl⟩) ⟨fun a U g mk q => by obtain ⟨q0, qK, qI⟩ := q; exact ⟨q0, va_K.moved (u := U) (U := U.calling g mk a) (Vm.Alike.refl U.vm) qK, qI⟩, va_recv hK (at_P hO) (ci := 12) (q0 := 0) rfl rfl, fun U hU hW => ⟨rfl, va_K.moved hW.alike hK, by rw [hU]; exact ⟨⟨hI, hO⟩, c_3, c_4, c_5, c_10, c_11, c_12, c_13, c_17, c_27, c_29, c_30, c_32, c_33, c_44⟩⟩⟩ rfl rfl hl.1 rfl (lv_room (Nat.le_of_ble_eq_true rfl)) dX12_counts_259 ⟨Nat.le_of_ble_eq_true rfl, Nat.le_of_ble_eq_true rfl⟩) hS (fun q _ h => h) (fun q h => h) (fun u t9 H locs ht hvm hw_216 hB hz1 hk1 hS => ?_)
                      obtain ⟨-, ⟨hI, hO⟩, c_3, c_4, c_5, c_10, c_11, c_12, c_13, c_17, c_27, c_29, c_30, c_32, c_33, c_44⟩ := hB
                      rw [ht] at hI hO c_3 c_4 c_5 c_10 c_11 c_12 c_13 c_17 c_27 c_29 c_30 c_32 c_33 c_44
                      clear ht hvm hz1 hk1
                      have he_z_215 := enc_bits z_209e z_210e z_211e z_212e z_213e z_214e z_215e
                      have hg_z_215 : ge1 gm z_191 = ge1 (fc 33) z_191 := n_202f2.2.1 z_191 (by omega) (by unfold pl; omega)
                      have hv_z_215 : ev1 fc (zi 28) (zi 34) (zi 2) (zi 9) f b t z_215 := (ev1_in (gm := gm) ⟨by omega, by omega, hw_132, hw_134⟩ (show z_191 = pl g1 (nb fc q) (ds fc f b t q) by unfold pl nb; rw [if_pos (show q < 0 by omega), ← ez_136]; omega) hg_z_215 (by omega) (enc_q he_z_215 (by omega) (by omega) (by omega)) (enc_g he_z_215 (by omega) (by omega)) (enc_w he_z_215 (by omega)) (by omega))
                      obtain ⟨gb_218, gm_219, rfl, k_gb_218, k_gm_219, x_gb_218⟩ := hw_216
                      have c_3 : va_at (dC, dI) vwCl (am 3, .inl (ca 21, 320, .inl (fc 3))) H := c_3
                      have c_4 : va_at (dC, dI) vwCl (am 4, .inl (ca 20, 40, .inl (fc 4))) H := c_4
                      have c_5 : va_at (dC, dI) vwCl (am 5, .inl (ca 20, 40, .inl (fc 5))) H := c_5
                      have c_10 : va_at (dC, dI) vwCl (am 10, .inl (ca 21, 240, .inl (fc 10))) H := c_10
                      have c_11 : va_at (dC, dI) vwCl (am 11, .inl (ca 20, 24, .inl (fc 11))) H := c_11
                      have c_12 : va_at (dC, dI) vwCl (am 12, .inl (ca 20, 24, .inl (fc 12))) H := c_12
                      have c_13 : va_at (dC, dI) vwCl (am 13, .inl (ca 20, 24, .inl (fc 13))) H := c_13
                      have c_17 : va_at (dC, dI) vwCl (am 17, .inl (ca 22, 36, .inl (fc 17))) H := c_17
                      have c_27 : va_at (dC, dI) vwCl (am 27, .inl (ca 21, 40, .inl (fc 27))) H := c_27
                      have c_29 : va_at (dC, dI) vwCl (am 29, .inl (ca 20, 1600, .inl (fc 29))) H := c_29
                      have c_30 : va_at (dC, dI) vwCl (am 30, .inl (ca 22, 6560, .inl (fc 30))) H := c_30
                      have c_32 : va_at (dC, dI) vwCl (am 32, .inl (ca 20, 52480, .inl gb_218)) H := c_32
                      have c_33 : va_at (dC, dI) vwCl (am 33, .inl (ca 20, 6560, .inl gm_219)) H := c_33
                      have c_44 : va_at (dC, dI) vwCl (am 44, .inl (ca 20, 40, .inl (fc 44))) H := c_44
                      have cn_gb_218 : cn fc (zi 28) (zi 34) (zi 2) (zi 9) f b t gb_218 gm_219 := cn_keep z_3h (by omega) n_202f2 hv_z_215 x_gb_218
                      refine lv_iinc (v := kz (k + 1)) (lv' := [(10, .int (kz (k + 1))), (9, .int (kz (v_198 + v_201))), (8, .int (kz z_191)), (7, .int (kz z_136)), (6, .int (kz q)), (5, .int (kz g1)), (4, .int (kz z_3)), (0, .ref o), (1, .int (kz f)), (2, .int (kz b)), (3, .int (kz t))]) hx hb dX12_counts_262 hl (k := 0) rfl (kz_add k 1) (by decide) rfl (fun ls hl => ?_)
                      refine lv_goto (tgt := 202) hx hb dX12_counts_265 (by decide) ?_
                      exact ihn_202 (n_202 - 1) (by omega) (gb_218, gm_219) (k + 1) _ _ _ ⟨by omega, by omega, cn_gb_218, by omega, lv_sub hl [0, 1, 2, 3, 4, 5, 6, 7, 8, 9, 10] rfl, hI, hO, hS, c_3, c_4, c_5, c_10, c_11, c_12, c_13, c_17, c_27, c_29, c_30, c_32, c_33, c_44, k_gb_218, k_gm_219⟩
                  · refine lv_iconst (v := kz 0) hx hb dX12_counts_185 rfl ?_
                    refine lv_goto (tgt := 196) hx hb dX12_counts_186 (by decide) ?_
                    refine iz_iadd hx hb dX12_counts_196 ?_
                    refine lv_istore (lv' := [(9, .int (kz (v_198 + 0))), (8, .int (kz z_191)), (7, .int (kz z_136)), (6, .int (kz q)), (5, .int (kz g1)), (4, .int (kz z_3)), (0, .ref o), (1, .int (kz f)), (2, .int (kz b)), (3, .int (kz t))]) hx hb dX12_counts_197 hl (by decide) rfl (fun ls hl => ?_)
                    refine lv_iconst (v := kz 0) hx hb dX12_counts_199 rfl ?_
                    refine lv_istore (lv' := [(10, .int (kz 0)), (9, .int (kz (v_198 + 0))), (8, .int (kz z_191)), (7, .int (kz z_136)), (6, .int (kz q)), (5, .int (kz g1)), (4, .int (kz z_3)), (0, .ref o), (1, .int (kz f)), (2, .int (kz b)), (3, .int (kz t))]) hx hb dX12_counts_200 hl (by decide) rfl (fun ls hl => ?_)
                    refine iz_loopA1 (α := (Nat → Int32) × (Nat → Int32)) (P := fun N9 fn9 k H locs ls => (0 ≤ k) ∧ (k ≤ 8) ∧ (cn fc (zi 28) (zi 34) (zi 2) (zi 9) f b t fn9.1 fn9.2) ∧ 8 - k ≤ (N9 : Int) ∧ lv_has ls 11 [(10, .int (kz k)), (9, .int (kz (v_198 + 0))), (8, .int (kz z_191)), (7, .int (kz z_136)), (6, .int (kz q)), (5, .int (kz g1)), (4, .int (kz z_3)), (0, .ref o), (1, .int (kz f)), (2, .int (kz b)), (3, .int (kz t))] ∧ iv (dC, dI) ca A X H ∧ va_at (dC, dI) vwCl (o, .inr (12, mM am zi zl)) H ∧ va_S A s.heap H locs ∧ va_at (dC, dI) vwCl (am 3, .inl (ca 21, 320, .inl (fc 3))) H ∧ va_at (dC, dI) vwCl (am 4, .inl (ca 20, 40, .inl (fc 4))) H ∧ va_at (dC, dI) vwCl (am 5, .inl (ca 20, 40, .inl (fc 5))) H ∧ va_at (dC, dI) vwCl (am 10, .inl (ca 21, 240, .inl (fc 10))) H ∧ va_at (dC, dI) vwCl (am 11, .inl (ca 20, 24, .inl (fc 11))) H ∧ va_at (dC, dI) vwCl (am 12, .inl (ca 20, 24, .inl (fc 12))) H ∧ va_at (dC, dI) vwCl (am 13, .inl (ca 20, 24, .inl (fc 13))) H ∧ va_at (dC, dI) vwCl (am 17, .inl (ca 22, 36, .inl (fc 17))) H ∧ va_at (dC, dI) vwCl (am 27, .inl (ca 21, 40, .inl (fc 27))) H ∧ va_at (dC, dI) vwCl (am 29, .inl (ca 20, 1600, .inl (fc 29))) H ∧ va_at (dC, dI) vwCl (am 30, .inl (ca 22, 6560, .inl (fc 30))) H ∧ va_at (dC, dI) vwCl (am 32, .inl (ca 20, 52480, .inl fn9.1)) H ∧ va_at (dC, dI) vwCl (am 33, .inl (ca 20, 6560, .inl fn9.2)) H ∧ va_at (dC, dI) vwCl (am 44, .inl (ca 20, 40, .inl (fc 44))) H ∧ ok20 X (am 32) 52480 (-2147483648) (2147483647) fn9.1 ∧ ok20 X (am 33) 6560 (0) (8) fn9.2) 100000 (gb, gm) (x0 := 0) ?_ ⟨by omega, by omega, n_130f2, by omega, lv_sub hl [0, 1, 2, 3, 4, 5, 6, 7, 8, 9, 10] rfl, hI, hO, hS, c_3, c_4, c_5, c_10, c_11, c_12, c_13, c_17, c_27, c_29, c_30, c_32, c_33, c_44, k_gb, k_gm⟩
                    intro n_220 ⟨gb, gm⟩ k H locs ls ⟨n_220f0, n_220f1, n_220f2, n_220f3, hl, hI, hO, hS, c_3, c_4, c_5, c_10, c_11, c_12, c_13, c_17, c_27, c_29, c_30, c_32, c_33, c_44, k_gb, k_gm⟩ ihn_220
                    have n_220f2 : cn fc (zi 28) (zi 34) (zi 2) (zi 9) f b t gb gm := n_220f2
                    have c_32 : va_at (dC, dI) vwCl (am 32, .inl (ca 20, 52480, .inl gb)) H := c_32
                    have k_gb : ok20 X (am 32) 52480 (-2147483648) (2147483647) gb := k_gb
                    have c_33 : va_at (dC, dI) vwCl (am 33, .inl (ca 20, 6560, .inl gm)) H := c_33
                    have k_gm : ok20 X (am 33) 6560 (0) (8) gm := k_gm
                    refine lv_iload hx hb dX12_counts_202 (lv_at hl 0 rfl) ?_
                    refine lv_aload_n hx hb dX12_counts_204 rfl (lv_at hl 7 rfl) ?_
                    refine iz_get (D := (dC, dI)) (ci := 12) (v := .ref (am 33)) (C := RX12) (T := TX12) (N := 49) hx hb hts hin hown hK hO rfl 33 (by decide) hL93 (fun _ h9 => h9) rfl dX12_counts_205 ?_
                    refine lv_iload hx hb dX12_counts_208 (lv_at hl 2 rfl) ?_
                    refine iz_iald hx hb hK 0 c_33 rfl (by omega) (by decide) dX12_counts_210 ?_
                    obtain ⟨v_221a, v_221b, v_221c⟩ := k_gm z_191 (by omega)
                    clear v_221c
                    obtain ⟨v_221, ev_221⟩ : ∃ z9 : Int, ge1 gm z_191 = z9 := ⟨_, rfl⟩
                    rw [ev_221] at v_221a v_221b ⊢
                    refine iz_ge (tgt := 268) hx hb dX12_counts_211 (by decide) (by unfold rg2; omega) (fun br_222 => ?_) (fun br_222 => ?_)
                    · refine lv_iinc (v := kz (q + 1)) (lv' := [(6, .int (kz (q + 1))), (10, .int (kz k)), (9, .int (kz (v_198 + 0))), (8, .int (kz z_191)), (7, .int (kz z_136)), (5, .int (kz g1)), (4, .int (kz z_3)), (0, .ref o), (1, .int (kz f)), (2, .int (kz b)), (3, .int (kz t))]) hx hb dX12_counts_268 hl (k := 4) rfl (kz_add q 1) (by decide) rfl (fun ls hl => ?_)
                      refine lv_goto (tgt := 82) hx hb dX12_counts_271 (by decide) ?_
                      exact ihn_130 (n_130 - 1) (by omega) (gb, gm) (q + 1) _ _ _ ⟨by omega, by omega, n_220f2, by omega, lv_sub hl [0, 5, 6, 7, 8, 9, 10] rfl, hI, hO, hS, c_3, c_4, c_5, c_10, c_11, c_12, c_13, c_17, c_27, c_29, c_30, c_32, c_33, c_44, k_gb, k_gm⟩
                    · refine lv_aload_n hx hb dX12_counts_214 rfl (lv_at hl 7 rfl) ?_
                      refine lv_iload hx hb dX12_counts_215 (lv_at hl 6 rfl) ?_
                      refine lv_iload hx hb dX12_counts_217 (lv_at hl 1 rfl) ?_
                      refine lv_aload_n hx hb dX12_counts_219 rfl (lv_at hl 7 rfl) ?_
                      refine iz_get (D := (dC, dI)) (ci := 12) (v := .ref (am 32)) (C := RX12) (T := TX12) (N := 49) hx hb hts hin hown hK hO rfl 32 (by decide) hL90 (fun _ h9 => h9) rfl dX12_counts_220 ?_
                      refine lv_bipush (v := kz 8) hx hb dX12_counts_223 (by decide) ?_
                      refine lv_iload hx hb dX12_counts_225 (lv_at hl 2 rfl) ?_
                      refine iz_imul hx hb dX12_counts_227 ?_
                      refine lv_iload hx hb dX12_counts_228 (lv_at hl 0 rfl) ?_
                      refine iz_iadd hx hb dX12_counts_230 ?_
                      refine iz_iald hx hb hK 0 c_32 rfl (by omega) (by decide) dX12_counts_231 ?_
                      obtain ⟨v_223a, v_223b, v_223c⟩ := k_gb ((8 * z_191) + k) (by omega)
                      clear v_223c
                      obtain ⟨v_223, ev_223⟩ : ∃ z9 : Int, ge1 gb ((8 * z_191) + k) = z9 := ⟨_, rfl⟩
                      rw [ev_223] at v_223a v_223b ⊢
                      refine vp_callSi (va_Run.run (va_runS (As := [.int (kz v_223)]) (rest := [.int (kz (v_198 + 0)), .int (kz z_3), .ref o]) ⟨hx, hb, hml, hown, hts⟩ (m_costOf l v_223) (va_cwS 1 hts gX12_counts_X12_costOf rfl rfl rfl (by decide +kernel) ⟨Nat.le_of_ble_eq_true rfl, Nat.le_of_ble_eq_true rfl⟩) ⟨fun a U g mk q => q, fun U hU hW => ⟨rfl, trivial⟩⟩ rfl rfl hl.1 rfl (lv_room (Nat.le_of_ble_eq_true rfl)) dX12_counts_232 ⟨Nat.le_of_ble_eq_true rfl, Nat.le_of_ble_eq_true rfl⟩)) (fun r_225 hw_224 => ?_)
                      obtain ⟨z_226, z_226a, z_226b, rfl⟩ := kz_ex r_225
                      refine iz_iadd hx hb dX12_counts_235 ?_
                      refine lv_bipush (v := kz 15) hx hb dX12_counts_236 (by decide) ?_
                      refine lv_ishl hx hb dX12_counts_238 ?_
                      refine iz_any (fun z_227 z_227a z_227b z_227e => ?_)
                      refine lv_sipush (v := kz 16384) hx hb dX12_counts_239 (by decide) ?_
                      refine lv_ior hx hb dX12_counts_242 ?_
                      refine iz_any (fun z_228 z_228a z_228b z_228e => ?_)
                      refine lv_iload hx hb dX12_counts_243 (lv_at hl 4 rfl) ?_
                      refine lv_iconst (v := kz 1) hx hb dX12_counts_245 rfl ?_
                      refine iz_iadd hx hb dX12_counts_246 ?_
                      refine lv_bipush (v := kz 9) hx hb dX12_counts_247 (by decide) ?_
                      refine lv_ishl hx hb dX12_counts_249 ?_
                      refine iz_any (fun z_229 z_229a z_229b z_229e => ?_)
                      refine lv_ior hx hb dX12_counts_250 ?_
                      refine iz_any (fun z_230 z_230a z_230b z_230e => ?_)
                      refine lv_iload hx hb dX12_counts_251 (lv_at hl 5 rfl) ?_
                      refine lv_iconst (v := kz 3) hx hb dX12_counts_253 rfl ?_
                      refine lv_ishl hx hb dX12_counts_254 ?_
                      refine iz_any (fun z_231 z_231a z_231b z_231e => ?_)
                      refine lv_ior hx hb dX12_counts_255 ?_
                      refine iz_any (fun z_232 z_232a z_232b z_232e => ?_)
                      refine lv_iload hx hb dX12_counts_256 (lv_at hl 0 rfl) ?_
                      refine lv_ior hx hb dX12_counts_258 ?_
                      refine iz_any (fun z_233 z_233a z_233b z_233e => ?_)
                      refine va_callv (va_runV (As := [.int (kz z_3), .int (kz z_233)]) (rest := []) ⟨hx, hb, hml, hown, hts⟩ (m_keeps l dC dI ca A X o am zi zl (cup (cup fc 32 gb) 33 gm) hM hz ⟨k_4, k_5, k_11, k_12, k_13, k_29, k_gb, k_gm, k_44⟩ z_3 z_233 (by omega) (by omega)) (cwV 2 hts gX12_counts_X12_keeps rfl rfl rfl (by decide +kernel) ⟨Nat.le_of_ble_eq_true rfl, Nat.le_of_ble_eq_true rfl⟩) ⟨fun a U g mk q => by obtain ⟨q0, qK, qI⟩ := q; exact ⟨q0, va_K.moved (u := U) (U := U.calling g mk a) (Vm.Alike.refl U.vm) qK, qI⟩, va_recv hK (at_P hO) (ci := 12) (q0 := 0) rfl rfl, fun U hU hW => ⟨rfl, va_K.moved hW.alike hK, by rw [hU]; exact ⟨⟨hI, hO⟩, c_3, c_4, c_5, c_10, c_11, c_12, c_13, c_17, c_27, c_29, c_30, c_32, c_33, c_44⟩⟩⟩ rfl rfl hl.1 rfl (lv_room (Nat.le_of_ble_eq_true rfl)) dX12_counts_259 ⟨Nat.le_of_ble_eq_true rfl, Nat.le_of_ble_eq_true rfl⟩) hS (fun q _ h => h) (fun q h => h) (fun u t9 H locs ht hvm hw_234 hB hz1 hk1 hS => ?_)
                      obtain ⟨-, ⟨hI, hO⟩, c_3, c_4, c_5, c_10, c_11, c_12, c_13, c_17, c_27, c_29, c_30, c_32, c_33, c_44⟩ := hB
                      rw [ht] at hI hO c_3 c_4 c_5 c_10 c_11 c_12 c_13 c_17 c_27 c_29 c_30 c_32 c_33 c_44
                      clear ht hvm hz1 hk1
                      have he_z_233 := enc_bits z_227e z_228e z_229e z_230e z_231e z_232e z_233e
                      have hg_z_233 : ge1 gm z_191 = ge1 (fc 33) z_191 := n_220f2.2.1 z_191 (by omega) (by unfold pl; omega)
                      have hv_z_233 : ev1 fc (zi 28) (zi 34) (zi 2) (zi 9) f b t z_233 := (ev1_in (gm := gm) ⟨by omega, by omega, hw_132, hw_134⟩ (show z_191 = pl g1 (nb fc q) (ds fc f b t q) by unfold pl nb; rw [if_pos (show q < 0 by omega), ← ez_136]; omega) hg_z_233 (by omega) (enc_q he_z_233 (by omega) (by omega) (by omega)) (enc_g he_z_233 (by omega) (by omega)) (enc_w he_z_233 (by omega)) (by omega))
                      obtain ⟨gb_236, gm_237, rfl, k_gb_236, k_gm_237, x_gb_236⟩ := hw_234
                      have c_3 : va_at (dC, dI) vwCl (am 3, .inl (ca 21, 320, .inl (fc 3))) H := c_3
                      have c_4 : va_at (dC, dI) vwCl (am 4, .inl (ca 20, 40, .inl (fc 4))) H := c_4
                      have c_5 : va_at (dC, dI) vwCl (am 5, .inl (ca 20, 40, .inl (fc 5))) H := c_5
                      have c_10 : va_at (dC, dI) vwCl (am 10, .inl (ca 21, 240, .inl (fc 10))) H := c_10
                      have c_11 : va_at (dC, dI) vwCl (am 11, .inl (ca 20, 24, .inl (fc 11))) H := c_11
                      have c_12 : va_at (dC, dI) vwCl (am 12, .inl (ca 20, 24, .inl (fc 12))) H := c_12
                      have c_13 : va_at (dC, dI) vwCl (am 13, .inl (ca 20, 24, .inl (fc 13))) H := c_13
                      have c_17 : va_at (dC, dI) vwCl (am 17, .inl (ca 22, 36, .inl (fc 17))) H := c_17
                      have c_27 : va_at (dC, dI) vwCl (am 27, .inl (ca 21, 40, .inl (fc 27))) H := c_27
                      have c_29 : va_at (dC, dI) vwCl (am 29, .inl (ca 20, 1600, .inl (fc 29))) H := c_29
                      have c_30 : va_at (dC, dI) vwCl (am 30, .inl (ca 22, 6560, .inl (fc 30))) H := c_30
                      have c_32 : va_at (dC, dI) vwCl (am 32, .inl (ca 20, 52480, .inl gb_236)) H := c_32
                      have c_33 : va_at (dC, dI) vwCl (am 33, .inl (ca 20, 6560, .inl gm_237)) H := c_33
                      have c_44 : va_at (dC, dI) vwCl (am 44, .inl (ca 20, 40, .inl (fc 44))) H := c_44
                      have cn_gb_236 : cn fc (zi 28) (zi 34) (zi 2) (zi 9) f b t gb_236 gm_237 := cn_keep z_3h (by omega) n_220f2 hv_z_233 x_gb_236
                      refine lv_iinc (v := kz (k + 1)) (lv' := [(10, .int (kz (k + 1))), (9, .int (kz (v_198 + 0))), (8, .int (kz z_191)), (7, .int (kz z_136)), (6, .int (kz q)), (5, .int (kz g1)), (4, .int (kz z_3)), (0, .ref o), (1, .int (kz f)), (2, .int (kz b)), (3, .int (kz t))]) hx hb dX12_counts_262 hl (k := 0) rfl (kz_add k 1) (by decide) rfl (fun ls hl => ?_)
                      refine lv_goto (tgt := 202) hx hb dX12_counts_265 (by decide) ?_
                      exact ihn_220 (n_220 - 1) (by omega) (gb_236, gm_237) (k + 1) _ _ _ ⟨by omega, by omega, cn_gb_236, by omega, lv_sub hl [0, 1, 2, 3, 4, 5, 6, 7, 8, 9, 10] rfl, hI, hO, hS, c_3, c_4, c_5, c_10, c_11, c_12, c_13, c_17, c_27, c_29, c_30, c_32, c_33, c_44, k_gb_236, k_gm_237⟩
              · refine lv_goto (tgt := 268) hx hb dX12_counts_122 (by decide) ?_
                refine lv_iinc (v := kz (q + 1)) (lv' := [(6, .int (kz (q + 1))), (7, .int (kz z_136)), (5, .int (kz g1)), (4, .int (kz z_3)), (0, .ref o), (1, .int (kz f)), (2, .int (kz b)), (3, .int (kz t))]) hx hb dX12_counts_268 hl (k := 1) rfl (kz_add q 1) (by decide) rfl (fun ls hl => ?_)
                refine lv_goto (tgt := 82) hx hb dX12_counts_271 (by decide) ?_
                exact ihn_130 (n_130 - 1) (by omega) (gb, gm) (q + 1) _ _ _ ⟨by omega, by omega, n_130f2, by omega, lv_sub hl [0, 2, 3, 4, 5, 6, 7] rfl, hI, hO, hS, c_3, c_4, c_5, c_10, c_11, c_12, c_13, c_17, c_27, c_29, c_30, c_32, c_33, c_44, k_gb, k_gm⟩
            · have hw_134 : ¬ ps fc (zi 28) f b t q := hw_134
              refine lv_istore (lv' := [(7, .int (kz (-1))), (6, .int (kz q)), (5, .int (kz g1)), (4, .int (kz z_3)), (0, .ref o), (1, .int (kz f)), (2, .int (kz b)), (3, .int (kz t))]) hx hb dX12_counts_115 hl (by decide) rfl (fun ls hl => ?_)
              refine lv_iload hx hb dX12_counts_117 (lv_at hl 0 rfl) ?_
              refine iz_gez (tgt := 125) hx hb dX12_counts_119 (by decide) (by unfold rg2; omega) (fun q9 => absurd q9 (by decide)) (fun _ => ?_)
              refine lv_goto (tgt := 268) hx hb dX12_counts_122 (by decide) ?_
              refine lv_iinc (v := kz (q + 1)) (lv' := [(6, .int (kz (q + 1))), (7, .int (kz (-1))), (5, .int (kz g1)), (4, .int (kz z_3)), (0, .ref o), (1, .int (kz f)), (2, .int (kz b)), (3, .int (kz t))]) hx hb dX12_counts_268 hl (k := 1) rfl (kz_add q 1) (by decide) rfl (fun ls hl => ?_)
              refine lv_goto (tgt := 82) hx hb dX12_counts_271 (by decide) ?_
              exact ihn_130 (n_130 - 1) (by omega) (gb, gm) (q + 1) _ _ _ ⟨by omega, by omega, n_130f2, by omega, lv_sub hl [0, 2, 3, 4, 5, 6, 7] rfl, hI, hO, hS, c_3, c_4, c_5, c_10, c_11, c_12, c_13, c_17, c_27, c_29, c_30, c_32, c_33, c_44, k_gb, k_gm⟩
          · have hw_132 : ¬ bw fc (zi 34) f g1 q := hw_132
            refine iz_nez (tgt := 106) hx hb dX12_counts_100 (by decide) (by unfold rg2; omega) (fun q9 => absurd q9 (by decide)) (fun _ => ?_)
            refine lv_goto (tgt := 268) hx hb dX12_counts_103 (by decide) ?_
            refine lv_iinc (v := kz (q + 1)) (lv' := [(6, .int (kz (q + 1))), (5, .int (kz g1)), (4, .int (kz z_3)), (0, .ref o), (1, .int (kz f)), (2, .int (kz b)), (3, .int (kz t))]) hx hb dX12_counts_268 hl (k := 0) rfl (kz_add q 1) (by decide) rfl (fun ls hl => ?_)
            refine lv_goto (tgt := 82) hx hb dX12_counts_271 (by decide) ?_
            exact ihn_130 (n_130 - 1) (by omega) (gb, gm) (q + 1) _ _ _ ⟨by omega, by omega, n_130f2, by omega, lv_sub hl [0, 1, 2, 3, 4, 5, 6] rfl, hI, hO, hS, c_3, c_4, c_5, c_10, c_11, c_12, c_13, c_17, c_27, c_29, c_30, c_32, c_33, c_44, k_gb, k_gm⟩
  · refine lv_aload_n hx hb dX12_counts_37 rfl (lv_at hl 1 rfl) ?_
    refine iz_get (D := (dC, dI)) (ci := 12) (v := .int (kz (zi 28))) (C := RX12) (T := TX12) (N := 49) hx hb hts hin hown hK hO rfl 28 (by decide) hL175 (fun _ h9 => h9) rfl dX12_counts_38 ?_
    refine iz_ne (tgt := 67) hx hb dX12_counts_41 (by decide) (by unfold rg2; omega) (fun br_238 => ?_) (fun br_238 => ?_)
    · refine lv_iconst (v := kz 0) hx hb dX12_counts_67 rfl ?_
      refine lv_istore (lv' := [(5, .int (kz 0)), (4, .int (kz z_3)), (0, .ref o), (1, .int (kz f)), (2, .int (kz b)), (3, .int (kz t))]) hx hb dX12_counts_68 hl (by decide) rfl (fun ls hl => ?_)
      refine iz_loopA1 (α := (Nat → Int32) × (Nat → Int32)) (P := fun N9 fn9 g1 H locs ls => (0 ≤ g1) ∧ (g1 ≤ 40) ∧ (cn fc (zi 28) (zi 34) (zi 2) (zi 9) f b t fn9.1 fn9.2) ∧ 40 - g1 ≤ (N9 : Int) ∧ lv_has ls 11 [(5, .int (kz g1)), (4, .int (kz z_3)), (0, .ref o), (1, .int (kz f)), (2, .int (kz b)), (3, .int (kz t))] ∧ iv (dC, dI) ca A X H ∧ va_at (dC, dI) vwCl (o, .inr (12, mM am zi zl)) H ∧ va_S A s.heap H locs ∧ va_at (dC, dI) vwCl (am 3, .inl (ca 21, 320, .inl (fc 3))) H ∧ va_at (dC, dI) vwCl (am 4, .inl (ca 20, 40, .inl (fc 4))) H ∧ va_at (dC, dI) vwCl (am 5, .inl (ca 20, 40, .inl (fc 5))) H ∧ va_at (dC, dI) vwCl (am 10, .inl (ca 21, 240, .inl (fc 10))) H ∧ va_at (dC, dI) vwCl (am 11, .inl (ca 20, 24, .inl (fc 11))) H ∧ va_at (dC, dI) vwCl (am 12, .inl (ca 20, 24, .inl (fc 12))) H ∧ va_at (dC, dI) vwCl (am 13, .inl (ca 20, 24, .inl (fc 13))) H ∧ va_at (dC, dI) vwCl (am 17, .inl (ca 22, 36, .inl (fc 17))) H ∧ va_at (dC, dI) vwCl (am 27, .inl (ca 21, 40, .inl (fc 27))) H ∧ va_at (dC, dI) vwCl (am 29, .inl (ca 20, 1600, .inl (fc 29))) H ∧ va_at (dC, dI) vwCl (am 30, .inl (ca 22, 6560, .inl (fc 30))) H ∧ va_at (dC, dI) vwCl (am 32, .inl (ca 20, 52480, .inl fn9.1)) H ∧ va_at (dC, dI) vwCl (am 33, .inl (ca 20, 6560, .inl fn9.2)) H ∧ va_at (dC, dI) vwCl (am 44, .inl (ca 20, 40, .inl (fc 44))) H ∧ ok20 X (am 32) 52480 (-2147483648) (2147483647) fn9.1 ∧ ok20 X (am 33) 6560 (0) (8) fn9.2) 100000 ((fc 32), g_5) (x0 := 0) ?_ ⟨by omega, by omega, (cn_0 z_3h (by omega) ug_5), by omega, lv_sub hl [0, 1, 2, 3, 4, 5] rfl, hI, hO, hS, c_3, c_4, c_5, c_10, c_11, c_12, c_13, c_17, c_27, c_29, c_30, c_32, c_33, c_44, k_32, k_g_5⟩
      intro n_239 ⟨gb, gm⟩ g1 H locs ls ⟨n_239f0, n_239f1, n_239f2, n_239f3, hl, hI, hO, hS, c_3, c_4, c_5, c_10, c_11, c_12, c_13, c_17, c_27, c_29, c_30, c_32, c_33, c_44, k_gb, k_gm⟩ ihn_239
      have n_239f2 : cn fc (zi 28) (zi 34) (zi 2) (zi 9) f b t gb gm := n_239f2
      have c_32 : va_at (dC, dI) vwCl (am 32, .inl (ca 20, 52480, .inl gb)) H := c_32
      have k_gb : ok20 X (am 32) 52480 (-2147483648) (2147483647) gb := k_gb
      have c_33 : va_at (dC, dI) vwCl (am 33, .inl (ca 20, 6560, .inl gm)) H := c_33
      have k_gm : ok20 X (am 33) 6560 (0) (8) gm := k_gm
      refine lv_iload hx hb dX12_counts_70 (lv_at hl 0 rfl) ?_
      refine lv_aload_n hx hb dX12_counts_72 rfl (lv_at hl 2 rfl) ?_
      refine iz_get (D := (dC, dI)) (ci := 12) (v := .int (kz (zi 2))) (C := RX12) (T := TX12) (N := 49) hx hb hts hin hown hK hO rfl 2 (by decide) hL131 (fun _ h9 => h9) rfl dX12_counts_73 ?_
      refine iz_ge (tgt := 280) hx hb dX12_counts_76 (by decide) (by unfold rg2; omega) (fun br_240 => ?_) (fun br_240 => ?_)
      · exact W.vret hx hb hr (fun t9 ht hW => ⟨⟨(cup (cup fc 32 gb) 33 gm), rfl, ⟨gb, gm, rfl, k_gb, k_gm, n_239f2⟩, va_K.moved hW.alike hK, by rw [ht]; exact ⟨hI, hO⟩, by rw [ht]; exact ⟨c_3, c_4, c_5, c_10, c_11, c_12, c_13, c_17, c_27, c_29, c_30, c_32, c_33, c_44⟩⟩, hS.F ht⟩) hS.2.2 dX12_counts_280
      · refine lv_iconst (v := kz (-1)) hx hb dX12_counts_79 rfl ?_
        refine lv_istore (lv' := [(6, .int (kz (-1))), (5, .int (kz g1)), (4, .int (kz z_3)), (0, .ref o), (1, .int (kz f)), (2, .int (kz b)), (3, .int (kz t))]) hx hb dX12_counts_80 hl (by decide) rfl (fun ls hl => ?_)
        refine iz_loopA1 (α := (Nat → Int32) × (Nat → Int32)) (P := fun N9 fn9 q H locs ls => (-1 ≤ q) ∧ (q ≤ 24) ∧ (cn fc (zi 28) (zi 34) (zi 2) (zi 9) f b t fn9.1 fn9.2) ∧ 24 - q ≤ (N9 : Int) ∧ lv_has ls 11 [(6, .int (kz q)), (5, .int (kz g1)), (4, .int (kz z_3)), (0, .ref o), (1, .int (kz f)), (2, .int (kz b)), (3, .int (kz t))] ∧ iv (dC, dI) ca A X H ∧ va_at (dC, dI) vwCl (o, .inr (12, mM am zi zl)) H ∧ va_S A s.heap H locs ∧ va_at (dC, dI) vwCl (am 3, .inl (ca 21, 320, .inl (fc 3))) H ∧ va_at (dC, dI) vwCl (am 4, .inl (ca 20, 40, .inl (fc 4))) H ∧ va_at (dC, dI) vwCl (am 5, .inl (ca 20, 40, .inl (fc 5))) H ∧ va_at (dC, dI) vwCl (am 10, .inl (ca 21, 240, .inl (fc 10))) H ∧ va_at (dC, dI) vwCl (am 11, .inl (ca 20, 24, .inl (fc 11))) H ∧ va_at (dC, dI) vwCl (am 12, .inl (ca 20, 24, .inl (fc 12))) H ∧ va_at (dC, dI) vwCl (am 13, .inl (ca 20, 24, .inl (fc 13))) H ∧ va_at (dC, dI) vwCl (am 17, .inl (ca 22, 36, .inl (fc 17))) H ∧ va_at (dC, dI) vwCl (am 27, .inl (ca 21, 40, .inl (fc 27))) H ∧ va_at (dC, dI) vwCl (am 29, .inl (ca 20, 1600, .inl (fc 29))) H ∧ va_at (dC, dI) vwCl (am 30, .inl (ca 22, 6560, .inl (fc 30))) H ∧ va_at (dC, dI) vwCl (am 32, .inl (ca 20, 52480, .inl fn9.1)) H ∧ va_at (dC, dI) vwCl (am 33, .inl (ca 20, 6560, .inl fn9.2)) H ∧ va_at (dC, dI) vwCl (am 44, .inl (ca 20, 40, .inl (fc 44))) H ∧ ok20 X (am 32) 52480 (-2147483648) (2147483647) fn9.1 ∧ ok20 X (am 33) 6560 (0) (8) fn9.2) 100000 (gb, gm) (x0 := (-1)) ?_ ⟨by omega, by omega, n_239f2, by omega, lv_sub hl [0, 1, 2, 3, 4, 5, 6] rfl, hI, hO, hS, c_3, c_4, c_5, c_10, c_11, c_12, c_13, c_17, c_27, c_29, c_30, c_32, c_33, c_44, k_gb, k_gm⟩
        intro n_241 ⟨gb, gm⟩ q H locs ls ⟨n_241f0, n_241f1, n_241f2, n_241f3, hl, hI, hO, hS, c_3, c_4, c_5, c_10, c_11, c_12, c_13, c_17, c_27, c_29, c_30, c_32, c_33, c_44, k_gb, k_gm⟩ ihn_241
        have n_241f2 : cn fc (zi 28) (zi 34) (zi 2) (zi 9) f b t gb gm := n_241f2
        have c_32 : va_at (dC, dI) vwCl (am 32, .inl (ca 20, 52480, .inl gb)) H := c_32
        have k_gb : ok20 X (am 32) 52480 (-2147483648) (2147483647) gb := k_gb
        have c_33 : va_at (dC, dI) vwCl (am 33, .inl (ca 20, 6560, .inl gm)) H := c_33
        have k_gm : ok20 X (am 33) 6560 (0) (8) gm := k_gm
        refine lv_iload hx hb dX12_counts_82 (lv_at hl 0 rfl) ?_
        refine lv_aload_n hx hb dX12_counts_84 rfl (lv_at hl 3 rfl) ?_
        refine iz_get (D := (dC, dI)) (ci := 12) (v := .int (kz (zi 9))) (C := RX12) (T := TX12) (N := 49) hx hb hts hin hown hK hO rfl 9 (by decide) hL138 (fun _ h9 => h9) rfl dX12_counts_85 ?_
        refine iz_ge (tgt := 274) hx hb dX12_counts_88 (by decide) (by unfold rg2; omega) (fun br_242 => ?_) (fun br_242 => ?_)
        · refine lv_iinc (v := kz (g1 + 1)) (lv' := [(5, .int (kz (g1 + 1))), (6, .int (kz q)), (4, .int (kz z_3)), (0, .ref o), (1, .int (kz f)), (2, .int (kz b)), (3, .int (kz t))]) hx hb dX12_counts_274 hl (k := 1) rfl (kz_add g1 1) (by decide) rfl (fun ls hl => ?_)
          refine lv_goto (tgt := 70) hx hb dX12_counts_277 (by decide) ?_
          exact ihn_239 (n_239 - 1) (by omega) (gb, gm) (g1 + 1) _ _ _ ⟨by omega, by omega, n_241f2, by omega, lv_sub hl [0, 2, 3, 4, 5, 6] rfl, hI, hO, hS, c_3, c_4, c_5, c_10, c_11, c_12, c_13, c_17, c_27, c_29, c_30, c_32, c_33, c_44, k_gb, k_gm⟩
        · refine lv_aload_n hx hb dX12_counts_91 rfl (lv_at hl 3 rfl) ?_
          refine lv_iload_n hx hb dX12_counts_92 rfl (lv_at hl 4 rfl) ?_
          refine lv_iload hx hb dX12_counts_93 (lv_at hl 1 rfl) ?_
          refine lv_iload hx hb dX12_counts_95 (lv_at hl 0 rfl) ?_
          refine vp_callSi (va_Run.run (va_runV (As := [.int (kz f), .int (kz g1), .int (kz q)]) (rest := []) ⟨hx, hb, hml, hown, hts⟩ (m_isBetween l dC dI ca A X o am zi zl (cup (cup fc 32 gb) 33 gm) hM hz ⟨k_4, k_5, k_11, k_12, k_13, k_29, k_gb, k_gm, k_44⟩ f g1 q (by omega) (by omega) (by omega)) (cwV 3 hts gX12_counts_X12_isBetween rfl rfl rfl (by decide +kernel) ⟨Nat.le_of_ble_eq_true rfl, Nat.le_of_ble_eq_true rfl⟩) ⟨fun a U g mk q => by obtain ⟨q0, qK, qI⟩ := q; exact ⟨q0, va_K.moved (u := U) (U := U.calling g mk a) (Vm.Alike.refl U.vm) qK, qI⟩, va_recv hK (at_P hO) (ci := 12) (q0 := 0) rfl rfl, fun U hU hW => ⟨rfl, va_K.moved hW.alike hK, by rw [hU]; exact ⟨⟨hI, hO⟩, c_3, c_4, c_5, c_10, c_11, c_12, c_13, c_17, c_27, c_29, c_30, c_32, c_33, c_44⟩⟩⟩ rfl rfl hl.1 rfl (lv_room (Nat.le_of_ble_eq_true rfl)) dX12_counts_97 ⟨Nat.le_of_ble_eq_true rfl, Nat.le_of_ble_eq_true rfl⟩)) (fun r_244 hw_243 => ?_)
          rcases hw_243 with ⟨rfl, hw_243⟩ | ⟨rfl, hw_243⟩
          · have hw_243 : bw fc (zi 34) f g1 q := hw_243
            refine iz_nez (tgt := 106) hx hb dX12_counts_100 (by decide) (by unfold rg2; omega) (fun _ => ?_) (fun q9 => absurd q9 (by decide))
            refine lv_aload_n hx hb dX12_counts_106 rfl (lv_at hl 3 rfl) ?_
            refine lv_iload_n hx hb dX12_counts_107 rfl (lv_at hl 4 rfl) ?_
            refine lv_iload_n hx hb dX12_counts_108 rfl (lv_at hl 5 rfl) ?_
            refine lv_iload_n hx hb dX12_counts_109 rfl (lv_at hl 6 rfl) ?_
            refine lv_iload hx hb dX12_counts_110 (lv_at hl 0 rfl) ?_
            refine vp_callSi (va_Run.run (va_runV (As := [.int (kz f), .int (kz b), .int (kz t), .int (kz q)]) (rest := []) ⟨hx, hb, hml, hown, hts⟩ (m_passes l dC dI ca A X o am zi zl (cup (cup fc 32 gb) 33 gm) hM hz ⟨k_4, k_5, k_11, k_12, k_13, k_29, k_gb, k_gm, k_44⟩ f b t q (by omega) (by omega) (by show b ≤ ge1 (fc 4) f; omega) (by omega) (by omega)) (cwV 4 hts gX12_counts_X12_passes rfl rfl rfl (by decide +kernel) ⟨Nat.le_of_ble_eq_true rfl, Nat.le_of_ble_eq_true rfl⟩) ⟨fun a U g mk q => by obtain ⟨q0, qK, qI⟩ := q; exact ⟨q0, va_K.moved (u := U) (U := U.calling g mk a) (Vm.Alike.refl U.vm) qK, qI⟩, va_recv hK (at_P hO) (ci := 12) (q0 := 0) rfl rfl, fun U hU hW => ⟨rfl, va_K.moved hW.alike hK, by rw [hU]; exact ⟨⟨hI, hO⟩, c_3, c_4, c_5, c_10, c_11, c_12, c_13, c_17, c_27, c_29, c_30, c_32, c_33, c_44⟩⟩⟩ rfl rfl hl.1 rfl (lv_room (Nat.le_of_ble_eq_true rfl)) dX12_counts_112 ⟨Nat.le_of_ble_eq_true rfl, Nat.le_of_ble_eq_true rfl⟩)) (fun r_246 hw_245 => ?_)
            rcases hw_245 with ⟨hw_245, rfl⟩ | ⟨hw_245, rfl⟩
            · have hw_245 : ps fc (zi 28) f b t q := hw_245
              obtain ⟨z_247, ez_247⟩ : ∃ z9 : Int, z9 = ds (cup (cup fc 32 gb) 33 gm) f b t q := ⟨_, rfl⟩
              rw [← ez_247]
              have ez_247 : z_247 = ds fc f b t q := ez_247
              have rz_247 := ds_rng (X := X) (am := am) (fc := fc) hk (by omega) (by omega) (by omega) (by omega) hw_245
              rw [← ez_247] at rz_247
              refine lv_istore (lv' := [(7, .int (kz z_247)), (6, .int (kz q)), (5, .int (kz g1)), (4, .int (kz z_3)), (0, .ref o), (1, .int (kz f)), (2, .int (kz b)), (3, .int (kz t))]) hx hb dX12_counts_115 hl (by decide) rfl (fun ls hl => ?_)
              refine lv_iload hx hb dX12_counts_117 (lv_at hl 0 rfl) ?_
              refine iz_gez (tgt := 125) hx hb dX12_counts_119 (by decide) (by unfold rg2; omega) (fun br_248 => ?_) (fun br_248 => ?_)
              · refine lv_iload hx hb dX12_counts_125 (lv_at hl 2 rfl) ?_
                refine lv_iload hx hb dX12_counts_127 (lv_at hl 1 rfl) ?_
                refine iz_gez (tgt := 136) hx hb dX12_counts_129 (by decide) (by unfold rg2; omega) (fun br_249 => ?_) (fun br_249 => ?_)
                · refine lv_aload_n hx hb dX12_counts_136 rfl (lv_at hl 4 rfl) ?_
                  refine iz_get (D := (dC, dI)) (ci := 12) (v := .ref (am 12)) (C := RX12) (T := TX12) (N := 49) hx hb hts hin hown hK hO rfl 12 (by decide) hL39 (fun _ h9 => h9) rfl dX12_counts_137 ?_
                  refine lv_iload hx hb dX12_counts_140 (lv_at hl 1 rfl) ?_
                  refine iz_iald hx hb hK 0 c_12 rfl (by omega) (by decide) dX12_counts_142 ?_
                  obtain ⟨v_250a, v_250b, v_250c⟩ := k_12 q (by omega)
                  clear v_250c
                  obtain ⟨v_250, ev_250⟩ : ∃ z9 : Int, ge1 (fc 12) q = z9 := ⟨_, rfl⟩
                  rw [ev_250] at v_250a v_250b ⊢
                  refine lv_iload hx hb dX12_counts_143 (lv_at hl 0 rfl) ?_
                  refine vp_callSi (va_Run.run (va_runS (As := [.int (kz g1), .int (kz v_250), .int (kz z_247)]) (rest := []) ⟨hx, hb, hml, hown, hts⟩ (m_placeOf l g1 v_250 z_247) (va_cwS 3 hts gX12_counts_X12_placeOf rfl rfl rfl (by decide +kernel) ⟨Nat.le_of_ble_eq_true rfl, Nat.le_of_ble_eq_true rfl⟩) ⟨fun a U g mk q => q, fun U hU hW => ⟨rfl, trivial⟩⟩ rfl rfl hl.1 rfl (lv_room (Nat.le_of_ble_eq_true rfl)) dX12_counts_145 ⟨Nat.le_of_ble_eq_true rfl, Nat.le_of_ble_eq_true rfl⟩)) (fun r_252 hw_251 => ?_)
                  obtain ⟨z_253, rfl, z_253h⟩ := hw_251
                  refine lv_istore (lv' := [(8, .int (kz z_253)), (7, .int (kz z_247)), (6, .int (kz q)), (5, .int (kz g1)), (4, .int (kz z_3)), (0, .ref o), (1, .int (kz f)), (2, .int (kz b)), (3, .int (kz t))]) hx hb dX12_counts_148 hl (by decide) rfl (fun ls hl => ?_)
                  refine lv_aload_n hx hb dX12_counts_150 rfl (lv_at hl 5 rfl) ?_
                  refine iz_get (D := (dC, dI)) (ci := 12) (v := .ref (am 31)) (C := RX12) (T := TX12) (N := 49) hx hb hts hin hown hK hO rfl 31 (by decide) hL85 (fun _ h9 => h9) rfl dX12_counts_151 ?_
                  refine lv_iload hx hb dX12_counts_154 (lv_at hl 4 rfl) ?_
                  refine lv_aload_n hx hb dX12_counts_156 rfl (lv_at hl 5 rfl) ?_
                  refine iz_get (D := (dC, dI)) (ci := 12) (v := .ref (am 31)) (C := RX12) (T := TX12) (N := 49) hx hb hts hin hown hK hO rfl 31 (by decide) hL85 (fun _ h9 => h9) rfl dX12_counts_157 ?_
                  refine lv_iload hx hb dX12_counts_160 (lv_at hl 4 rfl) ?_
                  obtain ⟨f31_254, c_f31_254⟩ := iv_o23 hI g31
                  refine iz_lald hx hb hK 3 c_f31_254 rfl (by omega) (by decide) dX12_counts_162 ?_
                  refine lv_topl (fun y_255 ey_255 => ?_)
                  refine lv_aload_n hx hb dX12_counts_163 rfl (lv_at hl 5 rfl) ?_
                  refine iz_get (D := (dC, dI)) (ci := 12) (v := .ref (am 31)) (C := RX12) (T := TX12) (N := 49) hx hb hts hin hown hK hO rfl 31 (by decide) hL85 (fun _ h9 => h9) rfl dX12_counts_164 ?_
                  refine lv_iload hx hb dX12_counts_167 (lv_at hl 0 rfl) ?_
                  refine iz_lald hx hb hK 3 c_f31_254 rfl (by omega) (by decide) dX12_counts_169 ?_
                  refine lv_topl (fun y_256 ey_256 => ?_)
                  refine vp_callSl (va_Run.run (va_runS (As := [.long y_255, .long y_256]) (rest := [.int (kz z_3), .ref (am 31)]) ⟨hx, hb, hml, hown, hts⟩ (m_plus l y_255 y_256) (va_cwS 2 hts gX12_counts_X12_plus rfl rfl rfl (by decide +kernel) ⟨Nat.le_of_ble_eq_true rfl, Nat.le_of_ble_eq_true rfl⟩) ⟨fun a U g mk q => q, fun U hU hW => ⟨rfl, trivial⟩⟩ rfl rfl hl.1 rfl (lv_room (Nat.le_of_ble_eq_true rfl)) dX12_counts_170 ⟨Nat.le_of_ble_eq_true rfl, Nat.le_of_ble_eq_true rfl⟩)) (fun r_258 hw_257 => ?_)
                  refine iz_last hx hb hK 3 c_f31_254 hS (iv_A hI g31 (by decide)) rfl (by omega) (by decide) dX12_counts_173 (fun H locs c9 oq hS => ?_)
                  have hI := iv_s23 hI g31 c9 oq
                  have hO := hO.kept (oq _ (iv_ne0 g31 hM.2.1 (by decide)).symm)
                  have c_3 := c_3.kept (oq _ (iv_ne g3 g31 (by decide)))
                  have c_4 := c_4.kept (oq _ (iv_ne g4 g31 (by decide)))
                  have c_5 := c_5.kept (oq _ (iv_ne g5 g31 (by decide)))
                  have c_10 := c_10.kept (oq _ (iv_ne g10 g31 (by decide)))
                  have c_11 := c_11.kept (oq _ (iv_ne g11 g31 (by decide)))
                  have c_12 := c_12.kept (oq _ (iv_ne g12 g31 (by decide)))
                  have c_13 := c_13.kept (oq _ (iv_ne g13 g31 (by decide)))
                  have c_17 := c_17.kept (oq _ (iv_ne g17 g31 (by decide)))
                  have c_27 := c_27.kept (oq _ (iv_ne g27 g31 (by decide)))
                  have c_29 := c_29.kept (oq _ (iv_ne g29 g31 (by decide)))
                  have c_30 := c_30.kept (oq _ (iv_ne g30 g31 (by decide)))
                  have c_32 := c_32.kept (oq _ (iv_ne g32 g31 (by decide)))
                  have c_33 := c_33.kept (oq _ (iv_ne g33 g31 (by decide)))
                  have c_44 := c_44.kept (oq _ (iv_ne g44 g31 (by decide)))
                  clear oq c9
                  refine lv_aload_n hx hb dX12_counts_174 rfl (lv_at hl 5 rfl) ?_
                  refine iz_get (D := (dC, dI)) (ci := 12) (v := .ref (am 7)) (C := RX12) (T := TX12) (N := 49) hx hb hts hin hown hK hO rfl 7 (by decide) hL26 (fun _ h9 => h9) rfl dX12_counts_175 ?_
                  refine lv_iload_n hx hb dX12_counts_178 rfl (lv_at hl 6 rfl) ?_
                  obtain ⟨f7_259, c_f7_259, k_f7_259⟩ := iv_o20 hI g7
                  refine iz_iald hx hb hK 0 c_f7_259 rfl (by omega) (by decide) dX12_counts_179 ?_
                  obtain ⟨v_260a, v_260b, v_260c⟩ := k_f7_259 f (by omega)
                  clear v_260c
                  obtain ⟨v_260, ev_260⟩ : ∃ z9 : Int, ge1 f7_259 f = z9 := ⟨_, rfl⟩
                  rw [ev_260] at v_260a v_260b ⊢
                  refine lv_iload hx hb dX12_counts_180 (lv_at hl 2 rfl) ?_
                  refine iz_gez (tgt := 189) hx hb dX12_counts_182 (by decide) (by unfold rg2; omega) (fun br_261 => ?_) (fun br_261 => ?_)
                  · refine lv_aload_n hx hb dX12_counts_189 rfl (lv_at hl 5 rfl) ?_
                    refine iz_get (D := (dC, dI)) (ci := 12) (v := .ref (am 14)) (C := RX12) (T := TX12) (N := 49) hx hb hts hin hown hK hO rfl 14 (by decide) hL45 (fun _ h9 => h9) rfl dX12_counts_190 ?_
                    refine lv_iload hx hb dX12_counts_193 (lv_at hl 2 rfl) ?_
                    obtain ⟨f14_262, c_f14_262, k_f14_262⟩ := iv_o20 hI g14
                    refine iz_iald hx hb hK 0 c_f14_262 rfl (by omega) (by decide) dX12_counts_195 ?_
                    obtain ⟨v_263a, v_263b, v_263c⟩ := k_f14_262 q (by omega)
                    clear v_263c
                    obtain ⟨v_263, ev_263⟩ : ∃ z9 : Int, ge1 f14_262 q = z9 := ⟨_, rfl⟩
                    rw [ev_263] at v_263a v_263b ⊢
                    refine iz_iadd hx hb dX12_counts_196 ?_
                    refine lv_istore (lv' := [(9, .int (kz (v_260 + v_263))), (8, .int (kz z_253)), (7, .int (kz z_247)), (6, .int (kz q)), (5, .int (kz g1)), (4, .int (kz z_3)), (0, .ref o), (1, .int (kz f)), (2, .int (kz b)), (3, .int (kz t))]) hx hb dX12_counts_197 hl (by decide) rfl (fun ls hl => ?_)
                    refine lv_iconst (v := kz 0) hx hb dX12_counts_199 rfl ?_
                    refine lv_istore (lv' := [(10, .int (kz 0)), (9, .int (kz (v_260 + v_263))), (8, .int (kz z_253)), (7, .int (kz z_247)), (6, .int (kz q)), (5, .int (kz g1)), (4, .int (kz z_3)), (0, .ref o), (1, .int (kz f)), (2, .int (kz b)), (3, .int (kz t))]) hx hb dX12_counts_200 hl (by decide) rfl (fun ls hl => ?_)
                    refine iz_loopA1 (α := (Nat → Int32) × (Nat → Int32)) (P := fun N9 fn9 k H locs ls => (0 ≤ k) ∧ (k ≤ 8) ∧ (cn fc (zi 28) (zi 34) (zi 2) (zi 9) f b t fn9.1 fn9.2) ∧ 8 - k ≤ (N9 : Int) ∧ lv_has ls 11 [(10, .int (kz k)), (9, .int (kz (v_260 + v_263))), (8, .int (kz z_253)), (7, .int (kz z_247)), (6, .int (kz q)), (5, .int (kz g1)), (4, .int (kz z_3)), (0, .ref o), (1, .int (kz f)), (2, .int (kz b)), (3, .int (kz t))] ∧ iv (dC, dI) ca A X H ∧ va_at (dC, dI) vwCl (o, .inr (12, mM am zi zl)) H ∧ va_S A s.heap H locs ∧ va_at (dC, dI) vwCl (am 3, .inl (ca 21, 320, .inl (fc 3))) H ∧ va_at (dC, dI) vwCl (am 4, .inl (ca 20, 40, .inl (fc 4))) H ∧ va_at (dC, dI) vwCl (am 5, .inl (ca 20, 40, .inl (fc 5))) H ∧ va_at (dC, dI) vwCl (am 10, .inl (ca 21, 240, .inl (fc 10))) H ∧ va_at (dC, dI) vwCl (am 11, .inl (ca 20, 24, .inl (fc 11))) H ∧ va_at (dC, dI) vwCl (am 12, .inl (ca 20, 24, .inl (fc 12))) H ∧ va_at (dC, dI) vwCl (am 13, .inl (ca 20, 24, .inl (fc 13))) H ∧ va_at (dC, dI) vwCl (am 17, .inl (ca 22, 36, .inl (fc 17))) H ∧ va_at (dC, dI) vwCl (am 27, .inl (ca 21, 40, .inl (fc 27))) H ∧ va_at (dC, dI) vwCl (am 29, .inl (ca 20, 1600, .inl (fc 29))) H ∧ va_at (dC, dI) vwCl (am 30, .inl (ca 22, 6560, .inl (fc 30))) H ∧ va_at (dC, dI) vwCl (am 32, .inl (ca 20, 52480, .inl fn9.1)) H ∧ va_at (dC, dI) vwCl (am 33, .inl (ca 20, 6560, .inl fn9.2)) H ∧ va_at (dC, dI) vwCl (am 44, .inl (ca 20, 40, .inl (fc 44))) H ∧ ok20 X (am 32) 52480 (-2147483648) (2147483647) fn9.1 ∧ ok20 X (am 33) 6560 (0) (8) fn9.2) 100000 (gb, gm) (x0 := 0) ?_ ⟨by omega, by omega, n_241f2, by omega, lv_sub hl [0, 1, 2, 3, 4, 5, 6, 7, 8, 9, 10] rfl, hI, hO, hS, c_3, c_4, c_5, c_10, c_11, c_12, c_13, c_17, c_27, c_29, c_30, c_32, c_33, c_44, k_gb, k_gm⟩
                    intro n_264 ⟨gb, gm⟩ k H locs ls ⟨n_264f0, n_264f1, n_264f2, n_264f3, hl, hI, hO, hS, c_3, c_4, c_5, c_10, c_11, c_12, c_13, c_17, c_27, c_29, c_30, c_32, c_33, c_44, k_gb, k_gm⟩ ihn_264
                    have n_264f2 : cn fc (zi 28) (zi 34) (zi 2) (zi 9) f b t gb gm := n_264f2
                    have c_32 : va_at (dC, dI) vwCl (am 32, .inl (ca 20, 52480, .inl gb)) H := c_32
                    have k_gb : ok20 X (am 32) 52480 (-2147483648) (2147483647) gb := k_gb
                    have c_33 : va_at (dC, dI) vwCl (am 33, .inl (ca 20, 6560, .inl gm)) H := c_33
                    have k_gm : ok20 X (am 33) 6560 (0) (8) gm := k_gm
                    refine lv_iload hx hb dX12_counts_202 (lv_at hl 0 rfl) ?_
                    refine lv_aload_n hx hb dX12_counts_204 rfl (lv_at hl 7 rfl) ?_
                    refine iz_get (D := (dC, dI)) (ci := 12) (v := .ref (am 33)) (C := RX12) (T := TX12) (N := 49) hx hb hts hin hown hK hO rfl 33 (by decide) hL93 (fun _ h9 => h9) rfl dX12_counts_205 ?_
                    refine lv_iload hx hb dX12_counts_208 (lv_at hl 2 rfl) ?_
                    refine iz_iald hx hb hK 0 c_33 rfl (by omega) (by decide) dX12_counts_210 ?_
                    obtain ⟨v_265a, v_265b, v_265c⟩ := k_gm z_253 (by omega)
                    clear v_265c
                    obtain ⟨v_265, ev_265⟩ : ∃ z9 : Int, ge1 gm z_253 = z9 := ⟨_, rfl⟩
                    rw [ev_265] at v_265a v_265b ⊢
                    refine iz_ge (tgt := 268) hx hb dX12_counts_211 (by decide) (by unfold rg2; omega) (fun br_266 => ?_) (fun br_266 => ?_)
                    · refine lv_iinc (v := kz (q + 1)) (lv' := [(6, .int (kz (q + 1))), (10, .int (kz k)), (9, .int (kz (v_260 + v_263))), (8, .int (kz z_253)), (7, .int (kz z_247)), (5, .int (kz g1)), (4, .int (kz z_3)), (0, .ref o), (1, .int (kz f)), (2, .int (kz b)), (3, .int (kz t))]) hx hb dX12_counts_268 hl (k := 4) rfl (kz_add q 1) (by decide) rfl (fun ls hl => ?_)
                      refine lv_goto (tgt := 82) hx hb dX12_counts_271 (by decide) ?_
                      exact ihn_241 (n_241 - 1) (by omega) (gb, gm) (q + 1) _ _ _ ⟨by omega, by omega, n_264f2, by omega, lv_sub hl [0, 5, 6, 7, 8, 9, 10] rfl, hI, hO, hS, c_3, c_4, c_5, c_10, c_11, c_12, c_13, c_17, c_27, c_29, c_30, c_32, c_33, c_44, k_gb, k_gm⟩
                    · refine lv_aload_n hx hb dX12_counts_214 rfl (lv_at hl 7 rfl) ?_
                      refine lv_iload hx hb dX12_counts_215 (lv_at hl 6 rfl) ?_
                      refine lv_iload hx hb dX12_counts_217 (lv_at hl 1 rfl) ?_
                      refine lv_aload_n hx hb dX12_counts_219 rfl (lv_at hl 7 rfl) ?_
                      refine iz_get (D := (dC, dI)) (ci := 12) (v := .ref (am 32)) (C := RX12) (T := TX12) (N := 49) hx hb hts hin hown hK hO rfl 32 (by decide) hL90 (fun _ h9 => h9) rfl dX12_counts_220 ?_
                      refine lv_bipush (v := kz 8) hx hb dX12_counts_223 (by decide) ?_
                      refine lv_iload hx hb dX12_counts_225 (lv_at hl 2 rfl) ?_
                      refine iz_imul hx hb dX12_counts_227 ?_
                      refine lv_iload hx hb dX12_counts_228 (lv_at hl 0 rfl) ?_
                      refine iz_iadd hx hb dX12_counts_230 ?_
                      refine iz_iald hx hb hK 0 c_32 rfl (by omega) (by decide) dX12_counts_231 ?_
                      obtain ⟨v_267a, v_267b, v_267c⟩ := k_gb ((8 * z_253) + k) (by omega)
                      clear v_267c
                      obtain ⟨v_267, ev_267⟩ : ∃ z9 : Int, ge1 gb ((8 * z_253) + k) = z9 := ⟨_, rfl⟩
                      rw [ev_267] at v_267a v_267b ⊢
                      refine vp_callSi (va_Run.run (va_runS (As := [.int (kz v_267)]) (rest := [.int (kz (v_260 + v_263)), .int (kz z_3), .ref o]) ⟨hx, hb, hml, hown, hts⟩ (m_costOf l v_267) (va_cwS 1 hts gX12_counts_X12_costOf rfl rfl rfl (by decide +kernel) ⟨Nat.le_of_ble_eq_true rfl, Nat.le_of_ble_eq_true rfl⟩) ⟨fun a U g mk q => q, fun U hU hW => ⟨rfl, trivial⟩⟩ rfl rfl hl.1 rfl (lv_room (Nat.le_of_ble_eq_true rfl)) dX12_counts_232 ⟨Nat.le_of_ble_eq_true rfl, Nat.le_of_ble_eq_true rfl⟩)) (fun r_269 hw_268 => ?_)
                      obtain ⟨z_270, z_270a, z_270b, rfl⟩ := kz_ex r_269
                      refine iz_iadd hx hb dX12_counts_235 ?_
                      refine lv_bipush (v := kz 15) hx hb dX12_counts_236 (by decide) ?_
                      refine lv_ishl hx hb dX12_counts_238 ?_
                      refine iz_any (fun z_271 z_271a z_271b z_271e => ?_)
                      refine lv_sipush (v := kz 16384) hx hb dX12_counts_239 (by decide) ?_
                      refine lv_ior hx hb dX12_counts_242 ?_
                      refine iz_any (fun z_272 z_272a z_272b z_272e => ?_)
                      refine lv_iload hx hb dX12_counts_243 (lv_at hl 4 rfl) ?_
                      refine lv_iconst (v := kz 1) hx hb dX12_counts_245 rfl ?_
                      refine iz_iadd hx hb dX12_counts_246 ?_
                      refine lv_bipush (v := kz 9) hx hb dX12_counts_247 (by decide) ?_
                      refine lv_ishl hx hb dX12_counts_249 ?_
                      refine iz_any (fun z_273 z_273a z_273b z_273e => ?_)
                      refine lv_ior hx hb dX12_counts_250 ?_
                      refine iz_any (fun z_274 z_274a z_274b z_274e => ?_)
                      refine lv_iload hx hb dX12_counts_251 (lv_at hl 5 rfl) ?_
                      refine lv_iconst (v := kz 3) hx hb dX12_counts_253 rfl ?_
                      refine lv_ishl hx hb dX12_counts_254 ?_
                      refine iz_any (fun z_275 z_275a z_275b z_275e => ?_)
                      refine lv_ior hx hb dX12_counts_255 ?_
                      refine iz_any (fun z_276 z_276a z_276b z_276e => ?_)
                      refine lv_iload hx hb dX12_counts_256 (lv_at hl 0 rfl) ?_
                      refine lv_ior hx hb dX12_counts_258 ?_
                      refine iz_any (fun z_277 z_277a z_277b z_277e => ?_)
                      refine va_callv (va_runV (As := [.int (kz z_3), .int (kz z_277)]) (rest := []) ⟨hx, hb, hml, hown, hts⟩ (m_keeps l dC dI ca A X o am zi zl (cup (cup fc 32 gb) 33 gm) hM hz ⟨k_4, k_5, k_11, k_12, k_13, k_29, k_gb, k_gm, k_44⟩ z_3 z_277 (by omega) (by omega)) (cwV 2 hts gX12_counts_X12_keeps rfl rfl rfl (by decide +kernel) ⟨Nat.le_of_ble_eq_true rfl, Nat.le_of_ble_eq_true rfl⟩) ⟨fun a U g mk q => by obtain ⟨q0, qK, qI⟩ := q; exact ⟨q0, va_K.moved (u := U) (U := U.calling g mk a) (Vm.Alike.refl U.vm) qK, qI⟩, va_recv hK (at_P hO) (ci := 12) (q0 := 0) rfl rfl, fun U hU hW => ⟨rfl, va_K.moved hW.alike hK, by rw [hU]; exact ⟨⟨hI, hO⟩, c_3, c_4, c_5, c_10, c_11, c_12, c_13, c_17, c_27, c_29, c_30, c_32, c_33, c_44⟩⟩⟩ rfl rfl hl.1 rfl (lv_room (Nat.le_of_ble_eq_true rfl)) dX12_counts_259 ⟨Nat.le_of_ble_eq_true rfl, Nat.le_of_ble_eq_true rfl⟩) hS (fun q _ h => h) (fun q h => h) (fun u t9 H locs ht hvm hw_278 hB hz1 hk1 hS => ?_)
                      obtain ⟨-, ⟨hI, hO⟩, c_3, c_4, c_5, c_10, c_11, c_12, c_13, c_17, c_27, c_29, c_30, c_32, c_33, c_44⟩ := hB
                      rw [ht] at hI hO c_3 c_4 c_5 c_10 c_11 c_12 c_13 c_17 c_27 c_29 c_30 c_32 c_33 c_44
                      clear ht hvm hz1 hk1
                      have he_z_277 := enc_bits z_271e z_272e z_273e z_274e z_275e z_276e z_277e
                      have hg_z_277 : ge1 gm z_253 = ge1 (fc 33) z_253 := n_264f2.2.1 z_253 (by omega) (by unfold pl; omega)
                      have hv_z_277 : ev1 fc (zi 28) (zi 34) (zi 2) (zi 9) f b t z_277 := (ev1_in (gm := gm) ⟨by omega, by omega, hw_243, hw_245⟩ (show z_253 = pl g1 (nb fc q) (ds fc f b t q) by unfold pl nb; rw [if_neg (show ¬ q < 0 by omega), ev_250, ← ez_247]; omega) hg_z_277 (by omega) (enc_q he_z_277 (by omega) (by omega) (by omega)) (enc_g he_z_277 (by omega) (by omega)) (enc_w he_z_277 (by omega)) (by omega))
                      obtain ⟨gb_280, gm_281, rfl, k_gb_280, k_gm_281, x_gb_280⟩ := hw_278
                      have c_3 : va_at (dC, dI) vwCl (am 3, .inl (ca 21, 320, .inl (fc 3))) H := c_3
                      have c_4 : va_at (dC, dI) vwCl (am 4, .inl (ca 20, 40, .inl (fc 4))) H := c_4
                      have c_5 : va_at (dC, dI) vwCl (am 5, .inl (ca 20, 40, .inl (fc 5))) H := c_5
                      have c_10 : va_at (dC, dI) vwCl (am 10, .inl (ca 21, 240, .inl (fc 10))) H := c_10
                      have c_11 : va_at (dC, dI) vwCl (am 11, .inl (ca 20, 24, .inl (fc 11))) H := c_11
                      have c_12 : va_at (dC, dI) vwCl (am 12, .inl (ca 20, 24, .inl (fc 12))) H := c_12
                      have c_13 : va_at (dC, dI) vwCl (am 13, .inl (ca 20, 24, .inl (fc 13))) H := c_13
                      have c_17 : va_at (dC, dI) vwCl (am 17, .inl (ca 22, 36, .inl (fc 17))) H := c_17
                      have c_27 : va_at (dC, dI) vwCl (am 27, .inl (ca 21, 40, .inl (fc 27))) H := c_27
                      have c_29 : va_at (dC, dI) vwCl (am 29, .inl (ca 20, 1600, .inl (fc 29))) H := c_29
                      have c_30 : va_at (dC, dI) vwCl (am 30, .inl (ca 22, 6560, .inl (fc 30))) H := c_30
                      have c_32 : va_at (dC, dI) vwCl (am 32, .inl (ca 20, 52480, .inl gb_280)) H := c_32
                      have c_33 : va_at (dC, dI) vwCl (am 33, .inl (ca 20, 6560, .inl gm_281)) H := c_33
                      have c_44 : va_at (dC, dI) vwCl (am 44, .inl (ca 20, 40, .inl (fc 44))) H := c_44
                      have cn_gb_280 : cn fc (zi 28) (zi 34) (zi 2) (zi 9) f b t gb_280 gm_281 := cn_keep z_3h (by omega) n_264f2 hv_z_277 x_gb_280
                      refine lv_iinc (v := kz (k + 1)) (lv' := [(10, .int (kz (k + 1))), (9, .int (kz (v_260 + v_263))), (8, .int (kz z_253)), (7, .int (kz z_247)), (6, .int (kz q)), (5, .int (kz g1)), (4, .int (kz z_3)), (0, .ref o), (1, .int (kz f)), (2, .int (kz b)), (3, .int (kz t))]) hx hb dX12_counts_262 hl (k := 0) rfl (kz_add k 1) (by decide) rfl (fun ls hl => ?_)
                      refine lv_goto (tgt := 202) hx hb dX12_counts_265 (by decide) ?_
                      exact ihn_264 (n_264 - 1) (by omega) (gb_280, gm_281) (k + 1) _ _ _ ⟨by omega, by omega, cn_gb_280, by omega, lv_sub hl [0, 1, 2, 3, 4, 5, 6, 7, 8, 9, 10] rfl, hI, hO, hS, c_3, c_4, c_5, c_10, c_11, c_12, c_13, c_17, c_27, c_29, c_30, c_32, c_33, c_44, k_gb_280, k_gm_281⟩
                  · refine lv_iconst (v := kz 0) hx hb dX12_counts_185 rfl ?_
                    refine lv_goto (tgt := 196) hx hb dX12_counts_186 (by decide) ?_
                    refine iz_iadd hx hb dX12_counts_196 ?_
                    refine lv_istore (lv' := [(9, .int (kz (v_260 + 0))), (8, .int (kz z_253)), (7, .int (kz z_247)), (6, .int (kz q)), (5, .int (kz g1)), (4, .int (kz z_3)), (0, .ref o), (1, .int (kz f)), (2, .int (kz b)), (3, .int (kz t))]) hx hb dX12_counts_197 hl (by decide) rfl (fun ls hl => ?_)
                    refine lv_iconst (v := kz 0) hx hb dX12_counts_199 rfl ?_
                    refine lv_istore (lv' := [(10, .int (kz 0)), (9, .int (kz (v_260 + 0))), (8, .int (kz z_253)), (7, .int (kz z_247)), (6, .int (kz q)), (5, .int (kz g1)), (4, .int (kz z_3)), (0, .ref o), (1, .int (kz f)), (2, .int (kz b)), (3, .int (kz t))]) hx hb dX12_counts_200 hl (by decide) rfl (fun ls hl => ?_)
                    refine iz_loopA1 (α := (Nat → Int32) × (Nat → Int32)) (P := fun N9 fn9 k H locs ls => (0 ≤ k) ∧ (k ≤ 8) ∧ (cn fc (zi 28) (zi 34) (zi 2) (zi 9) f b t fn9.1 fn9.2) ∧ 8 - k ≤ (N9 : Int) ∧ lv_has ls 11 [(10, .int (kz k)), (9, .int (kz (v_260 + 0))), (8, .int (kz z_253)), (7, .int (kz z_247)), (6, .int (kz q)), (5, .int (kz g1)), (4, .int (kz z_3)), (0, .ref o), (1, .int (kz f)), (2, .int (kz b)), (3, .int (kz t))] ∧ iv (dC, dI) ca A X H ∧ va_at (dC, dI) vwCl (o, .inr (12, mM am zi zl)) H ∧ va_S A s.heap H locs ∧ va_at (dC, dI) vwCl (am 3, .inl (ca 21, 320, .inl (fc 3))) H ∧ va_at (dC, dI) vwCl (am 4, .inl (ca 20, 40, .inl (fc 4))) H ∧ va_at (dC, dI) vwCl (am 5, .inl (ca 20, 40, .inl (fc 5))) H ∧ va_at (dC, dI) vwCl (am 10, .inl (ca 21, 240, .inl (fc 10))) H ∧ va_at (dC, dI) vwCl (am 11, .inl (ca 20, 24, .inl (fc 11))) H ∧ va_at (dC, dI) vwCl (am 12, .inl (ca 20, 24, .inl (fc 12))) H ∧ va_at (dC, dI) vwCl (am 13, .inl (ca 20, 24, .inl (fc 13))) H ∧ va_at (dC, dI) vwCl (am 17, .inl (ca 22, 36, .inl (fc 17))) H ∧ va_at (dC, dI) vwCl (am 27, .inl (ca 21, 40, .inl (fc 27))) H ∧ va_at (dC, dI) vwCl (am 29, .inl (ca 20, 1600, .inl (fc 29))) H ∧ va_at (dC, dI) vwCl (am 30, .inl (ca 22, 6560, .inl (fc 30))) H ∧ va_at (dC, dI) vwCl (am 32, .inl (ca 20, 52480, .inl fn9.1)) H ∧ va_at (dC, dI) vwCl (am 33, .inl (ca 20, 6560, .inl fn9.2)) H ∧ va_at (dC, dI) vwCl (am 44, .inl (ca 20, 40, .inl (fc 44))) H ∧ ok20 X (am 32) 52480 (-2147483648) (2147483647) fn9.1 ∧ ok20 X (am 33) 6560 (0) (8) fn9.2) 100000 (gb, gm) (x0 := 0) ?_ ⟨by omega, by omega, n_241f2, by omega, lv_sub hl [0, 1, 2, 3, 4, 5, 6, 7, 8, 9, 10] rfl, hI, hO, hS, c_3, c_4, c_5, c_10, c_11, c_12, c_13, c_17, c_27, c_29, c_30, c_32, c_33, c_44, k_gb, k_gm⟩
                    intro n_282 ⟨gb, gm⟩ k H locs ls ⟨n_282f0, n_282f1, n_282f2, n_282f3, hl, hI, hO, hS, c_3, c_4, c_5, c_10, c_11, c_12, c_13, c_17, c_27, c_29, c_30, c_32, c_33, c_44, k_gb, k_gm⟩ ihn_282
                    have n_282f2 : cn fc (zi 28) (zi 34) (zi 2) (zi 9) f b t gb gm := n_282f2
                    have c_32 : va_at (dC, dI) vwCl (am 32, .inl (ca 20, 52480, .inl gb)) H := c_32
                    have k_gb : ok20 X (am 32) 52480 (-2147483648) (2147483647) gb := k_gb
                    have c_33 : va_at (dC, dI) vwCl (am 33, .inl (ca 20, 6560, .inl gm)) H := c_33
                    have k_gm : ok20 X (am 33) 6560 (0) (8) gm := k_gm
                    refine lv_iload hx hb dX12_counts_202 (lv_at hl 0 rfl) ?_
                    refine lv_aload_n hx hb dX12_counts_204 rfl (lv_at hl 7 rfl) ?_
                    refine iz_get (D := (dC, dI)) (ci := 12) (v := .ref (am 33)) (C := RX12) (T := TX12) (N := 49) hx hb hts hin hown hK hO rfl 33 (by decide) hL93 (fun _ h9 => h9) rfl dX12_counts_205 ?_
                    refine lv_iload hx hb dX12_counts_208 (lv_at hl 2 rfl) ?_
                    refine iz_iald hx hb hK 0 c_33 rfl (by omega) (by decide) dX12_counts_210 ?_
                    obtain ⟨v_283a, v_283b, v_283c⟩ := k_gm z_253 (by omega)
                    clear v_283c
                    obtain ⟨v_283, ev_283⟩ : ∃ z9 : Int, ge1 gm z_253 = z9 := ⟨_, rfl⟩
                    rw [ev_283] at v_283a v_283b ⊢
                    refine iz_ge (tgt := 268) hx hb dX12_counts_211 (by decide) (by unfold rg2; omega) (fun br_284 => ?_) (fun br_284 => ?_)
                    · refine lv_iinc (v := kz (q + 1)) (lv' := [(6, .int (kz (q + 1))), (10, .int (kz k)), (9, .int (kz (v_260 + 0))), (8, .int (kz z_253)), (7, .int (kz z_247)), (5, .int (kz g1)), (4, .int (kz z_3)), (0, .ref o), (1, .int (kz f)), (2, .int (kz b)), (3, .int (kz t))]) hx hb dX12_counts_268 hl (k := 4) rfl (kz_add q 1) (by decide) rfl (fun ls hl => ?_)
                      refine lv_goto (tgt := 82) hx hb dX12_counts_271 (by decide) ?_
                      exact ihn_241 (n_241 - 1) (by omega) (gb, gm) (q + 1) _ _ _ ⟨by omega, by omega, n_282f2, by omega, lv_sub hl [0, 5, 6, 7, 8, 9, 10] rfl, hI, hO, hS, c_3, c_4, c_5, c_10, c_11, c_12, c_13, c_17, c_27, c_29, c_30, c_32, c_33, c_44, k_gb, k_gm⟩
                    · refine lv_aload_n hx hb dX12_counts_214 rfl (lv_at hl 7 rfl) ?_
                      refine lv_iload hx hb dX12_counts_215 (lv_at hl 6 rfl) ?_
                      refine lv_iload hx hb dX12_counts_217 (lv_at hl 1 rfl) ?_
                      refine lv_aload_n hx hb dX12_counts_219 rfl (lv_at hl 7 rfl) ?_
                      refine iz_get (D := (dC, dI)) (ci := 12) (v := .ref (am 32)) (C := RX12) (T := TX12) (N := 49) hx hb hts hin hown hK hO rfl 32 (by decide) hL90 (fun _ h9 => h9) rfl dX12_counts_220 ?_
                      refine lv_bipush (v := kz 8) hx hb dX12_counts_223 (by decide) ?_
                      refine lv_iload hx hb dX12_counts_225 (lv_at hl 2 rfl) ?_
                      refine iz_imul hx hb dX12_counts_227 ?_
                      refine lv_iload hx hb dX12_counts_228 (lv_at hl 0 rfl) ?_
                      refine iz_iadd hx hb dX12_counts_230 ?_
                      refine iz_iald hx hb hK 0 c_32 rfl (by omega) (by decide) dX12_counts_231 ?_
                      obtain ⟨v_285a, v_285b, v_285c⟩ := k_gb ((8 * z_253) + k) (by omega)
                      clear v_285c
                      obtain ⟨v_285, ev_285⟩ : ∃ z9 : Int, ge1 gb ((8 * z_253) + k) = z9 := ⟨_, rfl⟩
                      rw [ev_285] at v_285a v_285b ⊢
                      refine vp_callSi (va_Run.run (va_runS (As := [.int (kz v_285)]) (rest := [.int (kz (v_260 + 0)), .int (kz z_3), .ref o]) ⟨hx, hb, hml, hown, hts⟩ (m_costOf l v_285) (va_cwS 1 hts gX12_counts_X12_costOf rfl rfl rfl (by decide +kernel) ⟨Nat.le_of_ble_eq_true rfl, Nat.le_of_ble_eq_true rfl⟩) ⟨fun a U g mk q => q, fun U hU hW => ⟨rfl, trivial⟩⟩ rfl rfl hl.1 rfl (lv_room (Nat.le_of_ble_eq_true rfl)) dX12_counts_232 ⟨Nat.le_of_ble_eq_true rfl, Nat.le_of_ble_eq_true rfl⟩)) (fun r_287 hw_286 => ?_)
                      obtain ⟨z_288, z_288a, z_288b, rfl⟩ := kz_ex r_287
                      refine iz_iadd hx hb dX12_counts_235 ?_
                      refine lv_bipush (v := kz 15) hx hb dX12_counts_236 (by decide) ?_
                      refine lv_ishl hx hb dX12_counts_238 ?_
                      refine iz_any (fun z_289 z_289a z_289b z_289e => ?_)
                      refine lv_sipush (v := kz 16384) hx hb dX12_counts_239 (by decide) ?_
                      refine lv_ior hx hb dX12_counts_242 ?_
                      refine iz_any (fun z_290 z_290a z_290b z_290e => ?_)
                      refine lv_iload hx hb dX12_counts_243 (lv_at hl 4 rfl) ?_
                      refine lv_iconst (v := kz 1) hx hb dX12_counts_245 rfl ?_
                      refine iz_iadd hx hb dX12_counts_246 ?_
                      refine lv_bipush (v := kz 9) hx hb dX12_counts_247 (by decide) ?_
                      refine lv_ishl hx hb dX12_counts_249 ?_
                      refine iz_any (fun z_291 z_291a z_291b z_291e => ?_)
                      refine lv_ior hx hb dX12_counts_250 ?_
                      refine iz_any (fun z_292 z_292a z_292b z_292e => ?_)
                      refine lv_iload hx hb dX12_counts_251 (lv_at hl 5 rfl) ?_
                      refine lv_iconst (v := kz 3) hx hb dX12_counts_253 rfl ?_
                      refine lv_ishl hx hb dX12_counts_254 ?_
                      refine iz_any (fun z_293 z_293a z_293b z_293e => ?_)
                      refine lv_ior hx hb dX12_counts_255 ?_
                      refine iz_any (fun z_294 z_294a z_294b z_294e => ?_)
                      refine lv_iload hx hb dX12_counts_256 (lv_at hl 0 rfl) ?_
                      refine lv_ior hx hb dX12_counts_258 ?_
                      refine iz_any (fun z_295 z_295a z_295b z_295e => ?_)
                      refine va_callv (va_runV (As := [.int (kz z_3), .int (kz z_295)]) (rest := []) ⟨hx, hb, hml, hown, hts⟩ (m_keeps l dC dI ca A X o am zi zl (cup (cup fc 32 gb) 33 gm) hM hz ⟨k_4, k_5, k_11, k_12, k_13, k_29, k_gb, k_gm, k_44⟩ z_3 z_295 (by omega) (by omega)) (cwV 2 hts gX12_counts_X12_keeps rfl rfl rfl (by decide +kernel) ⟨Nat.le_of_ble_eq_true rfl, Nat.le_of_ble_eq_true rfl⟩) ⟨fun a U g mk q => by obtain ⟨q0, qK, qI⟩ := q; exact ⟨q0, va_K.moved (u := U) (U := U.calling g mk a) (Vm.Alike.refl U.vm) qK, qI⟩, va_recv hK (at_P hO) (ci := 12) (q0 := 0) rfl rfl, fun U hU hW => ⟨rfl, va_K.moved hW.alike hK, by rw [hU]; exact ⟨⟨hI, hO⟩, c_3, c_4, c_5, c_10, c_11, c_12, c_13, c_17, c_27, c_29, c_30, c_32, c_33, c_44⟩⟩⟩ rfl rfl hl.1 rfl (lv_room (Nat.le_of_ble_eq_true rfl)) dX12_counts_259 ⟨Nat.le_of_ble_eq_true rfl, Nat.le_of_ble_eq_true rfl⟩) hS (fun q _ h => h) (fun q h => h) (fun u t9 H locs ht hvm hw_296 hB hz1 hk1 hS => ?_)
                      obtain ⟨-, ⟨hI, hO⟩, c_3, c_4, c_5, c_10, c_11, c_12, c_13, c_17, c_27, c_29, c_30, c_32, c_33, c_44⟩ := hB
                      rw [ht] at hI hO c_3 c_4 c_5 c_10 c_11 c_12 c_13 c_17 c_27 c_29 c_30 c_32 c_33 c_44
                      clear ht hvm hz1 hk1
                      have he_z_295 := enc_bits z_289e z_290e z_291e z_292e z_293e z_294e z_295e
                      have hg_z_295 : ge1 gm z_253 = ge1 (fc 33) z_253 := n_282f2.2.1 z_253 (by omega) (by unfold pl; omega)
                      have hv_z_295 : ev1 fc (zi 28) (zi 34) (zi 2) (zi 9) f b t z_295 := (ev1_in (gm := gm) ⟨by omega, by omega, hw_243, hw_245⟩ (show z_253 = pl g1 (nb fc q) (ds fc f b t q) by unfold pl nb; rw [if_neg (show ¬ q < 0 by omega), ev_250, ← ez_247]; omega) hg_z_295 (by omega) (enc_q he_z_295 (by omega) (by omega) (by omega)) (enc_g he_z_295 (by omega) (by omega)) (enc_w he_z_295 (by omega)) (by omega))
                      obtain ⟨gb_298, gm_299, rfl, k_gb_298, k_gm_299, x_gb_298⟩ := hw_296
                      have c_3 : va_at (dC, dI) vwCl (am 3, .inl (ca 21, 320, .inl (fc 3))) H := c_3
                      have c_4 : va_at (dC, dI) vwCl (am 4, .inl (ca 20, 40, .inl (fc 4))) H := c_4
                      have c_5 : va_at (dC, dI) vwCl (am 5, .inl (ca 20, 40, .inl (fc 5))) H := c_5
                      have c_10 : va_at (dC, dI) vwCl (am 10, .inl (ca 21, 240, .inl (fc 10))) H := c_10
                      have c_11 : va_at (dC, dI) vwCl (am 11, .inl (ca 20, 24, .inl (fc 11))) H := c_11
                      have c_12 : va_at (dC, dI) vwCl (am 12, .inl (ca 20, 24, .inl (fc 12))) H := c_12
                      have c_13 : va_at (dC, dI) vwCl (am 13, .inl (ca 20, 24, .inl (fc 13))) H := c_13
                      have c_17 : va_at (dC, dI) vwCl (am 17, .inl (ca 22, 36, .inl (fc 17))) H := c_17
                      have c_27 : va_at (dC, dI) vwCl (am 27, .inl (ca 21, 40, .inl (fc 27))) H := c_27
                      have c_29 : va_at (dC, dI) vwCl (am 29, .inl (ca 20, 1600, .inl (fc 29))) H := c_29
                      have c_30 : va_at (dC, dI) vwCl (am 30, .inl (ca 22, 6560, .inl (fc 30))) H := c_30
                      have c_32 : va_at (dC, dI) vwCl (am 32, .inl (ca 20, 52480, .inl gb_298)) H := c_32
                      have c_33 : va_at (dC, dI) vwCl (am 33, .inl (ca 20, 6560, .inl gm_299)) H := c_33
                      have c_44 : va_at (dC, dI) vwCl (am 44, .inl (ca 20, 40, .inl (fc 44))) H := c_44
                      have cn_gb_298 : cn fc (zi 28) (zi 34) (zi 2) (zi 9) f b t gb_298 gm_299 := cn_keep z_3h (by omega) n_282f2 hv_z_295 x_gb_298
                      refine lv_iinc (v := kz (k + 1)) (lv' := [(10, .int (kz (k + 1))), (9, .int (kz (v_260 + 0))), (8, .int (kz z_253)), (7, .int (kz z_247)), (6, .int (kz q)), (5, .int (kz g1)), (4, .int (kz z_3)), (0, .ref o), (1, .int (kz f)), (2, .int (kz b)), (3, .int (kz t))]) hx hb dX12_counts_262 hl (k := 0) rfl (kz_add k 1) (by decide) rfl (fun ls hl => ?_)
                      refine lv_goto (tgt := 202) hx hb dX12_counts_265 (by decide) ?_
                      exact ihn_282 (n_282 - 1) (by omega) (gb_298, gm_299) (k + 1) _ _ _ ⟨by omega, by omega, cn_gb_298, by omega, lv_sub hl [0, 1, 2, 3, 4, 5, 6, 7, 8, 9, 10] rfl, hI, hO, hS, c_3, c_4, c_5, c_10, c_11, c_12, c_13, c_17, c_27, c_29, c_30, c_32, c_33, c_44, k_gb_298, k_gm_299⟩
                · refine lv_iconst (v := kz 0) hx hb dX12_counts_132 rfl ?_
                  refine lv_goto (tgt := 143) hx hb dX12_counts_133 (by decide) ?_
                  refine lv_iload hx hb dX12_counts_143 (lv_at hl 0 rfl) ?_
                  refine vp_callSi (va_Run.run (va_runS (As := [.int (kz g1), .int (kz 0), .int (kz z_247)]) (rest := []) ⟨hx, hb, hml, hown, hts⟩ (m_placeOf l g1 0 z_247) (va_cwS 3 hts gX12_counts_X12_placeOf rfl rfl rfl (by decide +kernel) ⟨Nat.le_of_ble_eq_true rfl, Nat.le_of_ble_eq_true rfl⟩) ⟨fun a U g mk q => q, fun U hU hW => ⟨rfl, trivial⟩⟩ rfl rfl hl.1 rfl (lv_room (Nat.le_of_ble_eq_true rfl)) dX12_counts_145 ⟨Nat.le_of_ble_eq_true rfl, Nat.le_of_ble_eq_true rfl⟩)) (fun r_301 hw_300 => ?_)
                  obtain ⟨z_302, rfl, z_302h⟩ := hw_300
                  refine lv_istore (lv' := [(8, .int (kz z_302)), (7, .int (kz z_247)), (6, .int (kz q)), (5, .int (kz g1)), (4, .int (kz z_3)), (0, .ref o), (1, .int (kz f)), (2, .int (kz b)), (3, .int (kz t))]) hx hb dX12_counts_148 hl (by decide) rfl (fun ls hl => ?_)
                  refine lv_aload_n hx hb dX12_counts_150 rfl (lv_at hl 5 rfl) ?_
                  refine iz_get (D := (dC, dI)) (ci := 12) (v := .ref (am 31)) (C := RX12) (T := TX12) (N := 49) hx hb hts hin hown hK hO rfl 31 (by decide) hL85 (fun _ h9 => h9) rfl dX12_counts_151 ?_
                  refine lv_iload hx hb dX12_counts_154 (lv_at hl 4 rfl) ?_
                  refine lv_aload_n hx hb dX12_counts_156 rfl (lv_at hl 5 rfl) ?_
                  refine iz_get (D := (dC, dI)) (ci := 12) (v := .ref (am 31)) (C := RX12) (T := TX12) (N := 49) hx hb hts hin hown hK hO rfl 31 (by decide) hL85 (fun _ h9 => h9) rfl dX12_counts_157 ?_
                  refine lv_iload hx hb dX12_counts_160 (lv_at hl 4 rfl) ?_
                  obtain ⟨f31_303, c_f31_303⟩ := iv_o23 hI g31
                  refine iz_lald hx hb hK 3 c_f31_303 rfl (by omega) (by decide) dX12_counts_162 ?_
                  refine lv_topl (fun y_304 ey_304 => ?_)
                  refine lv_aload_n hx hb dX12_counts_163 rfl (lv_at hl 5 rfl) ?_
                  refine iz_get (D := (dC, dI)) (ci := 12) (v := .ref (am 31)) (C := RX12) (T := TX12) (N := 49) hx hb hts hin hown hK hO rfl 31 (by decide) hL85 (fun _ h9 => h9) rfl dX12_counts_164 ?_
                  refine lv_iload hx hb dX12_counts_167 (lv_at hl 0 rfl) ?_
                  refine iz_lald hx hb hK 3 c_f31_303 rfl (by omega) (by decide) dX12_counts_169 ?_
                  refine lv_topl (fun y_305 ey_305 => ?_)
                  refine vp_callSl (va_Run.run (va_runS (As := [.long y_304, .long y_305]) (rest := [.int (kz z_3), .ref (am 31)]) ⟨hx, hb, hml, hown, hts⟩ (m_plus l y_304 y_305) (va_cwS 2 hts gX12_counts_X12_plus rfl rfl rfl (by decide +kernel) ⟨Nat.le_of_ble_eq_true rfl, Nat.le_of_ble_eq_true rfl⟩) ⟨fun a U g mk q => q, fun U hU hW => ⟨rfl, trivial⟩⟩ rfl rfl hl.1 rfl (lv_room (Nat.le_of_ble_eq_true rfl)) dX12_counts_170 ⟨Nat.le_of_ble_eq_true rfl, Nat.le_of_ble_eq_true rfl⟩)) (fun r_307 hw_306 => ?_)
                  refine iz_last hx hb hK 3 c_f31_303 hS (iv_A hI g31 (by decide)) rfl (by omega) (by decide) dX12_counts_173 (fun H locs c9 oq hS => ?_)
                  have hI := iv_s23 hI g31 c9 oq
                  have hO := hO.kept (oq _ (iv_ne0 g31 hM.2.1 (by decide)).symm)
                  have c_3 := c_3.kept (oq _ (iv_ne g3 g31 (by decide)))
                  have c_4 := c_4.kept (oq _ (iv_ne g4 g31 (by decide)))
                  have c_5 := c_5.kept (oq _ (iv_ne g5 g31 (by decide)))
                  have c_10 := c_10.kept (oq _ (iv_ne g10 g31 (by decide)))
                  have c_11 := c_11.kept (oq _ (iv_ne g11 g31 (by decide)))
                  have c_12 := c_12.kept (oq _ (iv_ne g12 g31 (by decide)))
                  have c_13 := c_13.kept (oq _ (iv_ne g13 g31 (by decide)))
                  have c_17 := c_17.kept (oq _ (iv_ne g17 g31 (by decide)))
                  have c_27 := c_27.kept (oq _ (iv_ne g27 g31 (by decide)))
                  have c_29 := c_29.kept (oq _ (iv_ne g29 g31 (by decide)))
                  have c_30 := c_30.kept (oq _ (iv_ne g30 g31 (by decide)))
                  have c_32 := c_32.kept (oq _ (iv_ne g32 g31 (by decide)))
                  have c_33 := c_33.kept (oq _ (iv_ne g33 g31 (by decide)))
                  have c_44 := c_44.kept (oq _ (iv_ne g44 g31 (by decide)))
                  clear oq c9
                  refine lv_aload_n hx hb dX12_counts_174 rfl (lv_at hl 5 rfl) ?_
                  refine iz_get (D := (dC, dI)) (ci := 12) (v := .ref (am 7)) (C := RX12) (T := TX12) (N := 49) hx hb hts hin hown hK hO rfl 7 (by decide) hL26 (fun _ h9 => h9) rfl dX12_counts_175 ?_
                  refine lv_iload_n hx hb dX12_counts_178 rfl (lv_at hl 6 rfl) ?_
                  obtain ⟨f7_308, c_f7_308, k_f7_308⟩ := iv_o20 hI g7
                  refine iz_iald hx hb hK 0 c_f7_308 rfl (by omega) (by decide) dX12_counts_179 ?_
                  obtain ⟨v_309a, v_309b, v_309c⟩ := k_f7_308 f (by omega)
                  clear v_309c
                  obtain ⟨v_309, ev_309⟩ : ∃ z9 : Int, ge1 f7_308 f = z9 := ⟨_, rfl⟩
                  rw [ev_309] at v_309a v_309b ⊢
                  refine lv_iload hx hb dX12_counts_180 (lv_at hl 2 rfl) ?_
                  refine iz_gez (tgt := 189) hx hb dX12_counts_182 (by decide) (by unfold rg2; omega) (fun br_310 => ?_) (fun br_310 => ?_)
                  · refine lv_aload_n hx hb dX12_counts_189 rfl (lv_at hl 5 rfl) ?_
                    refine iz_get (D := (dC, dI)) (ci := 12) (v := .ref (am 14)) (C := RX12) (T := TX12) (N := 49) hx hb hts hin hown hK hO rfl 14 (by decide) hL45 (fun _ h9 => h9) rfl dX12_counts_190 ?_
                    refine lv_iload hx hb dX12_counts_193 (lv_at hl 2 rfl) ?_
                    obtain ⟨f14_311, c_f14_311, k_f14_311⟩ := iv_o20 hI g14
                    refine iz_iald hx hb hK 0 c_f14_311 rfl (by omega) (by decide) dX12_counts_195 ?_
                    obtain ⟨v_312a, v_312b, v_312c⟩ := k_f14_311 q (by omega)
                    clear v_312c
                    obtain ⟨v_312, ev_312⟩ : ∃ z9 : Int, ge1 f14_311 q = z9 := ⟨_, rfl⟩
                    rw [ev_312] at v_312a v_312b ⊢
                    refine iz_iadd hx hb dX12_counts_196 ?_
                    refine lv_istore (lv' := [(9, .int (kz (v_309 + v_312))), (8, .int (kz z_302)), (7, .int (kz z_247)), (6, .int (kz q)), (5, .int (kz g1)), (4, .int (kz z_3)), (0, .ref o), (1, .int (kz f)), (2, .int (kz b)), (3, .int (kz t))]) hx hb dX12_counts_197 hl (by decide) rfl (fun ls hl => ?_)
                    refine lv_iconst (v := kz 0) hx hb dX12_counts_199 rfl ?_
                    refine lv_istore (lv' := [(10, .int (kz 0)), (9, .int (kz (v_309 + v_312))), (8, .int (kz z_302)), (7, .int (kz z_247)), (6, .int (kz q)), (5, .int (kz g1)), (4, .int (kz z_3)), (0, .ref o), (1, .int (kz f)), (2, .int (kz b)), (3, .int (kz t))]) hx hb dX12_counts_200 hl (by decide) rfl (fun ls hl => ?_)
                    refine iz_loopA1 (α := (Nat → Int32) × (Nat → Int32)) (P := fun N9 fn9 k H locs ls => (0 ≤ k) ∧ (k ≤ 8) ∧ (cn fc (zi 28) (zi 34) (zi 2) (zi 9) f b t fn9.1 fn9.2) ∧ 8 - k ≤ (N9 : Int) ∧ lv_has ls 11 [(10, .int (kz k)), (9, .int (kz (v_309 + v_312))), (8, .int (kz z_302)), (7, .int (kz z_247)), (6, .int (kz q)), (5, .int (kz g1)), (4, .int (kz z_3)), (0, .ref o), (1, .int (kz f)), (2, .int (kz b)), (3, .int (kz t))] ∧ iv (dC, dI) ca A X H ∧ va_at (dC, dI) vwCl (o, .inr (12, mM am zi zl)) H ∧ va_S A s.heap H locs ∧ va_at (dC, dI) vwCl (am 3, .inl (ca 21, 320, .inl (fc 3))) H ∧ va_at (dC, dI) vwCl (am 4, .inl (ca 20, 40, .inl (fc 4))) H ∧ va_at (dC, dI) vwCl (am 5, .inl (ca 20, 40, .inl (fc 5))) H ∧ va_at (dC, dI) vwCl (am 10, .inl (ca 21, 240, .inl (fc 10))) H ∧ va_at (dC, dI) vwCl (am 11, .inl (ca 20, 24, .inl (fc 11))) H ∧ va_at (dC, dI) vwCl (am 12, .inl (ca 20, 24, .inl (fc 12))) H ∧ va_at (dC, dI) vwCl (am 13, .inl (ca 20, 24, .inl (fc 13))) H ∧ va_at (dC, dI) vwCl (am 17, .inl (ca 22, 36, .inl (fc 17))) H ∧ va_at (dC, dI) vwCl (am 27, .inl (ca 21, 40, .inl (fc 27))) H ∧ va_at (dC, dI) vwCl (am 29, .inl (ca 20, 1600, .inl (fc 29))) H ∧ va_at (dC, dI) vwCl (am 30, .inl (ca 22, 6560, .inl (fc 30))) H ∧ va_at (dC, dI) vwCl (am 32, .inl (ca 20, 52480, .inl fn9.1)) H ∧ va_at (dC, dI) vwCl (am 33, .inl (ca 20, 6560, .inl fn9.2)) H ∧ va_at (dC, dI) vwCl (am 44, .inl (ca 20, 40, .inl (fc 44))) H ∧ ok20 X (am 32) 52480 (-2147483648) (2147483647) fn9.1 ∧ ok20 X (am 33) 6560 (0) (8) fn9.2) 100000 (gb, gm) (x0 := 0) ?_ ⟨by omega, by omega, n_241f2, by omega, lv_sub hl [0, 1, 2, 3, 4, 5, 6, 7, 8, 9, 10] rfl, hI, hO, hS, c_3, c_4, c_5, c_10, c_11, c_12, c_13, c_17, c_27, c_29, c_30, c_32, c_33, c_44, k_gb, k_gm⟩
                    intro n_313 ⟨gb, gm⟩ k H locs ls ⟨n_313f0, n_313f1, n_313f2, n_313f3, hl, hI, hO, hS, c_3, c_4, c_5, c_10, c_11, c_12, c_13, c_17, c_27, c_29, c_30, c_32, c_33, c_44, k_gb, k_gm⟩ ihn_313
                    have n_313f2 : cn fc (zi 28) (zi 34) (zi 2) (zi 9) f b t gb gm := n_313f2
                    have c_32 : va_at (dC, dI) vwCl (am 32, .inl (ca 20, 52480, .inl gb)) H := c_32
                    have k_gb : ok20 X (am 32) 52480 (-2147483648) (2147483647) gb := k_gb
                    have c_33 : va_at (dC, dI) vwCl (am 33, .inl (ca 20, 6560, .inl gm)) H := c_33
                    have k_gm : ok20 X (am 33) 6560 (0) (8) gm := k_gm
                    refine lv_iload hx hb dX12_counts_202 (lv_at hl 0 rfl) ?_
                    refine lv_aload_n hx hb dX12_counts_204 rfl (lv_at hl 7 rfl) ?_
                    refine iz_get (D := (dC, dI)) (ci := 12) (v := .ref (am 33)) (C := RX12) (T := TX12) (N := 49) hx hb hts hin hown hK hO rfl 33 (by decide) hL93 (fun _ h9 => h9) rfl dX12_counts_205 ?_
                    refine lv_iload hx hb dX12_counts_208 (lv_at hl 2 rfl) ?_
                    refine iz_iald hx hb hK 0 c_33 rfl (by omega) (by decide) dX12_counts_210 ?_
                    obtain ⟨v_314a, v_314b, v_314c⟩ := k_gm z_302 (by omega)
                    clear v_314c
                    obtain ⟨v_314, ev_314⟩ : ∃ z9 : Int, ge1 gm z_302 = z9 := ⟨_, rfl⟩
                    rw [ev_314] at v_314a v_314b ⊢
                    refine iz_ge (tgt := 268) hx hb dX12_counts_211 (by decide) (by unfold rg2; omega) (fun br_315 => ?_) (fun br_315 => ?_)
                    · refine lv_iinc (v := kz (q + 1)) (lv' := [(6, .int (kz (q + 1))), (10, .int (kz k)), (9, .int (kz (v_309 + v_312))), (8, .int (kz z_302)), (7, .int (kz z_247)), (5, .int (kz g1)), (4, .int (kz z_3)), (0, .ref o), (1, .int (kz f)), (2, .int (kz b)), (3, .int (kz t))]) hx hb dX12_counts_268 hl (k := 4) rfl (kz_add q 1) (by decide) rfl (fun ls hl => ?_)
                      refine lv_goto (tgt := 82) hx hb dX12_counts_271 (by decide) ?_
                      exact ihn_241 (n_241 - 1) (by omega) (gb, gm) (q + 1) _ _ _ ⟨by omega, by omega, n_313f2, by omega, lv_sub hl [0, 5, 6, 7, 8, 9, 10] rfl, hI, hO, hS, c_3, c_4, c_5, c_10, c_11, c_12, c_13, c_17, c_27, c_29, c_30, c_32, c_33, c_44, k_gb, k_gm⟩
                    · refine lv_aload_n hx hb dX12_counts_214 rfl (lv_at hl 7 rfl) ?_
                      refine lv_iload hx hb dX12_counts_215 (lv_at hl 6 rfl) ?_
                      refine lv_iload hx hb dX12_counts_217 (lv_at hl 1 rfl) ?_
                      refine lv_aload_n hx hb dX12_counts_219 rfl (lv_at hl 7 rfl) ?_
                      refine iz_get (D := (dC, dI)) (ci := 12) (v := .ref (am 32)) (C := RX12) (T := TX12) (N := 49) hx hb hts hin hown hK hO rfl 32 (by decide) hL90 (fun _ h9 => h9) rfl dX12_counts_220 ?_
                      refine lv_bipush (v := kz 8) hx hb dX12_counts_223 (by decide) ?_
                      refine lv_iload hx hb dX12_counts_225 (lv_at hl 2 rfl) ?_
                      refine iz_imul hx hb dX12_counts_227 ?_
                      refine lv_iload hx hb dX12_counts_228 (lv_at hl 0 rfl) ?_
                      refine iz_iadd hx hb dX12_counts_230 ?_
                      refine iz_iald hx hb hK 0 c_32 rfl (by omega) (by decide) dX12_counts_231 ?_
                      obtain ⟨v_316a, v_316b, v_316c⟩ := k_gb ((8 * z_302) + k) (by omega)
                      clear v_316c
                      obtain ⟨v_316, ev_316⟩ : ∃ z9 : Int, ge1 gb ((8 * z_302) + k) = z9 := ⟨_, rfl⟩
                      rw [ev_316] at v_316a v_316b ⊢
                      refine vp_callSi (va_Run.run (va_runS (As := [.int (kz v_316)]) (rest := [.int (kz (v_309 + v_312)), .int (kz z_3), .ref o]) ⟨hx, hb, hml, hown, hts⟩ (m_costOf l v_316) (va_cwS 1 hts gX12_counts_X12_costOf rfl rfl rfl (by decide +kernel) ⟨Nat.le_of_ble_eq_true rfl, Nat.le_of_ble_eq_true rfl⟩) ⟨fun a U g mk q => q, fun U hU hW => ⟨rfl, trivial⟩⟩ rfl rfl hl.1 rfl (lv_room (Nat.le_of_ble_eq_true rfl)) dX12_counts_232 ⟨Nat.le_of_ble_eq_true rfl, Nat.le_of_ble_eq_true rfl⟩)) (fun r_318 hw_317 => ?_)
                      obtain ⟨z_319, z_319a, z_319b, rfl⟩ := kz_ex r_318
                      refine iz_iadd hx hb dX12_counts_235 ?_
                      refine lv_bipush (v := kz 15) hx hb dX12_counts_236 (by decide) ?_
                      refine lv_ishl hx hb dX12_counts_238 ?_
                      refine iz_any (fun z_320 z_320a z_320b z_320e => ?_)
                      refine lv_sipush (v := kz 16384) hx hb dX12_counts_239 (by decide) ?_
                      refine lv_ior hx hb dX12_counts_242 ?_
                      refine iz_any (fun z_321 z_321a z_321b z_321e => ?_)
                      refine lv_iload hx hb dX12_counts_243 (lv_at hl 4 rfl) ?_
                      refine lv_iconst (v := kz 1) hx hb dX12_counts_245 rfl ?_
                      refine iz_iadd hx hb dX12_counts_246 ?_
                      refine lv_bipush (v := kz 9) hx hb dX12_counts_247 (by decide) ?_
                      refine lv_ishl hx hb dX12_counts_249 ?_
                      refine iz_any (fun z_322 z_322a z_322b z_322e => ?_)
                      refine lv_ior hx hb dX12_counts_250 ?_
                      refine iz_any (fun z_323 z_323a z_323b z_323e => ?_)
                      refine lv_iload hx hb dX12_counts_251 (lv_at hl 5 rfl) ?_
                      refine lv_iconst (v := kz 3) hx hb dX12_counts_253 rfl ?_
                      refine lv_ishl hx hb dX12_counts_254 ?_
                      refine iz_any (fun z_324 z_324a z_324b z_324e => ?_)
                      refine lv_ior hx hb dX12_counts_255 ?_
                      refine iz_any (fun z_325 z_325a z_325b z_325e => ?_)
                      refine lv_iload hx hb dX12_counts_256 (lv_at hl 0 rfl) ?_
                      refine lv_ior hx hb dX12_counts_258 ?_
                      refine iz_any (fun z_326 z_326a z_326b z_326e => ?_)
                      refine va_callv (va_runV (As := [.int (kz z_3), .int (kz z_326)]) (rest := []) ⟨hx, hb, hml, hown, hts⟩ (m_keeps l dC dI ca A X o am zi zl (cup (cup fc 32 gb) 33 gm) hM hz ⟨k_4, k_5, k_11, k_12, k_13, k_29, k_gb, k_gm, k_44⟩ z_3 z_326 (by omega) (by omega)) (cwV 2 hts gX12_counts_X12_keeps rfl rfl rfl (by decide +kernel) ⟨Nat.le_of_ble_eq_true rfl, Nat.le_of_ble_eq_true rfl⟩) ⟨fun a U g mk q => by obtain ⟨q0, qK, qI⟩ := q; exact ⟨q0, va_K.moved (u := U) (U := U.calling g mk a) (Vm.Alike.refl U.vm) qK, qI⟩, va_recv hK (at_P hO) (ci := 12) (q0 := 0) rfl rfl, fun U hU hW => ⟨rfl, va_K.moved hW.alike hK, by rw [hU]; exact ⟨⟨hI, hO⟩, c_3, c_4, c_5, c_10, c_11, c_12, c_13, c_17, c_27, c_29, c_30, c_32, c_33, c_44⟩⟩⟩ rfl rfl hl.1 rfl (lv_room (Nat.le_of_ble_eq_true rfl)) dX12_counts_259 ⟨Nat.le_of_ble_eq_true rfl, Nat.le_of_ble_eq_true rfl⟩) hS (fun q _ h => h) (fun q h => h) (fun u t9 H locs ht hvm hw_327 hB hz1 hk1 hS => ?_)
                      obtain ⟨-, ⟨hI, hO⟩, c_3, c_4, c_5, c_10, c_11, c_12, c_13, c_17, c_27, c_29, c_30, c_32, c_33, c_44⟩ := hB
                      rw [ht] at hI hO c_3 c_4 c_5 c_10 c_11 c_12 c_13 c_17 c_27 c_29 c_30 c_32 c_33 c_44
                      clear ht hvm hz1 hk1
                      have he_z_326 := enc_bits z_320e z_321e z_322e z_323e z_324e z_325e z_326e
                      have hg_z_326 : ge1 gm z_302 = ge1 (fc 33) z_302 := n_313f2.2.1 z_302 (by omega) (by unfold pl; omega)
                      have hv_z_326 : ev1 fc (zi 28) (zi 34) (zi 2) (zi 9) f b t z_326 := (ev1_in (gm := gm) ⟨by omega, by omega, hw_243, hw_245⟩ (show z_302 = pl g1 (nb fc q) (ds fc f b t q) by unfold pl nb; rw [if_pos (show q < 0 by omega), ← ez_247]; omega) hg_z_326 (by omega) (enc_q he_z_326 (by omega) (by omega) (by omega)) (enc_g he_z_326 (by omega) (by omega)) (enc_w he_z_326 (by omega)) (by omega))
                      obtain ⟨gb_329, gm_330, rfl, k_gb_329, k_gm_330, x_gb_329⟩ := hw_327
                      have c_3 : va_at (dC, dI) vwCl (am 3, .inl (ca 21, 320, .inl (fc 3))) H := c_3
                      have c_4 : va_at (dC, dI) vwCl (am 4, .inl (ca 20, 40, .inl (fc 4))) H := c_4
                      have c_5 : va_at (dC, dI) vwCl (am 5, .inl (ca 20, 40, .inl (fc 5))) H := c_5
                      have c_10 : va_at (dC, dI) vwCl (am 10, .inl (ca 21, 240, .inl (fc 10))) H := c_10
                      have c_11 : va_at (dC, dI) vwCl (am 11, .inl (ca 20, 24, .inl (fc 11))) H := c_11
                      have c_12 : va_at (dC, dI) vwCl (am 12, .inl (ca 20, 24, .inl (fc 12))) H := c_12
                      have c_13 : va_at (dC, dI) vwCl (am 13, .inl (ca 20, 24, .inl (fc 13))) H := c_13
                      have c_17 : va_at (dC, dI) vwCl (am 17, .inl (ca 22, 36, .inl (fc 17))) H := c_17
                      have c_27 : va_at (dC, dI) vwCl (am 27, .inl (ca 21, 40, .inl (fc 27))) H := c_27
                      have c_29 : va_at (dC, dI) vwCl (am 29, .inl (ca 20, 1600, .inl (fc 29))) H := c_29
                      have c_30 : va_at (dC, dI) vwCl (am 30, .inl (ca 22, 6560, .inl (fc 30))) H := c_30
                      have c_32 : va_at (dC, dI) vwCl (am 32, .inl (ca 20, 52480, .inl gb_329)) H := c_32
                      have c_33 : va_at (dC, dI) vwCl (am 33, .inl (ca 20, 6560, .inl gm_330)) H := c_33
                      have c_44 : va_at (dC, dI) vwCl (am 44, .inl (ca 20, 40, .inl (fc 44))) H := c_44
                      have cn_gb_329 : cn fc (zi 28) (zi 34) (zi 2) (zi 9) f b t gb_329 gm_330 := cn_keep z_3h (by omega) n_313f2 hv_z_326 x_gb_329
                      refine lv_iinc (v := kz (k + 1)) (lv' := [(10, .int (kz (k + 1))), (9, .int (kz (v_309 + v_312))), (8, .int (kz z_302)), (7, .int (kz z_247)), (6, .int (kz q)), (5, .int (kz g1)), (4, .int (kz z_3)), (0, .ref o), (1, .int (kz f)), (2, .int (kz b)), (3, .int (kz t))]) hx hb dX12_counts_262 hl (k := 0) rfl (kz_add k 1) (by decide) rfl (fun ls hl => ?_)
                      refine lv_goto (tgt := 202) hx hb dX12_counts_265 (by decide) ?_
                      exact ihn_313 (n_313 - 1) (by omega) (gb_329, gm_330) (k + 1) _ _ _ ⟨by omega, by omega, cn_gb_329, by omega, lv_sub hl [0, 1, 2, 3, 4, 5, 6, 7, 8, 9, 10] rfl, hI, hO, hS, c_3, c_4, c_5, c_10, c_11, c_12, c_13, c_17, c_27, c_29, c_30, c_32, c_33, c_44, k_gb_329, k_gm_330⟩
                  · refine lv_iconst (v := kz 0) hx hb dX12_counts_185 rfl ?_
                    refine lv_goto (tgt := 196) hx hb dX12_counts_186 (by decide) ?_
                    refine iz_iadd hx hb dX12_counts_196 ?_
                    refine lv_istore (lv' := [(9, .int (kz (v_309 + 0))), (8, .int (kz z_302)), (7, .int (kz z_247)), (6, .int (kz q)), (5, .int (kz g1)), (4, .int (kz z_3)), (0, .ref o), (1, .int (kz f)), (2, .int (kz b)), (3, .int (kz t))]) hx hb dX12_counts_197 hl (by decide) rfl (fun ls hl => ?_)
                    refine lv_iconst (v := kz 0) hx hb dX12_counts_199 rfl ?_
                    refine lv_istore (lv' := [(10, .int (kz 0)), (9, .int (kz (v_309 + 0))), (8, .int (kz z_302)), (7, .int (kz z_247)), (6, .int (kz q)), (5, .int (kz g1)), (4, .int (kz z_3)), (0, .ref o), (1, .int (kz f)), (2, .int (kz b)), (3, .int (kz t))]) hx hb dX12_counts_200 hl (by decide) rfl (fun ls hl => ?_)
                    refine iz_loopA1 (α := (Nat → Int32) × (Nat → Int32)) (P := fun N9 fn9 k H locs ls => (0 ≤ k) ∧ (k ≤ 8) ∧ (cn fc (zi 28) (zi 34) (zi 2) (zi 9) f b t fn9.1 fn9.2) ∧ 8 - k ≤ (N9 : Int) ∧ lv_has ls 11 [(10, .int (kz k)), (9, .int (kz (v_309 + 0))), (8, .int (kz z_302)), (7, .int (kz z_247)), (6, .int (kz q)), (5, .int (kz g1)), (4, .int (kz z_3)), (0, .ref o), (1, .int (kz f)), (2, .int (kz b)), (3, .int (kz t))] ∧ iv (dC, dI) ca A X H ∧ va_at (dC, dI) vwCl (o, .inr (12, mM am zi zl)) H ∧ va_S A s.heap H locs ∧ va_at (dC, dI) vwCl (am 3, .inl (ca 21, 320, .inl (fc 3))) H ∧ va_at (dC, dI) vwCl (am 4, .inl (ca 20, 40, .inl (fc 4))) H ∧ va_at (dC, dI) vwCl (am 5, .inl (ca 20, 40, .inl (fc 5))) H ∧ va_at (dC, dI) vwCl (am 10, .inl (ca 21, 240, .inl (fc 10))) H ∧ va_at (dC, dI) vwCl (am 11, .inl (ca 20, 24, .inl (fc 11))) H ∧ va_at (dC, dI) vwCl (am 12, .inl (ca 20, 24, .inl (fc 12))) H ∧ va_at (dC, dI) vwCl (am 13, .inl (ca 20, 24, .inl (fc 13))) H ∧ va_at (dC, dI) vwCl (am 17, .inl (ca 22, 36, .inl (fc 17))) H ∧ va_at (dC, dI) vwCl (am 27, .inl (ca 21, 40, .inl (fc 27))) H ∧ va_at (dC, dI) vwCl (am 29, .inl (ca 20, 1600, .inl (fc 29))) H ∧ va_at (dC, dI) vwCl (am 30, .inl (ca 22, 6560, .inl (fc 30))) H ∧ va_at (dC, dI) vwCl (am 32, .inl (ca 20, 52480, .inl fn9.1)) H ∧ va_at (dC, dI) vwCl (am 33, .inl (ca 20, 6560, .inl fn9.2)) H ∧ va_at (dC, dI) vwCl (am 44, .inl (ca 20, 40, .inl (fc 44))) H ∧ ok20 X (am 32) 52480 (-2147483648) (2147483647) fn9.1 ∧ ok20 X (am 33) 6560 (0) (8) fn9.2) 100000 (gb, gm) (x0 := 0) ?_ ⟨by omega, by omega, n_241f2, by omega, lv_sub hl [0, 1, 2, 3, 4, 5, 6, 7, 8, 9, 10] rfl, hI, hO, hS, c_3, c_4, c_5, c_10, c_11, c_12, c_13, c_17, c_27, c_29, c_30, c_32, c_33, c_44, k_gb, k_gm⟩
                    intro n_331 ⟨gb, gm⟩ k H locs ls ⟨n_331f0, n_331f1, n_331f2, n_331f3, hl, hI, hO, hS, c_3, c_4, c_5, c_10, c_11, c_12, c_13, c_17, c_27, c_29, c_30, c_32, c_33, c_44, k_gb, k_gm⟩ ihn_331
                    have n_331f2 : cn fc (zi 28) (zi 34) (zi 2) (zi 9) f b t gb gm := n_331f2
                    have c_32 : va_at (dC, dI) vwCl (am 32, .inl (ca 20, 52480, .inl gb)) H := c_32
                    have k_gb : ok20 X (am 32) 52480 (-2147483648) (2147483647) gb := k_gb
                    have c_33 : va_at (dC, dI) vwCl (am 33, .inl (ca 20, 6560, .inl gm)) H := c_33
                    have k_gm : ok20 X (am 33) 6560 (0) (8) gm := k_gm
                    refine lv_iload hx hb dX12_counts_202 (lv_at hl 0 rfl) ?_
                    refine lv_aload_n hx hb dX12_counts_204 rfl (lv_at hl 7 rfl) ?_
                    refine iz_get (D := (dC, dI)) (ci := 12) (v := .ref (am 33)) (C := RX12) (T := TX12) (N := 49) hx hb hts hin hown hK hO rfl 33 (by decide) hL93 (fun _ h9 => h9) rfl dX12_counts_205 ?_
                    refine lv_iload hx hb dX12_counts_208 (lv_at hl 2 rfl) ?_
                    refine iz_iald hx hb hK 0 c_33 rfl (by omega) (by decide) dX12_counts_210 ?_
                    obtain ⟨v_332a, v_332b, v_332c⟩ := k_gm z_302 (by omega)
                    clear v_332c
                    obtain ⟨v_332, ev_332⟩ : ∃ z9 : Int, ge1 gm z_302 = z9 := ⟨_, rfl⟩
                    rw [ev_332] at v_332a v_332b ⊢
                    refine iz_ge (tgt := 268) hx hb dX12_counts_211 (by decide) (by unfold rg2; omega) (fun br_333 => ?_) (fun br_333 => ?_)
                    · refine lv_iinc (v := kz (q + 1)) (lv' := [(6, .int (kz (q + 1))), (10, .int (kz k)), (9, .int (kz (v_309 + 0))), (8, .int (kz z_302)), (7, .int (kz z_247)), (5, .int (kz g1)), (4, .int (kz z_3)), (0, .ref o), (1, .int (kz f)), (2, .int (kz b)), (3, .int (kz t))]) hx hb dX12_counts_268 hl (k := 4) rfl (kz_add q 1) (by decide) rfl (fun ls hl => ?_)
                      refine lv_goto (tgt := 82) hx hb dX12_counts_271 (by decide) ?_
                      exact ihn_241 (n_241 - 1) (by omega) (gb, gm) (q + 1) _ _ _ ⟨by omega, by omega, n_331f2, by omega, lv_sub hl [0, 5, 6, 7, 8, 9, 10] rfl, hI, hO, hS, c_3, c_4, c_5, c_10, c_11, c_12, c_13, c_17, c_27, c_29, c_30, c_32, c_33, c_44, k_gb, k_gm⟩
                    · refine lv_aload_n hx hb dX12_counts_214 rfl (lv_at hl 7 rfl) ?_
                      refine lv_iload hx hb dX12_counts_215 (lv_at hl 6 rfl) ?_
                      refine lv_iload hx hb dX12_counts_217 (lv_at hl 1 rfl) ?_
                      refine lv_aload_n hx hb dX12_counts_219 rfl (lv_at hl 7 rfl) ?_
                      refine iz_get (D := (dC, dI)) (ci := 12) (v := .ref (am 32)) (C := RX12) (T := TX12) (N := 49) hx hb hts hin hown hK hO rfl 32 (by decide) hL90 (fun _ h9 => h9) rfl dX12_counts_220 ?_
                      refine lv_bipush (v := kz 8) hx hb dX12_counts_223 (by decide) ?_
                      refine lv_iload hx hb dX12_counts_225 (lv_at hl 2 rfl) ?_
                      refine iz_imul hx hb dX12_counts_227 ?_
                      refine lv_iload hx hb dX12_counts_228 (lv_at hl 0 rfl) ?_
                      refine iz_iadd hx hb dX12_counts_230 ?_
                      refine iz_iald hx hb hK 0 c_32 rfl (by omega) (by decide) dX12_counts_231 ?_
                      obtain ⟨v_334a, v_334b, v_334c⟩ := k_gb ((8 * z_302) + k) (by omega)
                      clear v_334c
                      obtain ⟨v_334, ev_334⟩ : ∃ z9 : Int, ge1 gb ((8 * z_302) + k) = z9 := ⟨_, rfl⟩
                      rw [ev_334] at v_334a v_334b ⊢
                      refine vp_callSi (va_Run.run (va_runS (As := [.int (kz v_334)]) (rest := [.int (kz (v_309 + 0)), .int (kz z_3), .ref o]) ⟨hx, hb, hml, hown, hts⟩ (m_costOf l v_334) (va_cwS 1 hts gX12_counts_X12_costOf rfl rfl rfl (by decide +kernel) ⟨Nat.le_of_ble_eq_true rfl, Nat.le_of_ble_eq_true rfl⟩) ⟨fun a U g mk q => q, fun U hU hW => ⟨rfl, trivial⟩⟩ rfl rfl hl.1 rfl (lv_room (Nat.le_of_ble_eq_true rfl)) dX12_counts_232 ⟨Nat.le_of_ble_eq_true rfl, Nat.le_of_ble_eq_true rfl⟩)) (fun r_336 hw_335 => ?_)
                      obtain ⟨z_337, z_337a, z_337b, rfl⟩ := kz_ex r_336
                      refine iz_iadd hx hb dX12_counts_235 ?_
                      refine lv_bipush (v := kz 15) hx hb dX12_counts_236 (by decide) ?_
                      refine lv_ishl hx hb dX12_counts_238 ?_
                      refine iz_any (fun z_338 z_338a z_338b z_338e => ?_)
                      refine lv_sipush (v := kz 16384) hx hb dX12_counts_239 (by decide) ?_
                      refine lv_ior hx hb dX12_counts_242 ?_
                      refine iz_any (fun z_339 z_339a z_339b z_339e => ?_)
                      refine lv_iload hx hb dX12_counts_243 (lv_at hl 4 rfl) ?_
                      refine lv_iconst (v := kz 1) hx hb dX12_counts_245 rfl ?_
                      refine iz_iadd hx hb dX12_counts_246 ?_
                      refine lv_bipush (v := kz 9) hx hb dX12_counts_247 (by decide) ?_
                      refine lv_ishl hx hb dX12_counts_249 ?_
                      refine iz_any (fun z_340 z_340a z_340b z_340e => ?_)
                      refine lv_ior hx hb dX12_counts_250 ?_
                      refine iz_any (fun z_341 z_341a z_341b z_341e => ?_)
                      refine lv_iload hx hb dX12_counts_251 (lv_at hl 5 rfl) ?_
                      refine lv_iconst (v := kz 3) hx hb dX12_counts_253 rfl ?_
                      refine lv_ishl hx hb dX12_counts_254 ?_
                      refine iz_any (fun z_342 z_342a z_342b z_342e => ?_)
                      refine lv_ior hx hb dX12_counts_255 ?_
                      refine iz_any (fun z_343 z_343a z_343b z_343e => ?_)
                      refine lv_iload hx hb dX12_counts_256 (lv_at hl 0 rfl) ?_
                      refine lv_ior hx hb dX12_counts_258 ?_
                      refine iz_any (fun z_344 z_344a z_344b z_344e => ?_)
                      refine va_callv (va_runV (As := [.int (kz z_3), .int (kz z_344)]) (rest := []) ⟨hx, hb, hml, hown, hts⟩ (m_keeps l dC dI ca A X o am zi zl (cup (cup fc 32 gb) 33 gm) hM hz ⟨k_4, k_5, k_11, k_12, k_13, k_29, k_gb, k_gm, k_44⟩ z_3 z_344 (by omega) (by omega)) (cwV 2 hts gX12_counts_X12_keeps rfl rfl rfl (by decide +kernel) ⟨Nat.le_of_ble_eq_true rfl, Nat.le_of_ble_eq_true rfl⟩) ⟨fun a U g mk q => by obtain ⟨q0, qK, qI⟩ := q; exact ⟨q0, va_K.moved (u := U) (U := U.calling g mk a) (Vm.Alike.refl U.vm) qK, qI⟩, va_recv hK (at_P hO) (ci := 12) (q0 := 0) rfl rfl, fun U hU hW => ⟨rfl, va_K.moved hW.alike hK, by rw [hU]; exact ⟨⟨hI, hO⟩, c_3, c_4, c_5, c_10, c_11, c_12, c_13, c_17, c_27, c_29, c_30, c_32, c_33, c_44⟩⟩⟩ rfl rfl hl.1 rfl (lv_room (Nat.le_of_ble_eq_true rfl)) dX12_counts_259 ⟨Nat.le_of_ble_eq_true rfl, Nat.le_of_ble_eq_true rfl⟩) hS (fun q _ h => h) (fun q h => h) (fun u t9 H locs ht hvm hw_345 hB hz1 hk1 hS => ?_)
                      obtain ⟨-, ⟨hI, hO⟩, c_3, c_4, c_5, c_10, c_11, c_12, c_13, c_17, c_27, c_29, c_30, c_32, c_33, c_44⟩ := hB
                      rw [ht] at hI hO c_3 c_4 c_5 c_10 c_11 c_12 c_13 c_17 c_27 c_29 c_30 c_32 c_33 c_44
                      clear ht hvm hz1 hk1
                      have he_z_344 := enc_bits z_338e z_339e z_340e z_341e z_342e z_343e z_344e
                      have hg_z_344 : ge1 gm z_302 = ge1 (fc 33) z_302 := n_331f2.2.1 z_302 (by omega) (by unfold pl; omega)
                      have hv_z_344 : ev1 fc (zi 28) (zi 34) (zi 2) (zi 9) f b t z_344 := (ev1_in (gm := gm) ⟨by omega, by omega, hw_243, hw_245⟩ (show z_302 = pl g1 (nb fc q) (ds fc f b t q) by unfold pl nb; rw [if_pos (show q < 0 by omega), ← ez_247]; omega) hg_z_344 (by omega) (enc_q he_z_344 (by omega) (by omega) (by omega)) (enc_g he_z_344 (by omega) (by omega)) (enc_w he_z_344 (by omega)) (by omega))
                      obtain ⟨gb_347, gm_348, rfl, k_gb_347, k_gm_348, x_gb_347⟩ := hw_345
                      have c_3 : va_at (dC, dI) vwCl (am 3, .inl (ca 21, 320, .inl (fc 3))) H := c_3
                      have c_4 : va_at (dC, dI) vwCl (am 4, .inl (ca 20, 40, .inl (fc 4))) H := c_4
                      have c_5 : va_at (dC, dI) vwCl (am 5, .inl (ca 20, 40, .inl (fc 5))) H := c_5
                      have c_10 : va_at (dC, dI) vwCl (am 10, .inl (ca 21, 240, .inl (fc 10))) H := c_10
                      have c_11 : va_at (dC, dI) vwCl (am 11, .inl (ca 20, 24, .inl (fc 11))) H := c_11
                      have c_12 : va_at (dC, dI) vwCl (am 12, .inl (ca 20, 24, .inl (fc 12))) H := c_12
                      have c_13 : va_at (dC, dI) vwCl (am 13, .inl (ca 20, 24, .inl (fc 13))) H := c_13
                      have c_17 : va_at (dC, dI) vwCl (am 17, .inl (ca 22, 36, .inl (fc 17))) H := c_17
                      have c_27 : va_at (dC, dI) vwCl (am 27, .inl (ca 21, 40, .inl (fc 27))) H := c_27
                      have c_29 : va_at (dC, dI) vwCl (am 29, .inl (ca 20, 1600, .inl (fc 29))) H := c_29
                      have c_30 : va_at (dC, dI) vwCl (am 30, .inl (ca 22, 6560, .inl (fc 30))) H := c_30
                      have c_32 : va_at (dC, dI) vwCl (am 32, .inl (ca 20, 52480, .inl gb_347)) H := c_32
                      have c_33 : va_at (dC, dI) vwCl (am 33, .inl (ca 20, 6560, .inl gm_348)) H := c_33
                      have c_44 : va_at (dC, dI) vwCl (am 44, .inl (ca 20, 40, .inl (fc 44))) H := c_44
                      have cn_gb_347 : cn fc (zi 28) (zi 34) (zi 2) (zi 9) f b t gb_347 gm_348 := cn_keep z_3h (by omega) n_331f2 hv_z_344 x_gb_347
                      refine lv_iinc (v := kz (k + 1)) (lv' := [(10, .int (kz (k + 1))), (9, .int (kz (v_309 + 0))), (8, .int (kz z_302)), (7, .int (kz z_247)), (6, .int (kz q)), (5, .int (kz g1)), (4, .int (kz z_3)), (0, .ref o), (1, .int (kz f)), (2, .int (kz b)), (3, .int (kz t))]) hx hb dX12_counts_262 hl (k := 0) rfl (kz_add k 1) (by decide) rfl (fun ls hl => ?_)
                      refine lv_goto (tgt := 202) hx hb dX12_counts_265 (by decide) ?_
                      exact ihn_331 (n_331 - 1) (by omega) (gb_347, gm_348) (k + 1) _ _ _ ⟨by omega, by omega, cn_gb_347, by omega, lv_sub hl [0, 1, 2, 3, 4, 5, 6, 7, 8, 9, 10] rfl, hI, hO, hS, c_3, c_4, c_5, c_10, c_11, c_12, c_13, c_17, c_27, c_29, c_30, c_32, c_33, c_44, k_gb_347, k_gm_348⟩
              · refine lv_goto (tgt := 268) hx hb dX12_counts_122 (by decide) ?_
                refine lv_iinc (v := kz (q + 1)) (lv' := [(6, .int (kz (q + 1))), (7, .int (kz z_247)), (5, .int (kz g1)), (4, .int (kz z_3)), (0, .ref o), (1, .int (kz f)), (2, .int (kz b)), (3, .int (kz t))]) hx hb dX12_counts_268 hl (k := 1) rfl (kz_add q 1) (by decide) rfl (fun ls hl => ?_)
                refine lv_goto (tgt := 82) hx hb dX12_counts_271 (by decide) ?_
                exact ihn_241 (n_241 - 1) (by omega) (gb, gm) (q + 1) _ _ _ ⟨by omega, by omega, n_241f2, by omega, lv_sub hl [0, 2, 3, 4, 5, 6, 7] rfl, hI, hO, hS, c_3, c_4, c_5, c_10, c_11, c_12, c_13, c_17, c_27, c_29, c_30, c_32, c_33, c_44, k_gb, k_gm⟩
            · have hw_245 : ¬ ps fc (zi 28) f b t q := hw_245
              refine lv_istore (lv' := [(7, .int (kz (-1))), (6, .int (kz q)), (5, .int (kz g1)), (4, .int (kz z_3)), (0, .ref o), (1, .int (kz f)), (2, .int (kz b)), (3, .int (kz t))]) hx hb dX12_counts_115 hl (by decide) rfl (fun ls hl => ?_)
              refine lv_iload hx hb dX12_counts_117 (lv_at hl 0 rfl) ?_
              refine iz_gez (tgt := 125) hx hb dX12_counts_119 (by decide) (by unfold rg2; omega) (fun q9 => absurd q9 (by decide)) (fun _ => ?_)
              refine lv_goto (tgt := 268) hx hb dX12_counts_122 (by decide) ?_
              refine lv_iinc (v := kz (q + 1)) (lv' := [(6, .int (kz (q + 1))), (7, .int (kz (-1))), (5, .int (kz g1)), (4, .int (kz z_3)), (0, .ref o), (1, .int (kz f)), (2, .int (kz b)), (3, .int (kz t))]) hx hb dX12_counts_268 hl (k := 1) rfl (kz_add q 1) (by decide) rfl (fun ls hl => ?_)
              refine lv_goto (tgt := 82) hx hb dX12_counts_271 (by decide) ?_
              exact ihn_241 (n_241 - 1) (by omega) (gb, gm) (q + 1) _ _ _ ⟨by omega, by omega, n_241f2, by omega, lv_sub hl [0, 2, 3, 4, 5, 6, 7] rfl, hI, hO, hS, c_3, c_4, c_5, c_10, c_11, c_12, c_13, c_17, c_27, c_29, c_30, c_32, c_33, c_44, k_gb, k_gm⟩
          · have hw_243 : ¬ bw fc (zi 34) f g1 q := hw_243
            refine iz_nez (tgt := 106) hx hb dX12_counts_100 (by decide) (by unfold rg2; omega) (fun q9 => absurd q9 (by decide)) (fun _ => ?_)
            refine lv_goto (tgt := 268) hx hb dX12_counts_103 (by decide) ?_
            refine lv_iinc (v := kz (q + 1)) (lv' := [(6, .int (kz (q + 1))), (5, .int (kz g1)), (4, .int (kz z_3)), (0, .ref o), (1, .int (kz f)), (2, .int (kz b)), (3, .int (kz t))]) hx hb dX12_counts_268 hl (k := 0) rfl (kz_add q 1) (by decide) rfl (fun ls hl => ?_)
            refine lv_goto (tgt := 82) hx hb dX12_counts_271 (by decide) ?_
            exact ihn_241 (n_241 - 1) (by omega) (gb, gm) (q + 1) _ _ _ ⟨by omega, by omega, n_241f2, by omega, lv_sub hl [0, 1, 2, 3, 4, 5, 6] rfl, hI, hO, hS, c_3, c_4, c_5, c_10, c_11, c_12, c_13, c_17, c_27, c_29, c_30, c_32, c_33, c_44, k_gb, k_gm⟩
    · refine lv_aload_n hx hb dX12_counts_44 rfl (lv_at hl 1 rfl) ?_
      refine iz_get (D := (dC, dI)) (ci := 12) (v := .ref (am 31)) (C := RX12) (T := TX12) (N := 49) hx hb hts hin hown hK hO rfl 31 (by decide) hL85 (fun _ h9 => h9) rfl dX12_counts_45 ?_
      refine lv_iload hx hb dX12_counts_48 (lv_at hl 0 rfl) ?_
      refine lv_lconst (v := 1) hx hb dX12_counts_50 (by decide) ?_
      obtain ⟨f31_349, c_f31_349⟩ := iv_o23 hI g31
      refine iz_last hx hb hK 3 c_f31_349 hS (iv_A hI g31 (by decide)) rfl (by omega) (by decide) dX12_counts_51 (fun H locs c9 oq hS => ?_)
      have hI := iv_s23 hI g31 c9 oq
      have hO := hO.kept (oq _ (iv_ne0 g31 hM.2.1 (by decide)).symm)
      have c_3 := c_3.kept (oq _ (iv_ne g3 g31 (by decide)))
      have c_4 := c_4.kept (oq _ (iv_ne g4 g31 (by decide)))
      have c_5 := c_5.kept (oq _ (iv_ne g5 g31 (by decide)))
      have c_10 := c_10.kept (oq _ (iv_ne g10 g31 (by decide)))
      have c_11 := c_11.kept (oq _ (iv_ne g11 g31 (by decide)))
      have c_12 := c_12.kept (oq _ (iv_ne g12 g31 (by decide)))
      have c_13 := c_13.kept (oq _ (iv_ne g13 g31 (by decide)))
      have c_17 := c_17.kept (oq _ (iv_ne g17 g31 (by decide)))
      have c_27 := c_27.kept (oq _ (iv_ne g27 g31 (by decide)))
      have c_29 := c_29.kept (oq _ (iv_ne g29 g31 (by decide)))
      have c_30 := c_30.kept (oq _ (iv_ne g30 g31 (by decide)))
      have c_32 := c_32.kept (oq _ (iv_ne g32 g31 (by decide)))
      have c_33 := c_33.kept (oq _ (iv_ne g33 g31 (by decide)))
      have c_44 := c_44.kept (oq _ (iv_ne g44 g31 (by decide)))
      clear oq c9
      refine lv_aload_n hx hb dX12_counts_52 rfl (lv_at hl 1 rfl) ?_
      refine lv_iload hx hb dX12_counts_53 (lv_at hl 0 rfl) ?_
      refine lv_aload_n hx hb dX12_counts_55 rfl (lv_at hl 1 rfl) ?_
      refine iz_get (D := (dC, dI)) (ci := 12) (v := .ref (am 7)) (C := RX12) (T := TX12) (N := 49) hx hb hts hin hown hK hO rfl 7 (by decide) hL26 (fun _ h9 => h9) rfl dX12_counts_56 ?_
      refine lv_iload_n hx hb dX12_counts_59 rfl (lv_at hl 2 rfl) ?_
      obtain ⟨f7_350, c_f7_350, k_f7_350⟩ := iv_o20 hI g7
      refine iz_iald hx hb hK 0 c_f7_350 rfl (by omega) (by decide) dX12_counts_60 ?_
      obtain ⟨v_351a, v_351b, v_351c⟩ := k_f7_350 f (by omega)
      clear v_351c
      obtain ⟨v_351, ev_351⟩ : ∃ z9 : Int, ge1 f7_350 f = z9 := ⟨_, rfl⟩
      rw [ev_351] at v_351a v_351b ⊢
      refine lv_bipush (v := kz 15) hx hb dX12_counts_61 (by decide) ?_
      refine lv_ishl hx hb dX12_counts_63 ?_
      refine iz_any (fun z_352 z_352a z_352b z_352e => ?_)
      refine va_callv (va_runV (As := [.int (kz z_3), .int (kz z_352)]) (rest := []) ⟨hx, hb, hml, hown, hts⟩ (m_keeps l dC dI ca A X o am zi zl (cup fc 33 g_5) hM hz ⟨k_4, k_5, k_11, k_12, k_13, k_29, k_32, k_g_5, k_44⟩ z_3 z_352 (by omega) (by omega)) (cwV 2 hts gX12_counts_X12_keeps rfl rfl rfl (by decide +kernel) ⟨Nat.le_of_ble_eq_true rfl, Nat.le_of_ble_eq_true rfl⟩) ⟨fun a U g mk q => by obtain ⟨q0, qK, qI⟩ := q; exact ⟨q0, va_K.moved (u := U) (U := U.calling g mk a) (Vm.Alike.refl U.vm) qK, qI⟩, va_recv hK (at_P hO) (ci := 12) (q0 := 0) rfl rfl, fun U hU hW => ⟨rfl, va_K.moved hW.alike hK, by rw [hU]; exact ⟨⟨hI, hO⟩, c_3, c_4, c_5, c_10, c_11, c_12, c_13, c_17, c_27, c_29, c_30, c_32, c_33, c_44⟩⟩⟩ rfl rfl hl.1 rfl (lv_room (Nat.le_of_ble_eq_true rfl)) dX12_counts_64 ⟨Nat.le_of_ble_eq_true rfl, Nat.le_of_ble_eq_true rfl⟩) hS (fun q _ h => h) (fun q h => h) (fun u t9 H locs ht hvm hw_353 hB hz1 hk1 hS => ?_)
      obtain ⟨-, ⟨hI, hO⟩, c_3, c_4, c_5, c_10, c_11, c_12, c_13, c_17, c_27, c_29, c_30, c_32, c_33, c_44⟩ := hB
      rw [ht] at hI hO c_3 c_4 c_5 c_10 c_11 c_12 c_13 c_17 c_27 c_29 c_30 c_32 c_33 c_44
      clear ht hvm hz1 hk1
      have hv_z_352 : ev1 fc (zi 28) (zi 34) (zi 2) (zi 9) f b t z_352 := ⟨by omega, Or.inl (d14_shl z_352e)⟩
      obtain ⟨gb_355, gm_356, rfl, k_gb_355, k_gm_356, x_gb_355⟩ := hw_353
      have c_3 : va_at (dC, dI) vwCl (am 3, .inl (ca 21, 320, .inl (fc 3))) H := c_3
      have c_4 : va_at (dC, dI) vwCl (am 4, .inl (ca 20, 40, .inl (fc 4))) H := c_4
      have c_5 : va_at (dC, dI) vwCl (am 5, .inl (ca 20, 40, .inl (fc 5))) H := c_5
      have c_10 : va_at (dC, dI) vwCl (am 10, .inl (ca 21, 240, .inl (fc 10))) H := c_10
      have c_11 : va_at (dC, dI) vwCl (am 11, .inl (ca 20, 24, .inl (fc 11))) H := c_11
      have c_12 : va_at (dC, dI) vwCl (am 12, .inl (ca 20, 24, .inl (fc 12))) H := c_12
      have c_13 : va_at (dC, dI) vwCl (am 13, .inl (ca 20, 24, .inl (fc 13))) H := c_13
      have c_17 : va_at (dC, dI) vwCl (am 17, .inl (ca 22, 36, .inl (fc 17))) H := c_17
      have c_27 : va_at (dC, dI) vwCl (am 27, .inl (ca 21, 40, .inl (fc 27))) H := c_27
      have c_29 : va_at (dC, dI) vwCl (am 29, .inl (ca 20, 1600, .inl (fc 29))) H := c_29
      have c_30 : va_at (dC, dI) vwCl (am 30, .inl (ca 22, 6560, .inl (fc 30))) H := c_30
      have c_32 : va_at (dC, dI) vwCl (am 32, .inl (ca 20, 52480, .inl gb_355)) H := c_32
      have c_33 : va_at (dC, dI) vwCl (am 33, .inl (ca 20, 6560, .inl gm_356)) H := c_33
      have c_44 : va_at (dC, dI) vwCl (am 44, .inl (ca 20, 40, .inl (fc 44))) H := c_44
      have cn_gb_355 : cn fc (zi 28) (zi 34) (zi 2) (zi 9) f b t gb_355 gm_356 := cn_keep z_3h (by omega) (cn_0 (ct := zi 34) (ls := zi 28) (F := zi 2) (R := zi 9) z_3h (by omega) ug_5) hv_z_352 x_gb_355
      refine lv_iconst (v := kz 0) hx hb dX12_counts_67 rfl ?_
      refine lv_istore (lv' := [(5, .int (kz 0)), (4, .int (kz z_3)), (0, .ref o), (1, .int (kz f)), (2, .int (kz b)), (3, .int (kz t))]) hx hb dX12_counts_68 hl (by decide) rfl (fun ls hl => ?_)
      refine iz_loopA1 (α := (Nat → Int32) × (Nat → Int32)) (P := fun N9 fn9 g1 H locs ls => (0 ≤ g1) ∧ (g1 ≤ 40) ∧ (cn fc (zi 28) (zi 34) (zi 2) (zi 9) f b t fn9.1 fn9.2) ∧ 40 - g1 ≤ (N9 : Int) ∧ lv_has ls 11 [(5, .int (kz g1)), (4, .int (kz z_3)), (0, .ref o), (1, .int (kz f)), (2, .int (kz b)), (3, .int (kz t))] ∧ iv (dC, dI) ca A X H ∧ va_at (dC, dI) vwCl (o, .inr (12, mM am zi zl)) H ∧ va_S A s.heap H locs ∧ va_at (dC, dI) vwCl (am 3, .inl (ca 21, 320, .inl (fc 3))) H ∧ va_at (dC, dI) vwCl (am 4, .inl (ca 20, 40, .inl (fc 4))) H ∧ va_at (dC, dI) vwCl (am 5, .inl (ca 20, 40, .inl (fc 5))) H ∧ va_at (dC, dI) vwCl (am 10, .inl (ca 21, 240, .inl (fc 10))) H ∧ va_at (dC, dI) vwCl (am 11, .inl (ca 20, 24, .inl (fc 11))) H ∧ va_at (dC, dI) vwCl (am 12, .inl (ca 20, 24, .inl (fc 12))) H ∧ va_at (dC, dI) vwCl (am 13, .inl (ca 20, 24, .inl (fc 13))) H ∧ va_at (dC, dI) vwCl (am 17, .inl (ca 22, 36, .inl (fc 17))) H ∧ va_at (dC, dI) vwCl (am 27, .inl (ca 21, 40, .inl (fc 27))) H ∧ va_at (dC, dI) vwCl (am 29, .inl (ca 20, 1600, .inl (fc 29))) H ∧ va_at (dC, dI) vwCl (am 30, .inl (ca 22, 6560, .inl (fc 30))) H ∧ va_at (dC, dI) vwCl (am 32, .inl (ca 20, 52480, .inl fn9.1)) H ∧ va_at (dC, dI) vwCl (am 33, .inl (ca 20, 6560, .inl fn9.2)) H ∧ va_at (dC, dI) vwCl (am 44, .inl (ca 20, 40, .inl (fc 44))) H ∧ ok20 X (am 32) 52480 (-2147483648) (2147483647) fn9.1 ∧ ok20 X (am 33) 6560 (0) (8) fn9.2) 100000 (gb_355, gm_356) (x0 := 0) ?_ ⟨by omega, by omega, cn_gb_355, by omega, lv_sub hl [0, 1, 2, 3, 4, 5] rfl, hI, hO, hS, c_3, c_4, c_5, c_10, c_11, c_12, c_13, c_17, c_27, c_29, c_30, c_32, c_33, c_44, k_gb_355, k_gm_356⟩
      intro n_357 ⟨gb, gm⟩ g1 H locs ls ⟨n_357f0, n_357f1, n_357f2, n_357f3, hl, hI, hO, hS, c_3, c_4, c_5, c_10, c_11, c_12, c_13, c_17, c_27, c_29, c_30, c_32, c_33, c_44, k_gb, k_gm⟩ ihn_357
      have n_357f2 : cn fc (zi 28) (zi 34) (zi 2) (zi 9) f b t gb gm := n_357f2
      have c_32 : va_at (dC, dI) vwCl (am 32, .inl (ca 20, 52480, .inl gb)) H := c_32
      have k_gb : ok20 X (am 32) 52480 (-2147483648) (2147483647) gb := k_gb
      have c_33 : va_at (dC, dI) vwCl (am 33, .inl (ca 20, 6560, .inl gm)) H := c_33
      have k_gm : ok20 X (am 33) 6560 (0) (8) gm := k_gm
      refine lv_iload hx hb dX12_counts_70 (lv_at hl 0 rfl) ?_
      refine lv_aload_n hx hb dX12_counts_72 rfl (lv_at hl 2 rfl) ?_
      refine iz_get (D := (dC, dI)) (ci := 12) (v := .int (kz (zi 2))) (C := RX12) (T := TX12) (N := 49) hx hb hts hin hown hK hO rfl 2 (by decide) hL131 (fun _ h9 => h9) rfl dX12_counts_73 ?_
      refine iz_ge (tgt := 280) hx hb dX12_counts_76 (by decide) (by unfold rg2; omega) (fun br_358 => ?_) (fun br_358 => ?_)
      · exact W.vret hx hb hr (fun t9 ht hW => ⟨⟨(cup (cup fc 32 gb) 33 gm), rfl, ⟨gb, gm, rfl, k_gb, k_gm, n_357f2⟩, va_K.moved hW.alike hK, by rw [ht]; exact ⟨hI, hO⟩, by rw [ht]; exact ⟨c_3, c_4, c_5, c_10, c_11, c_12, c_13, c_17, c_27, c_29, c_30, c_32, c_33, c_44⟩⟩, hS.F ht⟩) hS.2.2 dX12_counts_280
      · refine lv_iconst (v := kz (-1)) hx hb dX12_counts_79 rfl ?_
        refine lv_istore (lv' := [(6, .int (kz (-1))), (5, .int (kz g1)), (4, .int (kz z_3)), (0, .ref o), (1, .int (kz f)), (2, .int (kz b)), (3, .int (kz t))]) hx hb dX12_counts_80 hl (by decide) rfl (fun ls hl => ?_)
        refine iz_loopA1 (α := (Nat → Int32) × (Nat → Int32)) (P := fun N9 fn9 q H locs ls => (-1 ≤ q) ∧ (q ≤ 24) ∧ (cn fc (zi 28) (zi 34) (zi 2) (zi 9) f b t fn9.1 fn9.2) ∧ 24 - q ≤ (N9 : Int) ∧ lv_has ls 11 [(6, .int (kz q)), (5, .int (kz g1)), (4, .int (kz z_3)), (0, .ref o), (1, .int (kz f)), (2, .int (kz b)), (3, .int (kz t))] ∧ iv (dC, dI) ca A X H ∧ va_at (dC, dI) vwCl (o, .inr (12, mM am zi zl)) H ∧ va_S A s.heap H locs ∧ va_at (dC, dI) vwCl (am 3, .inl (ca 21, 320, .inl (fc 3))) H ∧ va_at (dC, dI) vwCl (am 4, .inl (ca 20, 40, .inl (fc 4))) H ∧ va_at (dC, dI) vwCl (am 5, .inl (ca 20, 40, .inl (fc 5))) H ∧ va_at (dC, dI) vwCl (am 10, .inl (ca 21, 240, .inl (fc 10))) H ∧ va_at (dC, dI) vwCl (am 11, .inl (ca 20, 24, .inl (fc 11))) H ∧ va_at (dC, dI) vwCl (am 12, .inl (ca 20, 24, .inl (fc 12))) H ∧ va_at (dC, dI) vwCl (am 13, .inl (ca 20, 24, .inl (fc 13))) H ∧ va_at (dC, dI) vwCl (am 17, .inl (ca 22, 36, .inl (fc 17))) H ∧ va_at (dC, dI) vwCl (am 27, .inl (ca 21, 40, .inl (fc 27))) H ∧ va_at (dC, dI) vwCl (am 29, .inl (ca 20, 1600, .inl (fc 29))) H ∧ va_at (dC, dI) vwCl (am 30, .inl (ca 22, 6560, .inl (fc 30))) H ∧ va_at (dC, dI) vwCl (am 32, .inl (ca 20, 52480, .inl fn9.1)) H ∧ va_at (dC, dI) vwCl (am 33, .inl (ca 20, 6560, .inl fn9.2)) H ∧ va_at (dC, dI) vwCl (am 44, .inl (ca 20, 40, .inl (fc 44))) H ∧ ok20 X (am 32) 52480 (-2147483648) (2147483647) fn9.1 ∧ ok20 X (am 33) 6560 (0) (8) fn9.2) 100000 (gb, gm) (x0 := (-1)) ?_ ⟨by omega, by omega, n_357f2, by omega, lv_sub hl [0, 1, 2, 3, 4, 5, 6] rfl, hI, hO, hS, c_3, c_4, c_5, c_10, c_11, c_12, c_13, c_17, c_27, c_29, c_30, c_32, c_33, c_44, k_gb, k_gm⟩
        intro n_359 ⟨gb, gm⟩ q H locs ls ⟨n_359f0, n_359f1, n_359f2, n_359f3, hl, hI, hO, hS, c_3, c_4, c_5, c_10, c_11, c_12, c_13, c_17, c_27, c_29, c_30, c_32, c_33, c_44, k_gb, k_gm⟩ ihn_359
        have n_359f2 : cn fc (zi 28) (zi 34) (zi 2) (zi 9) f b t gb gm := n_359f2
        have c_32 : va_at (dC, dI) vwCl (am 32, .inl (ca 20, 52480, .inl gb)) H := c_32
        have k_gb : ok20 X (am 32) 52480 (-2147483648) (2147483647) gb := k_gb
        have c_33 : va_at (dC, dI) vwCl (am 33, .inl (ca 20, 6560, .inl gm)) H := c_33
        have k_gm : ok20 X (am 33) 6560 (0) (8) gm := k_gm
        refine lv_iload hx hb dX12_counts_82 (lv_at hl 0 rfl) ?_
        refine lv_aload_n hx hb dX12_counts_84 rfl (lv_at hl 3 rfl) ?_
        refine iz_get (D := (dC, dI)) (ci := 12) (v := .int (kz (zi 9))) (C := RX12) (T := TX12) (N := 49) hx hb hts hin hown hK hO rfl 9 (by decide) hL138 (fun _ h9 => h9) rfl dX12_counts_85 ?_
        refine iz_ge (tgt := 274) hx hb dX12_counts_88 (by decide) (by unfold rg2; omega) (fun br_360 => ?_) (fun br_360 => ?_)
        · refine lv_iinc (v := kz (g1 + 1)) (lv' := [(5, .int (kz (g1 + 1))), (6, .int (kz q)), (4, .int (kz z_3)), (0, .ref o), (1, .int (kz f)), (2, .int (kz b)), (3, .int (kz t))]) hx hb dX12_counts_274 hl (k := 1) rfl (kz_add g1 1) (by decide) rfl (fun ls hl => ?_)
          refine lv_goto (tgt := 70) hx hb dX12_counts_277 (by decide) ?_
          exact ihn_357 (n_357 - 1) (by omega) (gb, gm) (g1 + 1) _ _ _ ⟨by omega, by omega, n_359f2, by omega, lv_sub hl [0, 2, 3, 4, 5, 6] rfl, hI, hO, hS, c_3, c_4, c_5, c_10, c_11, c_12, c_13, c_17, c_27, c_29, c_30, c_32, c_33, c_44, k_gb, k_gm⟩
        · refine lv_aload_n hx hb dX12_counts_91 rfl (lv_at hl 3 rfl) ?_
          refine lv_iload_n hx hb dX12_counts_92 rfl (lv_at hl 4 rfl) ?_
          refine lv_iload hx hb dX12_counts_93 (lv_at hl 1 rfl) ?_
          refine lv_iload hx hb dX12_counts_95 (lv_at hl 0 rfl) ?_
          refine vp_callSi (va_Run.run (va_runV (As := [.int (kz f), .int (kz g1), .int (kz q)]) (rest := []) ⟨hx, hb, hml, hown, hts⟩ (m_isBetween l dC dI ca A X o am zi zl (cup (cup fc 32 gb) 33 gm) hM hz ⟨k_4, k_5, k_11, k_12, k_13, k_29, k_gb, k_gm, k_44⟩ f g1 q (by omega) (by omega) (by omega)) (cwV 3 hts gX12_counts_X12_isBetween rfl rfl rfl (by decide +kernel) ⟨Nat.le_of_ble_eq_true rfl, Nat.le_of_ble_eq_true rfl⟩) ⟨fun a U g mk q => by obtain ⟨q0, qK, qI⟩ := q; exact ⟨q0, va_K.moved (u := U) (U := U.calling g mk a) (Vm.Alike.refl U.vm) qK, qI⟩, va_recv hK (at_P hO) (ci := 12) (q0 := 0) rfl rfl, fun U hU hW => ⟨rfl, va_K.moved hW.alike hK, by rw [hU]; exact ⟨⟨hI, hO⟩, c_3, c_4, c_5, c_10, c_11, c_12, c_13, c_17, c_27, c_29, c_30, c_32, c_33, c_44⟩⟩⟩ rfl rfl hl.1 rfl (lv_room (Nat.le_of_ble_eq_true rfl)) dX12_counts_97 ⟨Nat.le_of_ble_eq_true rfl, Nat.le_of_ble_eq_true rfl⟩)) (fun r_362 hw_361 => ?_)
          rcases hw_361 with ⟨rfl, hw_361⟩ | ⟨rfl, hw_361⟩
          · have hw_361 : bw fc (zi 34) f g1 q := hw_361
            refine iz_nez (tgt := 106) hx hb dX12_counts_100 (by decide) (by unfold rg2; omega) (fun _ => ?_) (fun q9 => absurd q9 (by decide))
            refine lv_aload_n hx hb dX12_counts_106 rfl (lv_at hl 3 rfl) ?_
            refine lv_iload_n hx hb dX12_counts_107 rfl (lv_at hl 4 rfl) ?_
            refine lv_iload_n hx hb dX12_counts_108 rfl (lv_at hl 5 rfl) ?_
            refine lv_iload_n hx hb dX12_counts_109 rfl (lv_at hl 6 rfl) ?_
            refine lv_iload hx hb dX12_counts_110 (lv_at hl 0 rfl) ?_
            refine vp_callSi (va_Run.run (va_runV (As := [.int (kz f), .int (kz b), .int (kz t), .int (kz q)]) (rest := []) ⟨hx, hb, hml, hown, hts⟩ (m_passes l dC dI ca A X o am zi zl (cup (cup fc 32 gb) 33 gm) hM hz ⟨k_4, k_5, k_11, k_12, k_13, k_29, k_gb, k_gm, k_44⟩ f b t q (by omega) (by omega) (by show b ≤ ge1 (fc 4) f; omega) (by omega) (by omega)) (cwV 4 hts gX12_counts_X12_passes rfl rfl rfl (by decide +kernel) ⟨Nat.le_of_ble_eq_true rfl, Nat.le_of_ble_eq_true rfl⟩) ⟨fun a U g mk q => by obtain ⟨q0, qK, qI⟩ := q; exact ⟨q0, va_K.moved (u := U) (U := U.calling g mk a) (Vm.Alike.refl U.vm) qK, qI⟩, va_recv hK (at_P hO) (ci := 12) (q0 := 0) rfl rfl, fun U hU hW => ⟨rfl, va_K.moved hW.alike hK, by rw [hU]; exact ⟨⟨hI, hO⟩, c_3, c_4, c_5, c_10, c_11, c_12, c_13, c_17, c_27, c_29, c_30, c_32, c_33, c_44⟩⟩⟩ rfl rfl hl.1 rfl (lv_room (Nat.le_of_ble_eq_true rfl)) dX12_counts_112 ⟨Nat.le_of_ble_eq_true rfl, Nat.le_of_ble_eq_true rfl⟩)) (fun r_364 hw_363 => ?_)
            rcases hw_363 with ⟨hw_363, rfl⟩ | ⟨hw_363, rfl⟩
            · have hw_363 : ps fc (zi 28) f b t q := hw_363
              obtain ⟨z_365, ez_365⟩ : ∃ z9 : Int, z9 = ds (cup (cup fc 32 gb) 33 gm) f b t q := ⟨_, rfl⟩
              rw [← ez_365]
              have ez_365 : z_365 = ds fc f b t q := ez_365
              have rz_365 := ds_rng (X := X) (am := am) (fc := fc) hk (by omega) (by omega) (by omega) (by omega) hw_363
              rw [← ez_365] at rz_365
              refine lv_istore (lv' := [(7, .int (kz z_365)), (6, .int (kz q)), (5, .int (kz g1)), (4, .int (kz z_3)), (0, .ref o), (1, .int (kz f)), (2, .int (kz b)), (3, .int (kz t))]) hx hb dX12_counts_115 hl (by decide) rfl (fun ls hl => ?_)
              refine lv_iload hx hb dX12_counts_117 (lv_at hl 0 rfl) ?_
              refine iz_gez (tgt := 125) hx hb dX12_counts_119 (by decide) (by unfold rg2; omega) (fun br_366 => ?_) (fun br_366 => ?_)
              · refine lv_iload hx hb dX12_counts_125 (lv_at hl 2 rfl) ?_
                refine lv_iload hx hb dX12_counts_127 (lv_at hl 1 rfl) ?_
                refine iz_gez (tgt := 136) hx hb dX12_counts_129 (by decide) (by unfold rg2; omega) (fun br_367 => ?_) (fun br_367 => ?_)
                · refine lv_aload_n hx hb dX12_counts_136 rfl (lv_at hl 4 rfl) ?_
                  refine iz_get (D := (dC, dI)) (ci := 12) (v := .ref (am 12)) (C := RX12) (T := TX12) (N := 49) hx hb hts hin hown hK hO rfl 12 (by decide) hL39 (fun _ h9 => h9) rfl dX12_counts_137 ?_
                  refine lv_iload hx hb dX12_counts_140 (lv_at hl 1 rfl) ?_
                  refine iz_iald hx hb hK 0 c_12 rfl (by omega) (by decide) dX12_counts_142 ?_
                  obtain ⟨v_368a, v_368b, v_368c⟩ := k_12 q (by omega)
                  clear v_368c
                  obtain ⟨v_368, ev_368⟩ : ∃ z9 : Int, ge1 (fc 12) q = z9 := ⟨_, rfl⟩
                  rw [ev_368] at v_368a v_368b ⊢
                  refine lv_iload hx hb dX12_counts_143 (lv_at hl 0 rfl) ?_
                  refine vp_callSi (va_Run.run (va_runS (As := [.int (kz g1), .int (kz v_368), .int (kz z_365)]) (rest := []) ⟨hx, hb, hml, hown, hts⟩ (m_placeOf l g1 v_368 z_365) (va_cwS 3 hts gX12_counts_X12_placeOf rfl rfl rfl (by decide +kernel) ⟨Nat.le_of_ble_eq_true rfl, Nat.le_of_ble_eq_true rfl⟩) ⟨fun a U g mk q => q, fun U hU hW => ⟨rfl, trivial⟩⟩ rfl rfl hl.1 rfl (lv_room (Nat.le_of_ble_eq_true rfl)) dX12_counts_145 ⟨Nat.le_of_ble_eq_true rfl, Nat.le_of_ble_eq_true rfl⟩)) (fun r_370 hw_369 => ?_)
                  obtain ⟨z_371, rfl, z_371h⟩ := hw_369
                  refine lv_istore (lv' := [(8, .int (kz z_371)), (7, .int (kz z_365)), (6, .int (kz q)), (5, .int (kz g1)), (4, .int (kz z_3)), (0, .ref o), (1, .int (kz f)), (2, .int (kz b)), (3, .int (kz t))]) hx hb dX12_counts_148 hl (by decide) rfl (fun ls hl => ?_)
                  refine lv_aload_n hx hb dX12_counts_150 rfl (lv_at hl 5 rfl) ?_
                  refine iz_get (D := (dC, dI)) (ci := 12) (v := .ref (am 31)) (C := RX12) (T := TX12) (N := 49) hx hb hts hin hown hK hO rfl 31 (by decide) hL85 (fun _ h9 => h9) rfl dX12_counts_151 ?_
                  refine lv_iload hx hb dX12_counts_154 (lv_at hl 4 rfl) ?_
                  refine lv_aload_n hx hb dX12_counts_156 rfl (lv_at hl 5 rfl) ?_
                  refine iz_get (D := (dC, dI)) (ci := 12) (v := .ref (am 31)) (C := RX12) (T := TX12) (N := 49) hx hb hts hin hown hK hO rfl 31 (by decide) hL85 (fun _ h9 => h9) rfl dX12_counts_157 ?_
                  refine lv_iload hx hb dX12_counts_160 (lv_at hl 4 rfl) ?_
                  obtain ⟨f31_372, c_f31_372⟩ := iv_o23 hI g31
                  refine iz_lald hx hb hK 3 c_f31_372 rfl (by omega) (by decide) dX12_counts_162 ?_
                  refine lv_topl (fun y_373 ey_373 => ?_)
                  refine lv_aload_n hx hb dX12_counts_163 rfl (lv_at hl 5 rfl) ?_
                  refine iz_get (D := (dC, dI)) (ci := 12) (v := .ref (am 31)) (C := RX12) (T := TX12) (N := 49) hx hb hts hin hown hK hO rfl 31 (by decide) hL85 (fun _ h9 => h9) rfl dX12_counts_164 ?_
                  refine lv_iload hx hb dX12_counts_167 (lv_at hl 0 rfl) ?_
                  refine iz_lald hx hb hK 3 c_f31_372 rfl (by omega) (by decide) dX12_counts_169 ?_
                  refine lv_topl (fun y_374 ey_374 => ?_)
                  refine vp_callSl (va_Run.run (va_runS (As := [.long y_373, .long y_374]) (rest := [.int (kz z_3), .ref (am 31)]) ⟨hx, hb, hml, hown, hts⟩ (m_plus l y_373 y_374) (va_cwS 2 hts gX12_counts_X12_plus rfl rfl rfl (by decide +kernel) ⟨Nat.le_of_ble_eq_true rfl, Nat.le_of_ble_eq_true rfl⟩) ⟨fun a U g mk q => q, fun U hU hW => ⟨rfl, trivial⟩⟩ rfl rfl hl.1 rfl (lv_room (Nat.le_of_ble_eq_true rfl)) dX12_counts_170 ⟨Nat.le_of_ble_eq_true rfl, Nat.le_of_ble_eq_true rfl⟩)) (fun r_376 hw_375 => ?_)
                  refine iz_last hx hb hK 3 c_f31_372 hS (iv_A hI g31 (by decide)) rfl (by omega) (by decide) dX12_counts_173 (fun H locs c9 oq hS => ?_)
                  have hI := iv_s23 hI g31 c9 oq
                  have hO := hO.kept (oq _ (iv_ne0 g31 hM.2.1 (by decide)).symm)
                  have c_3 := c_3.kept (oq _ (iv_ne g3 g31 (by decide)))
                  have c_4 := c_4.kept (oq _ (iv_ne g4 g31 (by decide)))
                  have c_5 := c_5.kept (oq _ (iv_ne g5 g31 (by decide)))
                  have c_10 := c_10.kept (oq _ (iv_ne g10 g31 (by decide)))
                  have c_11 := c_11.kept (oq _ (iv_ne g11 g31 (by decide)))
                  have c_12 := c_12.kept (oq _ (iv_ne g12 g31 (by decide)))
                  have c_13 := c_13.kept (oq _ (iv_ne g13 g31 (by decide)))
                  have c_17 := c_17.kept (oq _ (iv_ne g17 g31 (by decide)))
                  have c_27 := c_27.kept (oq _ (iv_ne g27 g31 (by decide)))
                  have c_29 := c_29.kept (oq _ (iv_ne g29 g31 (by decide)))
                  have c_30 := c_30.kept (oq _ (iv_ne g30 g31 (by decide)))
                  have c_32 := c_32.kept (oq _ (iv_ne g32 g31 (by decide)))
                  have c_33 := c_33.kept (oq _ (iv_ne g33 g31 (by decide)))
                  have c_44 := c_44.kept (oq _ (iv_ne g44 g31 (by decide)))
                  clear oq c9
                  refine lv_aload_n hx hb dX12_counts_174 rfl (lv_at hl 5 rfl) ?_
                  refine iz_get (D := (dC, dI)) (ci := 12) (v := .ref (am 7)) (C := RX12) (T := TX12) (N := 49) hx hb hts hin hown hK hO rfl 7 (by decide) hL26 (fun _ h9 => h9) rfl dX12_counts_175 ?_
                  refine lv_iload_n hx hb dX12_counts_178 rfl (lv_at hl 6 rfl) ?_
                  obtain ⟨f7_377, c_f7_377, k_f7_377⟩ := iv_o20 hI g7
                  refine iz_iald hx hb hK 0 c_f7_377 rfl (by omega) (by decide) dX12_counts_179 ?_
                  obtain ⟨v_378a, v_378b, v_378c⟩ := k_f7_377 f (by omega)
                  clear v_378c
                  obtain ⟨v_378, ev_378⟩ : ∃ z9 : Int, ge1 f7_377 f = z9 := ⟨_, rfl⟩
                  rw [ev_378] at v_378a v_378b ⊢
                  refine lv_iload hx hb dX12_counts_180 (lv_at hl 2 rfl) ?_
                  refine iz_gez (tgt := 189) hx hb dX12_counts_182 (by decide) (by unfold rg2; omega) (fun br_379 => ?_) (fun br_379 => ?_)
                  · refine lv_aload_n hx hb dX12_counts_189 rfl (lv_at hl 5 rfl) ?_
                    refine iz_get (D := (dC, dI)) (ci := 12) (v := .ref (am 14)) (C := RX12) (T := TX12) (N := 49) hx hb hts hin hown hK hO rfl 14 (by decide) hL45 (fun _ h9 => h9) rfl dX12_counts_190 ?_
                    refine lv_iload hx hb dX12_counts_193 (lv_at hl 2 rfl) ?_
                    obtain ⟨f14_380, c_f14_380, k_f14_380⟩ := iv_o20 hI g14
                    refine iz_iald hx hb hK 0 c_f14_380 rfl (by omega) (by decide) dX12_counts_195 ?_
                    obtain ⟨v_381a, v_381b, v_381c⟩ := k_f14_380 q (by omega)
                    clear v_381c
                    obtain ⟨v_381, ev_381⟩ : ∃ z9 : Int, ge1 f14_380 q = z9 := ⟨_, rfl⟩
                    rw [ev_381] at v_381a v_381b ⊢
                    refine iz_iadd hx hb dX12_counts_196 ?_
                    refine lv_istore (lv' := [(9, .int (kz (v_378 + v_381))), (8, .int (kz z_371)), (7, .int (kz z_365)), (6, .int (kz q)), (5, .int (kz g1)), (4, .int (kz z_3)), (0, .ref o), (1, .int (kz f)), (2, .int (kz b)), (3, .int (kz t))]) hx hb dX12_counts_197 hl (by decide) rfl (fun ls hl => ?_)
                    refine lv_iconst (v := kz 0) hx hb dX12_counts_199 rfl ?_
                    refine lv_istore (lv' := [(10, .int (kz 0)), (9, .int (kz (v_378 + v_381))), (8, .int (kz z_371)), (7, .int (kz z_365)), (6, .int (kz q)), (5, .int (kz g1)), (4, .int (kz z_3)), (0, .ref o), (1, .int (kz f)), (2, .int (kz b)), (3, .int (kz t))]) hx hb dX12_counts_200 hl (by decide) rfl (fun ls hl => ?_)
                    refine iz_loopA1 (α := (Nat → Int32) × (Nat → Int32)) (P := fun N9 fn9 k H locs ls => (0 ≤ k) ∧ (k ≤ 8) ∧ (cn fc (zi 28) (zi 34) (zi 2) (zi 9) f b t fn9.1 fn9.2) ∧ 8 - k ≤ (N9 : Int) ∧ lv_has ls 11 [(10, .int (kz k)), (9, .int (kz (v_378 + v_381))), (8, .int (kz z_371)), (7, .int (kz z_365)), (6, .int (kz q)), (5, .int (kz g1)), (4, .int (kz z_3)), (0, .ref o), (1, .int (kz f)), (2, .int (kz b)), (3, .int (kz t))] ∧ iv (dC, dI) ca A X H ∧ va_at (dC, dI) vwCl (o, .inr (12, mM am zi zl)) H ∧ va_S A s.heap H locs ∧ va_at (dC, dI) vwCl (am 3, .inl (ca 21, 320, .inl (fc 3))) H ∧ va_at (dC, dI) vwCl (am 4, .inl (ca 20, 40, .inl (fc 4))) H ∧ va_at (dC, dI) vwCl (am 5, .inl (ca 20, 40, .inl (fc 5))) H ∧ va_at (dC, dI) vwCl (am 10, .inl (ca 21, 240, .inl (fc 10))) H ∧ va_at (dC, dI) vwCl (am 11, .inl (ca 20, 24, .inl (fc 11))) H ∧ va_at (dC, dI) vwCl (am 12, .inl (ca 20, 24, .inl (fc 12))) H ∧ va_at (dC, dI) vwCl (am 13, .inl (ca 20, 24, .inl (fc 13))) H ∧ va_at (dC, dI) vwCl (am 17, .inl (ca 22, 36, .inl (fc 17))) H ∧ va_at (dC, dI) vwCl (am 27, .inl (ca 21, 40, .inl (fc 27))) H ∧ va_at (dC, dI) vwCl (am 29, .inl (ca 20, 1600, .inl (fc 29))) H ∧ va_at (dC, dI) vwCl (am 30, .inl (ca 22, 6560, .inl (fc 30))) H ∧ va_at (dC, dI) vwCl (am 32, .inl (ca 20, 52480, .inl fn9.1)) H ∧ va_at (dC, dI) vwCl (am 33, .inl (ca 20, 6560, .inl fn9.2)) H ∧ va_at (dC, dI) vwCl (am 44, .inl (ca 20, 40, .inl (fc 44))) H ∧ ok20 X (am 32) 52480 (-2147483648) (2147483647) fn9.1 ∧ ok20 X (am 33) 6560 (0) (8) fn9.2) 100000 (gb, gm) (x0 := 0) ?_ ⟨by omega, by omega, n_359f2, by omega, lv_sub hl [0, 1, 2, 3, 4, 5, 6, 7, 8, 9, 10] rfl, hI, hO, hS, c_3, c_4, c_5, c_10, c_11, c_12, c_13, c_17, c_27, c_29, c_30, c_32, c_33, c_44, k_gb, k_gm⟩
                    intro n_382 ⟨gb, gm⟩ k H locs ls ⟨n_382f0, n_382f1, n_382f2, n_382f3, hl, hI, hO, hS, c_3, c_4, c_5, c_10, c_11, c_12, c_13, c_17, c_27, c_29, c_30, c_32, c_33, c_44, k_gb, k_gm⟩ ihn_382
                    have n_382f2 : cn fc (zi 28) (zi 34) (zi 2) (zi 9) f b t gb gm := n_382f2
                    have c_32 : va_at (dC, dI) vwCl (am 32, .inl (ca 20, 52480, .inl gb)) H := c_32
                    have k_gb : ok20 X (am 32) 52480 (-2147483648) (2147483647) gb := k_gb
                    have c_33 : va_at (dC, dI) vwCl (am 33, .inl (ca 20, 6560, .inl gm)) H := c_33
                    have k_gm : ok20 X (am 33) 6560 (0) (8) gm := k_gm
                    refine lv_iload hx hb dX12_counts_202 (lv_at hl 0 rfl) ?_
                    refine lv_aload_n hx hb dX12_counts_204 rfl (lv_at hl 7 rfl) ?_
                    refine iz_get (D := (dC, dI)) (ci := 12) (v := .ref (am 33)) (C := RX12) (T := TX12) (N := 49) hx hb hts hin hown hK hO rfl 33 (by decide) hL93 (fun _ h9 => h9) rfl dX12_counts_205 ?_
                    refine lv_iload hx hb dX12_counts_208 (lv_at hl 2 rfl) ?_
                    refine iz_iald hx hb hK 0 c_33 rfl (by omega) (by decide) dX12_counts_210 ?_
                    obtain ⟨v_383a, v_383b, v_383c⟩ := k_gm z_371 (by omega)
                    clear v_383c
                    obtain ⟨v_383, ev_383⟩ : ∃ z9 : Int, ge1 gm z_371 = z9 := ⟨_, rfl⟩
                    rw [ev_383] at v_383a v_383b ⊢
                    refine iz_ge (tgt := 268) hx hb dX12_counts_211 (by decide) (by unfold rg2; omega) (fun br_384 => ?_) (fun br_384 => ?_)
                    · refine lv_iinc (v := kz (q + 1)) (lv' := [(6, .int (kz (q + 1))), (10, .int (kz k)), (9, .int (kz (v_378 + v_381))), (8, .int (kz z_371)), (7, .int (kz z_365)), (5, .int (kz g1)), (4, .int (kz z_3)), (0, .ref o), (1, .int (kz f)), (2, .int (kz b)), (3, .int (kz t))]) hx hb dX12_counts_268 hl (k := 4) rfl (kz_add q 1) (by decide) rfl (fun ls hl => ?_)
                      refine lv_goto (tgt := 82) hx hb dX12_counts_271 (by decide) ?_
                      exact ihn_359 (n_359 - 1) (by omega) (gb, gm) (q + 1) _ _ _ ⟨by omega, by omega, n_382f2, by omega, lv_sub hl [0, 5, 6, 7, 8, 9, 10] rfl, hI, hO, hS, c_3, c_4, c_5, c_10, c_11, c_12, c_13, c_17, c_27, c_29, c_30, c_32, c_33, c_44, k_gb, k_gm⟩
                    · refine lv_aload_n hx hb dX12_counts_214 rfl (lv_at hl 7 rfl) ?_
                      refine lv_iload hx hb dX12_counts_215 (lv_at hl 6 rfl) ?_
                      refine lv_iload hx hb dX12_counts_217 (lv_at hl 1 rfl) ?_
                      refine lv_aload_n hx hb dX12_counts_219 rfl (lv_at hl 7 rfl) ?_
                      refine iz_get (D := (dC, dI)) (ci := 12) (v := .ref (am 32)) (C := RX12) (T := TX12) (N := 49) hx hb hts hin hown hK hO rfl 32 (by decide) hL90 (fun _ h9 => h9) rfl dX12_counts_220 ?_
                      refine lv_bipush (v := kz 8) hx hb dX12_counts_223 (by decide) ?_
                      refine lv_iload hx hb dX12_counts_225 (lv_at hl 2 rfl) ?_
                      refine iz_imul hx hb dX12_counts_227 ?_
                      refine lv_iload hx hb dX12_counts_228 (lv_at hl 0 rfl) ?_
                      refine iz_iadd hx hb dX12_counts_230 ?_
                      refine iz_iald hx hb hK 0 c_32 rfl (by omega) (by decide) dX12_counts_231 ?_
                      obtain ⟨v_385a, v_385b, v_385c⟩ := k_gb ((8 * z_371) + k) (by omega)
                      clear v_385c
                      obtain ⟨v_385, ev_385⟩ : ∃ z9 : Int, ge1 gb ((8 * z_371) + k) = z9 := ⟨_, rfl⟩
                      rw [ev_385] at v_385a v_385b ⊢
                      refine vp_callSi (va_Run.run (va_runS (As := [.int (kz v_385)]) (rest := [.int (kz (v_378 + v_381)), .int (kz z_3), .ref o]) ⟨hx, hb, hml, hown, hts⟩ (m_costOf l v_385) (va_cwS 1 hts gX12_counts_X12_costOf rfl rfl rfl (by decide +kernel) ⟨Nat.le_of_ble_eq_true rfl, Nat.le_of_ble_eq_true rfl⟩) ⟨fun a U g mk q => q, fun U hU hW => ⟨rfl, trivial⟩⟩ rfl rfl hl.1 rfl (lv_room (Nat.le_of_ble_eq_true rfl)) dX12_counts_232 ⟨Nat.le_of_ble_eq_true rfl, Nat.le_of_ble_eq_true rfl⟩)) (fun r_387 hw_386 => ?_)
                      obtain ⟨z_388, z_388a, z_388b, rfl⟩ := kz_ex r_387
                      refine iz_iadd hx hb dX12_counts_235 ?_
                      refine lv_bipush (v := kz 15) hx hb dX12_counts_236 (by decide) ?_
                      refine lv_ishl hx hb dX12_counts_238 ?_
                      refine iz_any (fun z_389 z_389a z_389b z_389e => ?_)
                      refine lv_sipush (v := kz 16384) hx hb dX12_counts_239 (by decide) ?_
                      refine lv_ior hx hb dX12_counts_242 ?_
                      refine iz_any (fun z_390 z_390a z_390b z_390e => ?_)
                      refine lv_iload hx hb dX12_counts_243 (lv_at hl 4 rfl) ?_
                      refine lv_iconst (v := kz 1) hx hb dX12_counts_245 rfl ?_
                      refine iz_iadd hx hb dX12_counts_246 ?_
                      refine lv_bipush (v := kz 9) hx hb dX12_counts_247 (by decide) ?_
                      refine lv_ishl hx hb dX12_counts_249 ?_
                      refine iz_any (fun z_391 z_391a z_391b z_391e => ?_)
                      refine lv_ior hx hb dX12_counts_250 ?_
                      refine iz_any (fun z_392 z_392a z_392b z_392e => ?_)
                      refine lv_iload hx hb dX12_counts_251 (lv_at hl 5 rfl) ?_
                      refine lv_iconst (v := kz 3) hx hb dX12_counts_253 rfl ?_
                      refine lv_ishl hx hb dX12_counts_254 ?_
                      refine iz_any (fun z_393 z_393a z_393b z_393e => ?_)
                      refine lv_ior hx hb dX12_counts_255 ?_
                      refine iz_any (fun z_394 z_394a z_394b z_394e => ?_)
                      refine lv_iload hx hb dX12_counts_256 (lv_at hl 0 rfl) ?_
                      refine lv_ior hx hb dX12_counts_258 ?_
                      refine iz_any (fun z_395 z_395a z_395b z_395e => ?_)
                      refine va_callv (va_runV (As := [.int (kz z_3), .int (kz z_395)]) (rest := []) ⟨hx, hb, hml, hown, hts⟩ (m_keeps l dC dI ca A X o am zi zl (cup (cup fc 32 gb) 33 gm) hM hz ⟨k_4, k_5, k_11, k_12, k_13, k_29, k_gb, k_gm, k_44⟩ z_3 z_395 (by omega) (by omega)) (cwV 2 hts gX12_counts_X12_keeps rfl rfl rfl (by decide +kernel) ⟨Nat.le_of_ble_eq_true rfl, Nat.le_of_ble_eq_true rfl⟩) ⟨fun a U g mk q => by obtain ⟨q0, qK, qI⟩ := q; exact ⟨q0, va_K.moved (u := U) (U := U.calling g mk a) (Vm.Alike.refl U.vm) qK, qI⟩, va_recv hK (at_P hO) (ci := 12) (q0 := 0) rfl rfl, fun U hU hW => ⟨rfl, va_K.moved hW.alike hK, by rw [hU]; exact ⟨⟨hI, hO⟩, c_3, c_4, c_5, c_10, c_11, c_12, c_13, c_17, c_27, c_29, c_30, c_32, c_33, c_44⟩⟩⟩ rfl rfl hl.1 rfl (lv_room (Nat.le_of_ble_eq_true rfl)) dX12_counts_259 ⟨Nat.le_of_ble_eq_true rfl, Nat.le_of_ble_eq_true rfl⟩) hS (fun q _ h => h) (fun q h => h) (fun u t9 H locs ht hvm hw_396 hB hz1 hk1 hS => ?_)
                      obtain ⟨-, ⟨hI, hO⟩, c_3, c_4, c_5, c_10, c_11, c_12, c_13, c_17, c_27, c_29, c_30, c_32, c_33, c_44⟩ := hB
                      rw [ht] at hI hO c_3 c_4 c_5 c_10 c_11 c_12 c_13 c_17 c_27 c_29 c_30 c_32 c_33 c_44
                      clear ht hvm hz1 hk1
                      have he_z_395 := enc_bits z_389e z_390e z_391e z_392e z_393e z_394e z_395e
                      have hg_z_395 : ge1 gm z_371 = ge1 (fc 33) z_371 := n_382f2.2.1 z_371 (by omega) (by unfold pl; omega)
                      have hv_z_395 : ev1 fc (zi 28) (zi 34) (zi 2) (zi 9) f b t z_395 := (ev1_in (gm := gm) ⟨by omega, by omega, hw_361, hw_363⟩ (show z_371 = pl g1 (nb fc q) (ds fc f b t q) by unfold pl nb; rw [if_neg (show ¬ q < 0 by omega), ev_368, ← ez_365]; omega) hg_z_395 (by omega) (enc_q he_z_395 (by omega) (by omega) (by omega)) (enc_g he_z_395 (by omega) (by omega)) (enc_w he_z_395 (by omega)) (by omega))
                      obtain ⟨gb_398, gm_399, rfl, k_gb_398, k_gm_399, x_gb_398⟩ := hw_396
                      have c_3 : va_at (dC, dI) vwCl (am 3, .inl (ca 21, 320, .inl (fc 3))) H := c_3
                      have c_4 : va_at (dC, dI) vwCl (am 4, .inl (ca 20, 40, .inl (fc 4))) H := c_4
                      have c_5 : va_at (dC, dI) vwCl (am 5, .inl (ca 20, 40, .inl (fc 5))) H := c_5
                      have c_10 : va_at (dC, dI) vwCl (am 10, .inl (ca 21, 240, .inl (fc 10))) H := c_10
                      have c_11 : va_at (dC, dI) vwCl (am 11, .inl (ca 20, 24, .inl (fc 11))) H := c_11
                      have c_12 : va_at (dC, dI) vwCl (am 12, .inl (ca 20, 24, .inl (fc 12))) H := c_12
                      have c_13 : va_at (dC, dI) vwCl (am 13, .inl (ca 20, 24, .inl (fc 13))) H := c_13
                      have c_17 : va_at (dC, dI) vwCl (am 17, .inl (ca 22, 36, .inl (fc 17))) H := c_17
                      have c_27 : va_at (dC, dI) vwCl (am 27, .inl (ca 21, 40, .inl (fc 27))) H := c_27
                      have c_29 : va_at (dC, dI) vwCl (am 29, .inl (ca 20, 1600, .inl (fc 29))) H := c_29
                      have c_30 : va_at (dC, dI) vwCl (am 30, .inl (ca 22, 6560, .inl (fc 30))) H := c_30
                      have c_32 : va_at (dC, dI) vwCl (am 32, .inl (ca 20, 52480, .inl gb_398)) H := c_32
                      have c_33 : va_at (dC, dI) vwCl (am 33, .inl (ca 20, 6560, .inl gm_399)) H := c_33
                      have c_44 : va_at (dC, dI) vwCl (am 44, .inl (ca 20, 40, .inl (fc 44))) H := c_44
                      have cn_gb_398 : cn fc (zi 28) (zi 34) (zi 2) (zi 9) f b t gb_398 gm_399 := cn_keep z_3h (by omega) n_382f2 hv_z_395 x_gb_398
                      refine lv_iinc (v := kz (k + 1)) (lv' := [(10, .int (kz (k + 1))), (9, .int (kz (v_378 + v_381))), (8, .int (kz z_371)), (7, .int (kz z_365)), (6, .int (kz q)), (5, .int (kz g1)), (4, .int (kz z_3)), (0, .ref o), (1, .int (kz f)), (2, .int (kz b)), (3, .int (kz t))]) hx hb dX12_counts_262 hl (k := 0) rfl (kz_add k 1) (by decide) rfl (fun ls hl => ?_)
                      refine lv_goto (tgt := 202) hx hb dX12_counts_265 (by decide) ?_
                      exact ihn_382 (n_382 - 1) (by omega) (gb_398, gm_399) (k + 1) _ _ _ ⟨by omega, by omega, cn_gb_398, by omega, lv_sub hl [0, 1, 2, 3, 4, 5, 6, 7, 8, 9, 10] rfl, hI, hO, hS, c_3, c_4, c_5, c_10, c_11, c_12, c_13, c_17, c_27, c_29, c_30, c_32, c_33, c_44, k_gb_398, k_gm_399⟩
                  · refine lv_iconst (v := kz 0) hx hb dX12_counts_185 rfl ?_
                    refine lv_goto (tgt := 196) hx hb dX12_counts_186 (by decide) ?_
                    refine iz_iadd hx hb dX12_counts_196 ?_
                    refine lv_istore (lv' := [(9, .int (kz (v_378 + 0))), (8, .int (kz z_371)), (7, .int (kz z_365)), (6, .int (kz q)), (5, .int (kz g1)), (4, .int (kz z_3)), (0, .ref o), (1, .int (kz f)), (2, .int (kz b)), (3, .int (kz t))]) hx hb dX12_counts_197 hl (by decide) rfl (fun ls hl => ?_)
                    refine lv_iconst (v := kz 0) hx hb dX12_counts_199 rfl ?_
                    refine lv_istore (lv' := [(10, .int (kz 0)), (9, .int (kz (v_378 + 0))), (8, .int (kz z_371)), (7, .int (kz z_365)), (6, .int (kz q)), (5, .int (kz g1)), (4, .int (kz z_3)), (0, .ref o), (1, .int (kz f)), (2, .int (kz b)), (3, .int (kz t))]) hx hb dX12_counts_200 hl (by decide) rfl (fun ls hl => ?_)
                    refine iz_loopA1 (α := (Nat → Int32) × (Nat → Int32)) (P := fun N9 fn9 k H locs ls => (0 ≤ k) ∧ (k ≤ 8) ∧ (cn fc (zi 28) (zi 34) (zi 2) (zi 9) f b t fn9.1 fn9.2) ∧ 8 - k ≤ (N9 : Int) ∧ lv_has ls 11 [(10, .int (kz k)), (9, .int (kz (v_378 + 0))), (8, .int (kz z_371)), (7, .int (kz z_365)), (6, .int (kz q)), (5, .int (kz g1)), (4, .int (kz z_3)), (0, .ref o), (1, .int (kz f)), (2, .int (kz b)), (3, .int (kz t))] ∧ iv (dC, dI) ca A X H ∧ va_at (dC, dI) vwCl (o, .inr (12, mM am zi zl)) H ∧ va_S A s.heap H locs ∧ va_at (dC, dI) vwCl (am 3, .inl (ca 21, 320, .inl (fc 3))) H ∧ va_at (dC, dI) vwCl (am 4, .inl (ca 20, 40, .inl (fc 4))) H ∧ va_at (dC, dI) vwCl (am 5, .inl (ca 20, 40, .inl (fc 5))) H ∧ va_at (dC, dI) vwCl (am 10, .inl (ca 21, 240, .inl (fc 10))) H ∧ va_at (dC, dI) vwCl (am 11, .inl (ca 20, 24, .inl (fc 11))) H ∧ va_at (dC, dI) vwCl (am 12, .inl (ca 20, 24, .inl (fc 12))) H ∧ va_at (dC, dI) vwCl (am 13, .inl (ca 20, 24, .inl (fc 13))) H ∧ va_at (dC, dI) vwCl (am 17, .inl (ca 22, 36, .inl (fc 17))) H ∧ va_at (dC, dI) vwCl (am 27, .inl (ca 21, 40, .inl (fc 27))) H ∧ va_at (dC, dI) vwCl (am 29, .inl (ca 20, 1600, .inl (fc 29))) H ∧ va_at (dC, dI) vwCl (am 30, .inl (ca 22, 6560, .inl (fc 30))) H ∧ va_at (dC, dI) vwCl (am 32, .inl (ca 20, 52480, .inl fn9.1)) H ∧ va_at (dC, dI) vwCl (am 33, .inl (ca 20, 6560, .inl fn9.2)) H ∧ va_at (dC, dI) vwCl (am 44, .inl (ca 20, 40, .inl (fc 44))) H ∧ ok20 X (am 32) 52480 (-2147483648) (2147483647) fn9.1 ∧ ok20 X (am 33) 6560 (0) (8) fn9.2) 100000 (gb, gm) (x0 := 0) ?_ ⟨by omega, by omega, n_359f2, by omega, lv_sub hl [0, 1, 2, 3, 4, 5, 6, 7, 8, 9, 10] rfl, hI, hO, hS, c_3, c_4, c_5, c_10, c_11, c_12, c_13, c_17, c_27, c_29, c_30, c_32, c_33, c_44, k_gb, k_gm⟩
                    intro n_400 ⟨gb, gm⟩ k H locs ls ⟨n_400f0, n_400f1, n_400f2, n_400f3, hl, hI, hO, hS, c_3, c_4, c_5, c_10, c_11, c_12, c_13, c_17, c_27, c_29, c_30, c_32, c_33, c_44, k_gb, k_gm⟩ ihn_400
                    have n_400f2 : cn fc (zi 28) (zi 34) (zi 2) (zi 9) f b t gb gm := n_400f2
                    have c_32 : va_at (dC, dI) vwCl (am 32, .inl (ca 20, 52480, .inl gb)) H := c_32
                    have k_gb : ok20 X (am 32) 52480 (-2147483648) (2147483647) gb := k_gb
                    have c_33 : va_at (dC, dI) vwCl (am 33, .inl (ca 20, 6560, .inl gm)) H := c_33
                    have k_gm : ok20 X (am 33) 6560 (0) (8) gm := k_gm
                    refine lv_iload hx hb dX12_counts_202 (lv_at hl 0 rfl) ?_
                    refine lv_aload_n hx hb dX12_counts_204 rfl (lv_at hl 7 rfl) ?_
                    refine iz_get (D := (dC, dI)) (ci := 12) (v := .ref (am 33)) (C := RX12) (T := TX12) (N := 49) hx hb hts hin hown hK hO rfl 33 (by decide) hL93 (fun _ h9 => h9) rfl dX12_counts_205 ?_
                    refine lv_iload hx hb dX12_counts_208 (lv_at hl 2 rfl) ?_
                    refine iz_iald hx hb hK 0 c_33 rfl (by omega) (by decide) dX12_counts_210 ?_
                    obtain ⟨v_401a, v_401b, v_401c⟩ := k_gm z_371 (by omega)
                    clear v_401c
                    obtain ⟨v_401, ev_401⟩ : ∃ z9 : Int, ge1 gm z_371 = z9 := ⟨_, rfl⟩
                    rw [ev_401] at v_401a v_401b ⊢
                    refine iz_ge (tgt := 268) hx hb dX12_counts_211 (by decide) (by unfold rg2; omega) (fun br_402 => ?_) (fun br_402 => ?_)
                    · refine lv_iinc (v := kz (q + 1)) (lv' := [(6, .int (kz (q + 1))), (10, .int (kz k)), (9, .int (kz (v_378 + 0))), (8, .int (kz z_371)), (7, .int (kz z_365)), (5, .int (kz g1)), (4, .int (kz z_3)), (0, .ref o), (1, .int (kz f)), (2, .int (kz b)), (3, .int (kz t))]) hx hb dX12_counts_268 hl (k := 4) rfl (kz_add q 1) (by decide) rfl (fun ls hl => ?_)
                      refine lv_goto (tgt := 82) hx hb dX12_counts_271 (by decide) ?_
                      exact ihn_359 (n_359 - 1) (by omega) (gb, gm) (q + 1) _ _ _ ⟨by omega, by omega, n_400f2, by omega, lv_sub hl [0, 5, 6, 7, 8, 9, 10] rfl, hI, hO, hS, c_3, c_4, c_5, c_10, c_11, c_12, c_13, c_17, c_27, c_29, c_30, c_32, c_33, c_44, k_gb, k_gm⟩
                    · refine lv_aload_n hx hb dX12_counts_214 rfl (lv_at hl 7 rfl) ?_
                      refine lv_iload hx hb dX12_counts_215 (lv_at hl 6 rfl) ?_
                      refine lv_iload hx hb dX12_counts_217 (lv_at hl 1 rfl) ?_
                      refine lv_aload_n hx hb dX12_counts_219 rfl (lv_at hl 7 rfl) ?_
                      refine iz_get (D := (dC, dI)) (ci := 12) (v := .ref (am 32)) (C := RX12) (T := TX12) (N := 49) hx hb hts hin hown hK hO rfl 32 (by decide) hL90 (fun _ h9 => h9) rfl dX12_counts_220 ?_
                      refine lv_bipush (v := kz 8) hx hb dX12_counts_223 (by decide) ?_
                      refine lv_iload hx hb dX12_counts_225 (lv_at hl 2 rfl) ?_
                      refine iz_imul hx hb dX12_counts_227 ?_
                      refine lv_iload hx hb dX12_counts_228 (lv_at hl 0 rfl) ?_
                      refine iz_iadd hx hb dX12_counts_230 ?_
                      refine iz_iald hx hb hK 0 c_32 rfl (by omega) (by decide) dX12_counts_231 ?_
                      obtain ⟨v_403a, v_403b, v_403c⟩ := k_gb ((8 * z_371) + k) (by omega)
                      clear v_403c
                      obtain ⟨v_403, ev_403⟩ : ∃ z9 : Int, ge1 gb ((8 * z_371) + k) = z9 := ⟨_, rfl⟩
                      rw [ev_403] at v_403a v_403b ⊢
                      refine vp_callSi (va_Run.run (va_runS (As := [.int (kz v_403)]) (rest := [.int (kz (v_378 + 0)), .int (kz z_3), .ref o]) ⟨hx, hb, hml, hown, hts⟩ (m_costOf l v_403) (va_cwS 1 hts gX12_counts_X12_costOf rfl rfl rfl (by decide +kernel) ⟨Nat.le_of_ble_eq_true rfl, Nat.le_of_ble_eq_true rfl⟩) ⟨fun a U g mk q => q, fun U hU hW => ⟨rfl, trivial⟩⟩ rfl rfl hl.1 rfl (lv_room (Nat.le_of_ble_eq_true rfl)) dX12_counts_232 ⟨Nat.le_of_ble_eq_true rfl, Nat.le_of_ble_eq_true rfl⟩)) (fun r_405 hw_404 => ?_)
                      obtain ⟨z_406, z_406a, z_406b, rfl⟩ := kz_ex r_405
                      refine iz_iadd hx hb dX12_counts_235 ?_
                      refine lv_bipush (v := kz 15) hx hb dX12_counts_236 (by decide) ?_
                      refine lv_ishl hx hb dX12_counts_238 ?_
                      refine iz_any (fun z_407 z_407a z_407b z_407e => ?_)
                      refine lv_sipush (v := kz 16384) hx hb dX12_counts_239 (by decide) ?_
                      refine lv_ior hx hb dX12_counts_242 ?_
                      refine iz_any (fun z_408 z_408a z_408b z_408e => ?_)
                      refine lv_iload hx hb dX12_counts_243 (lv_at hl 4 rfl) ?_
                      refine lv_iconst (v := kz 1) hx hb dX12_counts_245 rfl ?_
                      refine iz_iadd hx hb dX12_counts_246 ?_
                      refine lv_bipush (v := kz 9) hx hb dX12_counts_247 (by decide) ?_
                      refine lv_ishl hx hb dX12_counts_249 ?_
                      refine iz_any (fun z_409 z_409a z_409b z_409e => ?_)
                      refine lv_ior hx hb dX12_counts_250 ?_
                      refine iz_any (fun z_410 z_410a z_410b z_410e => ?_)
                      refine lv_iload hx hb dX12_counts_251 (lv_at hl 5 rfl) ?_
                      refine lv_iconst (v := kz 3) hx hb dX12_counts_253 rfl ?_
                      refine lv_ishl hx hb dX12_counts_254 ?_
                      refine iz_any (fun z_411 z_411a z_411b z_411e => ?_)
                      refine lv_ior hx hb dX12_counts_255 ?_
                      refine iz_any (fun z_412 z_412a z_412b z_412e => ?_)
                      refine lv_iload hx hb dX12_counts_256 (lv_at hl 0 rfl) ?_
                      refine lv_ior hx hb dX12_counts_258 ?_
                      refine iz_any (fun z_413 z_413a z_413b z_413e => ?_)
                      refine va_callv (va_runV (As := [.int (kz z_3), .int (kz z_413)]) (rest := []) ⟨hx, hb, hml, hown, hts⟩ (m_keeps l dC dI ca A X o am zi zl (cup (cup fc 32 gb) 33 gm) hM hz ⟨k_4, k_5, k_11, k_12, k_13, k_29, k_gb, k_gm, k_44⟩ z_3 z_413 (by omega) (by omega)) (cwV 2 hts gX12_counts_X12_keeps rfl rfl rfl (by decide +kernel) ⟨Nat.le_of_ble_eq_true rfl, Nat.le_of_ble_eq_true rfl⟩) ⟨fun a U g mk q => by obtain ⟨q0, qK, qI⟩ := q; exact ⟨q0, va_K.moved (u := U) (U := U.calling g mk a) (Vm.Alike.refl U.vm) qK, qI⟩, va_recv hK (at_P hO) (ci := 12) (q0 := 0) rfl rfl, fun U hU hW => ⟨rfl, va_K.moved hW.alike hK, by rw [hU]; exact ⟨⟨hI, hO⟩, c_3, c_4, c_5, c_10, c_11, c_12, c_13, c_17, c_27, c_29, c_30, c_32, c_33, c_44⟩⟩⟩ rfl rfl hl.1 rfl (lv_room (Nat.le_of_ble_eq_true rfl)) dX12_counts_259 ⟨Nat.le_of_ble_eq_true rfl, Nat.le_of_ble_eq_true rfl⟩) hS (fun q _ h => h) (fun q h => h) (fun u t9 H locs ht hvm hw_414 hB hz1 hk1 hS => ?_)
                      obtain ⟨-, ⟨hI, hO⟩, c_3, c_4, c_5, c_10, c_11, c_12, c_13, c_17, c_27, c_29, c_30, c_32, c_33, c_44⟩ := hB
                      rw [ht] at hI hO c_3 c_4 c_5 c_10 c_11 c_12 c_13 c_17 c_27 c_29 c_30 c_32 c_33 c_44
                      clear ht hvm hz1 hk1
                      have he_z_413 := enc_bits z_407e z_408e z_409e z_410e z_411e z_412e z_413e
                      have hg_z_413 : ge1 gm z_371 = ge1 (fc 33) z_371 := n_400f2.2.1 z_371 (by omega) (by unfold pl; omega)
                      have hv_z_413 : ev1 fc (zi 28) (zi 34) (zi 2) (zi 9) f b t z_413 := (ev1_in (gm := gm) ⟨by omega, by omega, hw_361, hw_363⟩ (show z_371 = pl g1 (nb fc q) (ds fc f b t q) by unfold pl nb; rw [if_neg (show ¬ q < 0 by omega), ev_368, ← ez_365]; omega) hg_z_413 (by omega) (enc_q he_z_413 (by omega) (by omega) (by omega)) (enc_g he_z_413 (by omega) (by omega)) (enc_w he_z_413 (by omega)) (by omega))
                      obtain ⟨gb_416, gm_417, rfl, k_gb_416, k_gm_417, x_gb_416⟩ := hw_414
                      have c_3 : va_at (dC, dI) vwCl (am 3, .inl (ca 21, 320, .inl (fc 3))) H := c_3
                      have c_4 : va_at (dC, dI) vwCl (am 4, .inl (ca 20, 40, .inl (fc 4))) H := c_4
                      have c_5 : va_at (dC, dI) vwCl (am 5, .inl (ca 20, 40, .inl (fc 5))) H := c_5
                      have c_10 : va_at (dC, dI) vwCl (am 10, .inl (ca 21, 240, .inl (fc 10))) H := c_10
                      have c_11 : va_at (dC, dI) vwCl (am 11, .inl (ca 20, 24, .inl (fc 11))) H := c_11
                      have c_12 : va_at (dC, dI) vwCl (am 12, .inl (ca 20, 24, .inl (fc 12))) H := c_12
                      have c_13 : va_at (dC, dI) vwCl (am 13, .inl (ca 20, 24, .inl (fc 13))) H := c_13
                      have c_17 : va_at (dC, dI) vwCl (am 17, .inl (ca 22, 36, .inl (fc 17))) H := c_17
                      have c_27 : va_at (dC, dI) vwCl (am 27, .inl (ca 21, 40, .inl (fc 27))) H := c_27
                      have c_29 : va_at (dC, dI) vwCl (am 29, .inl (ca 20, 1600, .inl (fc 29))) H := c_29
                      have c_30 : va_at (dC, dI) vwCl (am 30, .inl (ca 22, 6560, .inl (fc 30))) H := c_30
                      have c_32 : va_at (dC, dI) vwCl (am 32, .inl (ca 20, 52480, .inl gb_416)) H := c_32
                      have c_33 : va_at (dC, dI) vwCl (am 33, .inl (ca 20, 6560, .inl gm_417)) H := c_33
                      have c_44 : va_at (dC, dI) vwCl (am 44, .inl (ca 20, 40, .inl (fc 44))) H := c_44
                      have cn_gb_416 : cn fc (zi 28) (zi 34) (zi 2) (zi 9) f b t gb_416 gm_417 := cn_keep z_3h (by omega) n_400f2 hv_z_413 x_gb_416
                      refine lv_iinc (v := kz (k + 1)) (lv' := [(10, .int (kz (k + 1))), (9, .int (kz (v_378 + 0))), (8, .int (kz z_371)), (7, .int (kz z_365)), (6, .int (kz q)), (5, .int (kz g1)), (4, .int (kz z_3)), (0, .ref o), (1, .int (kz f)), (2, .int (kz b)), (3, .int (kz t))]) hx hb dX12_counts_262 hl (k := 0) rfl (kz_add k 1) (by decide) rfl (fun ls hl => ?_)
                      refine lv_goto (tgt := 202) hx hb dX12_counts_265 (by decide) ?_
                      exact ihn_400 (n_400 - 1) (by omega) (gb_416, gm_417) (k + 1) _ _ _ ⟨by omega, by omega, cn_gb_416, by omega, lv_sub hl [0, 1, 2, 3, 4, 5, 6, 7, 8, 9, 10] rfl, hI, hO, hS, c_3, c_4, c_5, c_10, c_11, c_12, c_13, c_17, c_27, c_29, c_30, c_32, c_33, c_44, k_gb_416, k_gm_417⟩
                · refine lv_iconst (v := kz 0) hx hb dX12_counts_132 rfl ?_
                  refine lv_goto (tgt := 143) hx hb dX12_counts_133 (by decide) ?_
                  refine lv_iload hx hb dX12_counts_143 (lv_at hl 0 rfl) ?_
                  refine vp_callSi (va_Run.run (va_runS (As := [.int (kz g1), .int (kz 0), .int (kz z_365)]) (rest := []) ⟨hx, hb, hml, hown, hts⟩ (m_placeOf l g1 0 z_365) (va_cwS 3 hts gX12_counts_X12_placeOf rfl rfl rfl (by decide +kernel) ⟨Nat.le_of_ble_eq_true rfl, Nat.le_of_ble_eq_true rfl⟩) ⟨fun a U g mk q => q, fun U hU hW => ⟨rfl, trivial⟩⟩ rfl rfl hl.1 rfl (lv_room (Nat.le_of_ble_eq_true rfl)) dX12_counts_145 ⟨Nat.le_of_ble_eq_true rfl, Nat.le_of_ble_eq_true rfl⟩)) (fun r_419 hw_418 => ?_)
                  obtain ⟨z_420, rfl, z_420h⟩ := hw_418
                  refine lv_istore (lv' := [(8, .int (kz z_420)), (7, .int (kz z_365)), (6, .int (kz q)), (5, .int (kz g1)), (4, .int (kz z_3)), (0, .ref o), (1, .int (kz f)), (2, .int (kz b)), (3, .int (kz t))]) hx hb dX12_counts_148 hl (by decide) rfl (fun ls hl => ?_)
                  refine lv_aload_n hx hb dX12_counts_150 rfl (lv_at hl 5 rfl) ?_
                  refine iz_get (D := (dC, dI)) (ci := 12) (v := .ref (am 31)) (C := RX12) (T := TX12) (N := 49) hx hb hts hin hown hK hO rfl 31 (by decide) hL85 (fun _ h9 => h9) rfl dX12_counts_151 ?_
                  refine lv_iload hx hb dX12_counts_154 (lv_at hl 4 rfl) ?_
                  refine lv_aload_n hx hb dX12_counts_156 rfl (lv_at hl 5 rfl) ?_
                  refine iz_get (D := (dC, dI)) (ci := 12) (v := .ref (am 31)) (C := RX12) (T := TX12) (N := 49) hx hb hts hin hown hK hO rfl 31 (by decide) hL85 (fun _ h9 => h9) rfl dX12_counts_157 ?_
                  refine lv_iload hx hb dX12_counts_160 (lv_at hl 4 rfl) ?_
                  obtain ⟨f31_421, c_f31_421⟩ := iv_o23 hI g31
                  refine iz_lald hx hb hK 3 c_f31_421 rfl (by omega) (by decide) dX12_counts_162 ?_
                  refine lv_topl (fun y_422 ey_422 => ?_)
                  refine lv_aload_n hx hb dX12_counts_163 rfl (lv_at hl 5 rfl) ?_
                  refine iz_get (D := (dC, dI)) (ci := 12) (v := .ref (am 31)) (C := RX12) (T := TX12) (N := 49) hx hb hts hin hown hK hO rfl 31 (by decide) hL85 (fun _ h9 => h9) rfl dX12_counts_164 ?_
                  refine lv_iload hx hb dX12_counts_167 (lv_at hl 0 rfl) ?_
                  refine iz_lald hx hb hK 3 c_f31_421 rfl (by omega) (by decide) dX12_counts_169 ?_
                  refine lv_topl (fun y_423 ey_423 => ?_)
                  refine vp_callSl (va_Run.run (va_runS (As := [.long y_422, .long y_423]) (rest := [.int (kz z_3), .ref (am 31)]) ⟨hx, hb, hml, hown, hts⟩ (m_plus l y_422 y_423) (va_cwS 2 hts gX12_counts_X12_plus rfl rfl rfl (by decide +kernel) ⟨Nat.le_of_ble_eq_true rfl, Nat.le_of_ble_eq_true rfl⟩) ⟨fun a U g mk q => q, fun U hU hW => ⟨rfl, trivial⟩⟩ rfl rfl hl.1 rfl (lv_room (Nat.le_of_ble_eq_true rfl)) dX12_counts_170 ⟨Nat.le_of_ble_eq_true rfl, Nat.le_of_ble_eq_true rfl⟩)) (fun r_425 hw_424 => ?_)
                  refine iz_last hx hb hK 3 c_f31_421 hS (iv_A hI g31 (by decide)) rfl (by omega) (by decide) dX12_counts_173 (fun H locs c9 oq hS => ?_)
                  have hI := iv_s23 hI g31 c9 oq
                  have hO := hO.kept (oq _ (iv_ne0 g31 hM.2.1 (by decide)).symm)
                  have c_3 := c_3.kept (oq _ (iv_ne g3 g31 (by decide)))
                  have c_4 := c_4.kept (oq _ (iv_ne g4 g31 (by decide)))
                  have c_5 := c_5.kept (oq _ (iv_ne g5 g31 (by decide)))
                  have c_10 := c_10.kept (oq _ (iv_ne g10 g31 (by decide)))
                  have c_11 := c_11.kept (oq _ (iv_ne g11 g31 (by decide)))
                  have c_12 := c_12.kept (oq _ (iv_ne g12 g31 (by decide)))
                  have c_13 := c_13.kept (oq _ (iv_ne g13 g31 (by decide)))
                  have c_17 := c_17.kept (oq _ (iv_ne g17 g31 (by decide)))
                  have c_27 := c_27.kept (oq _ (iv_ne g27 g31 (by decide)))
                  have c_29 := c_29.kept (oq _ (iv_ne g29 g31 (by decide)))
                  have c_30 := c_30.kept (oq _ (iv_ne g30 g31 (by decide)))
                  have c_32 := c_32.kept (oq _ (iv_ne g32 g31 (by decide)))
                  have c_33 := c_33.kept (oq _ (iv_ne g33 g31 (by decide)))
                  have c_44 := c_44.kept (oq _ (iv_ne g44 g31 (by decide)))
                  clear oq c9
                  refine lv_aload_n hx hb dX12_counts_174 rfl (lv_at hl 5 rfl) ?_
                  refine iz_get (D := (dC, dI)) (ci := 12) (v := .ref (am 7)) (C := RX12) (T := TX12) (N := 49) hx hb hts hin hown hK hO rfl 7 (by decide) hL26 (fun _ h9 => h9) rfl dX12_counts_175 ?_
                  refine lv_iload_n hx hb dX12_counts_178 rfl (lv_at hl 6 rfl) ?_
                  obtain ⟨f7_426, c_f7_426, k_f7_426⟩ := iv_o20 hI g7
                  refine iz_iald hx hb hK 0 c_f7_426 rfl (by omega) (by decide) dX12_counts_179 ?_
                  obtain ⟨v_427a, v_427b, v_427c⟩ := k_f7_426 f (by omega)
                  clear v_427c
                  obtain ⟨v_427, ev_427⟩ : ∃ z9 : Int, ge1 f7_426 f = z9 := ⟨_, rfl⟩
                  rw [ev_427] at v_427a v_427b ⊢
                  refine lv_iload hx hb dX12_counts_180 (lv_at hl 2 rfl) ?_
                  refine iz_gez (tgt := 189) hx hb dX12_counts_182 (by decide) (by unfold rg2; omega) (fun br_428 => ?_) (fun br_428 => ?_)
                  · refine lv_aload_n hx hb dX12_counts_189 rfl (lv_at hl 5 rfl) ?_
                    refine iz_get (D := (dC, dI)) (ci := 12) (v := .ref (am 14)) (C := RX12) (T := TX12) (N := 49) hx hb hts hin hown hK hO rfl 14 (by decide) hL45 (fun _ h9 => h9) rfl dX12_counts_190 ?_
                    refine lv_iload hx hb dX12_counts_193 (lv_at hl 2 rfl) ?_
                    obtain ⟨f14_429, c_f14_429, k_f14_429⟩ := iv_o20 hI g14
                    refine iz_iald hx hb hK 0 c_f14_429 rfl (by omega) (by decide) dX12_counts_195 ?_
                    obtain ⟨v_430a, v_430b, v_430c⟩ := k_f14_429 q (by omega)
                    clear v_430c
                    obtain ⟨v_430, ev_430⟩ : ∃ z9 : Int, ge1 f14_429 q = z9 := ⟨_, rfl⟩
                    rw [ev_430] at v_430a v_430b ⊢
                    refine iz_iadd hx hb dX12_counts_196 ?_
                    refine lv_istore (lv' := [(9, .int (kz (v_427 + v_430))), (8, .int (kz z_420)), (7, .int (kz z_365)), (6, .int (kz q)), (5, .int (kz g1)), (4, .int (kz z_3)), (0, .ref o), (1, .int (kz f)), (2, .int (kz b)), (3, .int (kz t))]) hx hb dX12_counts_197 hl (by decide) rfl (fun ls hl => ?_)
                    refine lv_iconst (v := kz 0) hx hb dX12_counts_199 rfl ?_
                    refine lv_istore (lv' := [(10, .int (kz 0)), (9, .int (kz (v_427 + v_430))), (8, .int (kz z_420)), (7, .int (kz z_365)), (6, .int (kz q)), (5, .int (kz g1)), (4, .int (kz z_3)), (0, .ref o), (1, .int (kz f)), (2, .int (kz b)), (3, .int (kz t))]) hx hb dX12_counts_200 hl (by decide) rfl (fun ls hl => ?_)
                    refine iz_loopA1 (α := (Nat → Int32) × (Nat → Int32)) (P := fun N9 fn9 k H locs ls => (0 ≤ k) ∧ (k ≤ 8) ∧ (cn fc (zi 28) (zi 34) (zi 2) (zi 9) f b t fn9.1 fn9.2) ∧ 8 - k ≤ (N9 : Int) ∧ lv_has ls 11 [(10, .int (kz k)), (9, .int (kz (v_427 + v_430))), (8, .int (kz z_420)), (7, .int (kz z_365)), (6, .int (kz q)), (5, .int (kz g1)), (4, .int (kz z_3)), (0, .ref o), (1, .int (kz f)), (2, .int (kz b)), (3, .int (kz t))] ∧ iv (dC, dI) ca A X H ∧ va_at (dC, dI) vwCl (o, .inr (12, mM am zi zl)) H ∧ va_S A s.heap H locs ∧ va_at (dC, dI) vwCl (am 3, .inl (ca 21, 320, .inl (fc 3))) H ∧ va_at (dC, dI) vwCl (am 4, .inl (ca 20, 40, .inl (fc 4))) H ∧ va_at (dC, dI) vwCl (am 5, .inl (ca 20, 40, .inl (fc 5))) H ∧ va_at (dC, dI) vwCl (am 10, .inl (ca 21, 240, .inl (fc 10))) H ∧ va_at (dC, dI) vwCl (am 11, .inl (ca 20, 24, .inl (fc 11))) H ∧ va_at (dC, dI) vwCl (am 12, .inl (ca 20, 24, .inl (fc 12))) H ∧ va_at (dC, dI) vwCl (am 13, .inl (ca 20, 24, .inl (fc 13))) H ∧ va_at (dC, dI) vwCl (am 17, .inl (ca 22, 36, .inl (fc 17))) H ∧ va_at (dC, dI) vwCl (am 27, .inl (ca 21, 40, .inl (fc 27))) H ∧ va_at (dC, dI) vwCl (am 29, .inl (ca 20, 1600, .inl (fc 29))) H ∧ va_at (dC, dI) vwCl (am 30, .inl (ca 22, 6560, .inl (fc 30))) H ∧ va_at (dC, dI) vwCl (am 32, .inl (ca 20, 52480, .inl fn9.1)) H ∧ va_at (dC, dI) vwCl (am 33, .inl (ca 20, 6560, .inl fn9.2)) H ∧ va_at (dC, dI) vwCl (am 44, .inl (ca 20, 40, .inl (fc 44))) H ∧ ok20 X (am 32) 52480 (-2147483648) (2147483647) fn9.1 ∧ ok20 X (am 33) 6560 (0) (8) fn9.2) 100000 (gb, gm) (x0 := 0) ?_ ⟨by omega, by omega, n_359f2, by omega, lv_sub hl [0, 1, 2, 3, 4, 5, 6, 7, 8, 9, 10] rfl, hI, hO, hS, c_3, c_4, c_5, c_10, c_11, c_12, c_13, c_17, c_27, c_29, c_30, c_32, c_33, c_44, k_gb, k_gm⟩
                    intro n_431 ⟨gb, gm⟩ k H locs ls ⟨n_431f0, n_431f1, n_431f2, n_431f3, hl, hI, hO, hS, c_3, c_4, c_5, c_10, c_11, c_12, c_13, c_17, c_27, c_29, c_30, c_32, c_33, c_44, k_gb, k_gm⟩ ihn_431
                    have n_431f2 : cn fc (zi 28) (zi 34) (zi 2) (zi 9) f b t gb gm := n_431f2
                    have c_32 : va_at (dC, dI) vwCl (am 32, .inl (ca 20, 52480, .inl gb)) H := c_32
                    have k_gb : ok20 X (am 32) 52480 (-2147483648) (2147483647) gb := k_gb
                    have c_33 : va_at (dC, dI) vwCl (am 33, .inl (ca 20, 6560, .inl gm)) H := c_33
                    have k_gm : ok20 X (am 33) 6560 (0) (8) gm := k_gm
                    refine lv_iload hx hb dX12_counts_202 (lv_at hl 0 rfl) ?_
                    refine lv_aload_n hx hb dX12_counts_204 rfl (lv_at hl 7 rfl) ?_
                    refine iz_get (D := (dC, dI)) (ci := 12) (v := .ref (am 33)) (C := RX12) (T := TX12) (N := 49) hx hb hts hin hown hK hO rfl 33 (by decide) hL93 (fun _ h9 => h9) rfl dX12_counts_205 ?_
                    refine lv_iload hx hb dX12_counts_208 (lv_at hl 2 rfl) ?_
                    refine iz_iald hx hb hK 0 c_33 rfl (by omega) (by decide) dX12_counts_210 ?_
                    obtain ⟨v_432a, v_432b, v_432c⟩ := k_gm z_420 (by omega)
                    clear v_432c
                    obtain ⟨v_432, ev_432⟩ : ∃ z9 : Int, ge1 gm z_420 = z9 := ⟨_, rfl⟩
                    rw [ev_432] at v_432a v_432b ⊢
                    refine iz_ge (tgt := 268) hx hb dX12_counts_211 (by decide) (by unfold rg2; omega) (fun br_433 => ?_) (fun br_433 => ?_)
                    · refine lv_iinc (v := kz (q + 1)) (lv' := [(6, .int (kz (q + 1))), (10, .int (kz k)), (9, .int (kz (v_427 + v_430))), (8, .int (kz z_420)), (7, .int (kz z_365)), (5, .int (kz g1)), (4, .int (kz z_3)), (0, .ref o), (1, .int (kz f)), (2, .int (kz b)), (3, .int (kz t))]) hx hb dX12_counts_268 hl (k := 4) rfl (kz_add q 1) (by decide) rfl (fun ls hl => ?_)
                      refine lv_goto (tgt := 82) hx hb dX12_counts_271 (by decide) ?_
                      exact ihn_359 (n_359 - 1) (by omega) (gb, gm) (q + 1) _ _ _ ⟨by omega, by omega, n_431f2, by omega, lv_sub hl [0, 5, 6, 7, 8, 9, 10] rfl, hI, hO, hS, c_3, c_4, c_5, c_10, c_11, c_12, c_13, c_17, c_27, c_29, c_30, c_32, c_33, c_44, k_gb, k_gm⟩
                    · refine lv_aload_n hx hb dX12_counts_214 rfl (lv_at hl 7 rfl) ?_
                      refine lv_iload hx hb dX12_counts_215 (lv_at hl 6 rfl) ?_
                      refine lv_iload hx hb dX12_counts_217 (lv_at hl 1 rfl) ?_
                      refine lv_aload_n hx hb dX12_counts_219 rfl (lv_at hl 7 rfl) ?_
                      refine iz_get (D := (dC, dI)) (ci := 12) (v := .ref (am 32)) (C := RX12) (T := TX12) (N := 49) hx hb hts hin hown hK hO rfl 32 (by decide) hL90 (fun _ h9 => h9) rfl dX12_counts_220 ?_
                      refine lv_bipush (v := kz 8) hx hb dX12_counts_223 (by decide) ?_
                      refine lv_iload hx hb dX12_counts_225 (lv_at hl 2 rfl) ?_
                      refine iz_imul hx hb dX12_counts_227 ?_
                      refine lv_iload hx hb dX12_counts_228 (lv_at hl 0 rfl) ?_
                      refine iz_iadd hx hb dX12_counts_230 ?_
                      refine iz_iald hx hb hK 0 c_32 rfl (by omega) (by decide) dX12_counts_231 ?_
                      obtain ⟨v_434a, v_434b, v_434c⟩ := k_gb ((8 * z_420) + k) (by omega)
                      clear v_434c
                      obtain ⟨v_434, ev_434⟩ : ∃ z9 : Int, ge1 gb ((8 * z_420) + k) = z9 := ⟨_, rfl⟩
                      rw [ev_434] at v_434a v_434b ⊢
                      refine vp_callSi (va_Run.run (va_runS (As := [.int (kz v_434)]) (rest := [.int (kz (v_427 + v_430)), .int (kz z_3), .ref o]) ⟨hx, hb, hml, hown, hts⟩ (m_costOf l v_434) (va_cwS 1 hts gX12_counts_X12_costOf rfl rfl rfl (by decide +kernel) ⟨Nat.le_of_ble_eq_true rfl, Nat.le_of_ble_eq_true rfl⟩) ⟨fun a U g mk q => q, fun U hU hW => ⟨rfl, trivial⟩⟩ rfl rfl hl.1 rfl (lv_room (Nat.le_of_ble_eq_true rfl)) dX12_counts_232 ⟨Nat.le_of_ble_eq_true rfl, Nat.le_of_ble_eq_true rfl⟩)) (fun r_436 hw_435 => ?_)
                      obtain ⟨z_437, z_437a, z_437b, rfl⟩ := kz_ex r_436
                      refine iz_iadd hx hb dX12_counts_235 ?_
                      refine lv_bipush (v := kz 15) hx hb dX12_counts_236 (by decide) ?_
                      refine lv_ishl hx hb dX12_counts_238 ?_
                      refine iz_any (fun z_438 z_438a z_438b z_438e => ?_)
                      refine lv_sipush (v := kz 16384) hx hb dX12_counts_239 (by decide) ?_
                      refine lv_ior hx hb dX12_counts_242 ?_
                      refine iz_any (fun z_439 z_439a z_439b z_439e => ?_)
                      refine lv_iload hx hb dX12_counts_243 (lv_at hl 4 rfl) ?_
                      refine lv_iconst (v := kz 1) hx hb dX12_counts_245 rfl ?_
                      refine iz_iadd hx hb dX12_counts_246 ?_
                      refine lv_bipush (v := kz 9) hx hb dX12_counts_247 (by decide) ?_
                      refine lv_ishl hx hb dX12_counts_249 ?_
                      refine iz_any (fun z_440 z_440a z_440b z_440e => ?_)
                      refine lv_ior hx hb dX12_counts_250 ?_
                      refine iz_any (fun z_441 z_441a z_441b z_441e => ?_)
                      refine lv_iload hx hb dX12_counts_251 (lv_at hl 5 rfl) ?_
                      refine lv_iconst (v := kz 3) hx hb dX12_counts_253 rfl ?_
                      refine lv_ishl hx hb dX12_counts_254 ?_
                      refine iz_any (fun z_442 z_442a z_442b z_442e => ?_)
                      refine lv_ior hx hb dX12_counts_255 ?_
                      refine iz_any (fun z_443 z_443a z_443b z_443e => ?_)
                      refine lv_iload hx hb dX12_counts_256 (lv_at hl 0 rfl) ?_
                      refine lv_ior hx hb dX12_counts_258 ?_
                      refine iz_any (fun z_444 z_444a z_444b z_444e => ?_)
                      refine va_callv (va_runV (As := [.int (kz z_3), .int (kz z_444)]) (rest := []) ⟨hx, hb, hml, hown, hts⟩ (m_keeps l dC dI ca A X o am zi zl (cup (cup fc 32 gb) 33 gm) hM hz ⟨k_4, k_5, k_11, k_12, k_13, k_29, k_gb, k_gm, k_44⟩ z_3 z_444 (by omega) (by omega)) (cwV 2 hts gX12_counts_X12_keeps rfl rfl rfl (by decide +kernel) ⟨Nat.le_of_ble_eq_true rfl, Nat.le_of_ble_eq_true rfl⟩) ⟨fun a U g mk q => by obtain ⟨q0, qK, qI⟩ := q; exact ⟨q0, va_K.moved (u := U) (U := U.calling g mk a) (Vm.Alike.refl U.vm) qK, qI⟩, va_recv hK (at_P hO) (ci := 12) (q0 := 0) rfl rfl, fun U hU hW => ⟨rfl, va_K.moved hW.alike hK, by rw [hU]; exact ⟨⟨hI, hO⟩, c_3, c_4, c_5, c_10, c_11, c_12, c_13, c_17, c_27, c_29, c_30, c_32, c_33, c_44⟩⟩⟩ rfl rfl hl.1 rfl (lv_room (Nat.le_of_ble_eq_true rfl)) dX12_counts_259 ⟨Nat.le_of_ble_eq_true rfl, Nat.le_of_ble_eq_true rfl⟩) hS (fun q _ h => h) (fun q h => h) (fun u t9 H locs ht hvm hw_445 hB hz1 hk1 hS => ?_)
                      obtain ⟨-, ⟨hI, hO⟩, c_3, c_4, c_5, c_10, c_11, c_12, c_13, c_17, c_27, c_29, c_30, c_32, c_33, c_44⟩ := hB
                      rw [ht] at hI hO c_3 c_4 c_5 c_10 c_11 c_12 c_13 c_17 c_27 c_29 c_30 c_32 c_33 c_44
                      clear ht hvm hz1 hk1
                      have he_z_444 := enc_bits z_438e z_439e z_440e z_441e z_442e z_443e z_444e
                      have hg_z_444 : ge1 gm z_420 = ge1 (fc 33) z_420 := n_431f2.2.1 z_420 (by omega) (by unfold pl; omega)
                      have hv_z_444 : ev1 fc (zi 28) (zi 34) (zi 2) (zi 9) f b t z_444 := (ev1_in (gm := gm) ⟨by omega, by omega, hw_361, hw_363⟩ (show z_420 = pl g1 (nb fc q) (ds fc f b t q) by unfold pl nb; rw [if_pos (show q < 0 by omega), ← ez_365]; omega) hg_z_444 (by omega) (enc_q he_z_444 (by omega) (by omega) (by omega)) (enc_g he_z_444 (by omega) (by omega)) (enc_w he_z_444 (by omega)) (by omega))
                      obtain ⟨gb_447, gm_448, rfl, k_gb_447, k_gm_448, x_gb_447⟩ := hw_445
                      have c_3 : va_at (dC, dI) vwCl (am 3, .inl (ca 21, 320, .inl (fc 3))) H := c_3
                      have c_4 : va_at (dC, dI) vwCl (am 4, .inl (ca 20, 40, .inl (fc 4))) H := c_4
                      have c_5 : va_at (dC, dI) vwCl (am 5, .inl (ca 20, 40, .inl (fc 5))) H := c_5
                      have c_10 : va_at (dC, dI) vwCl (am 10, .inl (ca 21, 240, .inl (fc 10))) H := c_10
                      have c_11 : va_at (dC, dI) vwCl (am 11, .inl (ca 20, 24, .inl (fc 11))) H := c_11
                      have c_12 : va_at (dC, dI) vwCl (am 12, .inl (ca 20, 24, .inl (fc 12))) H := c_12
                      have c_13 : va_at (dC, dI) vwCl (am 13, .inl (ca 20, 24, .inl (fc 13))) H := c_13
                      have c_17 : va_at (dC, dI) vwCl (am 17, .inl (ca 22, 36, .inl (fc 17))) H := c_17
                      have c_27 : va_at (dC, dI) vwCl (am 27, .inl (ca 21, 40, .inl (fc 27))) H := c_27
                      have c_29 : va_at (dC, dI) vwCl (am 29, .inl (ca 20, 1600, .inl (fc 29))) H := c_29
                      have c_30 : va_at (dC, dI) vwCl (am 30, .inl (ca 22, 6560, .inl (fc 30))) H := c_30
                      have c_32 : va_at (dC, dI) vwCl (am 32, .inl (ca 20, 52480, .inl gb_447)) H := c_32
                      have c_33 : va_at (dC, dI) vwCl (am 33, .inl (ca 20, 6560, .inl gm_448)) H := c_33
                      have c_44 : va_at (dC, dI) vwCl (am 44, .inl (ca 20, 40, .inl (fc 44))) H := c_44
                      have cn_gb_447 : cn fc (zi 28) (zi 34) (zi 2) (zi 9) f b t gb_447 gm_448 := cn_keep z_3h (by omega) n_431f2 hv_z_444 x_gb_447
                      refine lv_iinc (v := kz (k + 1)) (lv' := [(10, .int (kz (k + 1))), (9, .int (kz (v_427 + v_430))), (8, .int (kz z_420)), (7, .int (kz z_365)), (6, .int (kz q)), (5, .int (kz g1)), (4, .int (kz z_3)), (0, .ref o), (1, .int (kz f)), (2, .int (kz b)), (3, .int (kz t))]) hx hb dX12_counts_262 hl (k := 0) rfl (kz_add k 1) (by decide) rfl (fun ls hl => ?_)
                      refine lv_goto (tgt := 202) hx hb dX12_counts_265 (by decide) ?_
                      exact ihn_431 (n_431 - 1) (by omega) (gb_447, gm_448) (k + 1) _ _ _ ⟨by omega, by omega, cn_gb_447, by omega, lv_sub hl [0, 1, 2, 3, 4, 5, 6, 7, 8, 9, 10] rfl, hI, hO, hS, c_3, c_4, c_5, c_10, c_11, c_12, c_13, c_17, c_27, c_29, c_30, c_32, c_33, c_44, k_gb_447, k_gm_448⟩
                  · refine lv_iconst (v := kz 0) hx hb dX12_counts_185 rfl ?_
                    refine lv_goto (tgt := 196) hx hb dX12_counts_186 (by decide) ?_
                    refine iz_iadd hx hb dX12_counts_196 ?_
                    refine lv_istore (lv' := [(9, .int (kz (v_427 + 0))), (8, .int (kz z_420)), (7, .int (kz z_365)), (6, .int (kz q)), (5, .int (kz g1)), (4, .int (kz z_3)), (0, .ref o), (1, .int (kz f)), (2, .int (kz b)), (3, .int (kz t))]) hx hb dX12_counts_197 hl (by decide) rfl (fun ls hl => ?_)
                    refine lv_iconst (v := kz 0) hx hb dX12_counts_199 rfl ?_
                    refine lv_istore (lv' := [(10, .int (kz 0)), (9, .int (kz (v_427 + 0))), (8, .int (kz z_420)), (7, .int (kz z_365)), (6, .int (kz q)), (5, .int (kz g1)), (4, .int (kz z_3)), (0, .ref o), (1, .int (kz f)), (2, .int (kz b)), (3, .int (kz t))]) hx hb dX12_counts_200 hl (by decide) rfl (fun ls hl => ?_)
                    refine iz_loopA1 (α := (Nat → Int32) × (Nat → Int32)) (P := fun N9 fn9 k H locs ls => (0 ≤ k) ∧ (k ≤ 8) ∧ (cn fc (zi 28) (zi 34) (zi 2) (zi 9) f b t fn9.1 fn9.2) ∧ 8 - k ≤ (N9 : Int) ∧ lv_has ls 11 [(10, .int (kz k)), (9, .int (kz (v_427 + 0))), (8, .int (kz z_420)), (7, .int (kz z_365)), (6, .int (kz q)), (5, .int (kz g1)), (4, .int (kz z_3)), (0, .ref o), (1, .int (kz f)), (2, .int (kz b)), (3, .int (kz t))] ∧ iv (dC, dI) ca A X H ∧ va_at (dC, dI) vwCl (o, .inr (12, mM am zi zl)) H ∧ va_S A s.heap H locs ∧ va_at (dC, dI) vwCl (am 3, .inl (ca 21, 320, .inl (fc 3))) H ∧ va_at (dC, dI) vwCl (am 4, .inl (ca 20, 40, .inl (fc 4))) H ∧ va_at (dC, dI) vwCl (am 5, .inl (ca 20, 40, .inl (fc 5))) H ∧ va_at (dC, dI) vwCl (am 10, .inl (ca 21, 240, .inl (fc 10))) H ∧ va_at (dC, dI) vwCl (am 11, .inl (ca 20, 24, .inl (fc 11))) H ∧ va_at (dC, dI) vwCl (am 12, .inl (ca 20, 24, .inl (fc 12))) H ∧ va_at (dC, dI) vwCl (am 13, .inl (ca 20, 24, .inl (fc 13))) H ∧ va_at (dC, dI) vwCl (am 17, .inl (ca 22, 36, .inl (fc 17))) H ∧ va_at (dC, dI) vwCl (am 27, .inl (ca 21, 40, .inl (fc 27))) H ∧ va_at (dC, dI) vwCl (am 29, .inl (ca 20, 1600, .inl (fc 29))) H ∧ va_at (dC, dI) vwCl (am 30, .inl (ca 22, 6560, .inl (fc 30))) H ∧ va_at (dC, dI) vwCl (am 32, .inl (ca 20, 52480, .inl fn9.1)) H ∧ va_at (dC, dI) vwCl (am 33, .inl (ca 20, 6560, .inl fn9.2)) H ∧ va_at (dC, dI) vwCl (am 44, .inl (ca 20, 40, .inl (fc 44))) H ∧ ok20 X (am 32) 52480 (-2147483648) (2147483647) fn9.1 ∧ ok20 X (am 33) 6560 (0) (8) fn9.2) 100000 (gb, gm) (x0 := 0) ?_ ⟨by omega, by omega, n_359f2, by omega, lv_sub hl [0, 1, 2, 3, 4, 5, 6, 7, 8, 9, 10] rfl, hI, hO, hS, c_3, c_4, c_5, c_10, c_11, c_12, c_13, c_17, c_27, c_29, c_30, c_32, c_33, c_44, k_gb, k_gm⟩
                    intro n_449 ⟨gb, gm⟩ k H locs ls ⟨n_449f0, n_449f1, n_449f2, n_449f3, hl, hI, hO, hS, c_3, c_4, c_5, c_10, c_11, c_12, c_13, c_17, c_27, c_29, c_30, c_32, c_33, c_44, k_gb, k_gm⟩ ihn_449
                    have n_449f2 : cn fc (zi 28) (zi 34) (zi 2) (zi 9) f b t gb gm := n_449f2
                    have c_32 : va_at (dC, dI) vwCl (am 32, .inl (ca 20, 52480, .inl gb)) H := c_32
                    have k_gb : ok20 X (am 32) 52480 (-2147483648) (2147483647) gb := k_gb
                    have c_33 : va_at (dC, dI) vwCl (am 33, .inl (ca 20, 6560, .inl gm)) H := c_33
                    have k_gm : ok20 X (am 33) 6560 (0) (8) gm := k_gm
                    refine lv_iload hx hb dX12_counts_202 (lv_at hl 0 rfl) ?_
                    refine lv_aload_n hx hb dX12_counts_204 rfl (lv_at hl 7 rfl) ?_
                    refine iz_get (D := (dC, dI)) (ci := 12) (v := .ref (am 33)) (C := RX12) (T := TX12) (N := 49) hx hb hts hin hown hK hO rfl 33 (by decide) hL93 (fun _ h9 => h9) rfl dX12_counts_205 ?_
                    refine lv_iload hx hb dX12_counts_208 (lv_at hl 2 rfl) ?_
                    refine iz_iald hx hb hK 0 c_33 rfl (by omega) (by decide) dX12_counts_210 ?_
                    obtain ⟨v_450a, v_450b, v_450c⟩ := k_gm z_420 (by omega)
                    clear v_450c
                    obtain ⟨v_450, ev_450⟩ : ∃ z9 : Int, ge1 gm z_420 = z9 := ⟨_, rfl⟩
                    rw [ev_450] at v_450a v_450b ⊢
                    refine iz_ge (tgt := 268) hx hb dX12_counts_211 (by decide) (by unfold rg2; omega) (fun br_451 => ?_) (fun br_451 => ?_)
                    · refine lv_iinc (v := kz (q + 1)) (lv' := [(6, .int (kz (q + 1))), (10, .int (kz k)), (9, .int (kz (v_427 + 0))), (8, .int (kz z_420)), (7, .int (kz z_365)), (5, .int (kz g1)), (4, .int (kz z_3)), (0, .ref o), (1, .int (kz f)), (2, .int (kz b)), (3, .int (kz t))]) hx hb dX12_counts_268 hl (k := 4) rfl (kz_add q 1) (by decide) rfl (fun ls hl => ?_)
                      refine lv_goto (tgt := 82) hx hb dX12_counts_271 (by decide) ?_
                      exact ihn_359 (n_359 - 1) (by omega) (gb, gm) (q + 1) _ _ _ ⟨by omega, by omega, n_449f2, by omega, lv_sub hl [0, 5, 6, 7, 8, 9, 10] rfl, hI, hO, hS, c_3, c_4, c_5, c_10, c_11, c_12, c_13, c_17, c_27, c_29, c_30, c_32, c_33, c_44, k_gb, k_gm⟩
                    · refine lv_aload_n hx hb dX12_counts_214 rfl (lv_at hl 7 rfl) ?_
                      refine lv_iload hx hb dX12_counts_215 (lv_at hl 6 rfl) ?_
                      refine lv_iload hx hb dX12_counts_217 (lv_at hl 1 rfl) ?_
                      refine lv_aload_n hx hb dX12_counts_219 rfl (lv_at hl 7 rfl) ?_
                      refine iz_get (D := (dC, dI)) (ci := 12) (v := .ref (am 32)) (C := RX12) (T := TX12) (N := 49) hx hb hts hin hown hK hO rfl 32 (by decide) hL90 (fun _ h9 => h9) rfl dX12_counts_220 ?_
                      refine lv_bipush (v := kz 8) hx hb dX12_counts_223 (by decide) ?_
                      refine lv_iload hx hb dX12_counts_225 (lv_at hl 2 rfl) ?_
                      refine iz_imul hx hb dX12_counts_227 ?_
                      refine lv_iload hx hb dX12_counts_228 (lv_at hl 0 rfl) ?_
                      refine iz_iadd hx hb dX12_counts_230 ?_
                      refine iz_iald hx hb hK 0 c_32 rfl (by omega) (by decide) dX12_counts_231 ?_
                      obtain ⟨v_452a, v_452b, v_452c⟩ := k_gb ((8 * z_420) + k) (by omega)
                      clear v_452c
                      obtain ⟨v_452, ev_452⟩ : ∃ z9 : Int, ge1 gb ((8 * z_420) + k) = z9 := ⟨_, rfl⟩
                      rw [ev_452] at v_452a v_452b ⊢
                      refine vp_callSi (va_Run.run (va_runS (As := [.int (kz v_452)]) (rest := [.int (kz (v_427 + 0)), .int (kz z_3), .ref o]) ⟨hx, hb, hml, hown, hts⟩ (m_costOf l v_452) (va_cwS 1 hts gX12_counts_X12_costOf rfl rfl rfl (by decide +kernel) ⟨Nat.le_of_ble_eq_true rfl, Nat.le_of_ble_eq_true rfl⟩) ⟨fun a U g mk q => q, fun U hU hW => ⟨rfl, trivial⟩⟩ rfl rfl hl.1 rfl (lv_room (Nat.le_of_ble_eq_true rfl)) dX12_counts_232 ⟨Nat.le_of_ble_eq_true rfl, Nat.le_of_ble_eq_true rfl⟩)) (fun r_454 hw_453 => ?_)
                      obtain ⟨z_455, z_455a, z_455b, rfl⟩ := kz_ex r_454
                      refine iz_iadd hx hb dX12_counts_235 ?_
                      refine lv_bipush (v := kz 15) hx hb dX12_counts_236 (by decide) ?_
                      refine lv_ishl hx hb dX12_counts_238 ?_
                      refine iz_any (fun z_456 z_456a z_456b z_456e => ?_)
                      refine lv_sipush (v := kz 16384) hx hb dX12_counts_239 (by decide) ?_
                      refine lv_ior hx hb dX12_counts_242 ?_
                      refine iz_any (fun z_457 z_457a z_457b z_457e => ?_)
                      refine lv_iload hx hb dX12_counts_243 (lv_at hl 4 rfl) ?_
                      refine lv_iconst (v := kz 1) hx hb dX12_counts_245 rfl ?_
                      refine iz_iadd hx hb dX12_counts_246 ?_
                      refine lv_bipush (v := kz 9) hx hb dX12_counts_247 (by decide) ?_
                      refine lv_ishl hx hb dX12_counts_249 ?_
                      refine iz_any (fun z_458 z_458a z_458b z_458e => ?_)
                      refine lv_ior hx hb dX12_counts_250 ?_
                      refine iz_any (fun z_459 z_459a z_459b z_459e => ?_)
                      refine lv_iload hx hb dX12_counts_251 (lv_at hl 5 rfl) ?_
                      refine lv_iconst (v := kz 3) hx hb dX12_counts_253 rfl ?_
                      refine lv_ishl hx hb dX12_counts_254 ?_
                      refine iz_any (fun z_460 z_460a z_460b z_460e => ?_)
                      refine lv_ior hx hb dX12_counts_255 ?_
                      refine iz_any (fun z_461 z_461a z_461b z_461e => ?_)
                      refine lv_iload hx hb dX12_counts_256 (lv_at hl 0 rfl) ?_
                      refine lv_ior hx hb dX12_counts_258 ?_
                      refine iz_any (fun z_462 z_462a z_462b z_462e => ?_)
                      refine va_callv (va_runV (As := [.int (kz z_3), .int (kz z_462)]) (rest := []) ⟨hx, hb, hml, hown, hts⟩ (m_keeps l dC dI ca A X o am zi zl (cup (cup fc 32 gb) 33 gm) hM hz ⟨k_4, k_5, k_11, k_12, k_13, k_29, k_gb, k_gm, k_44⟩ z_3 z_462 (by omega) (by omega)) (cwV 2 hts gX12_counts_X12_keeps rfl rfl rfl (by decide +kernel) ⟨Nat.le_of_ble_eq_true rfl, Nat.le_of_ble_eq_true rfl⟩) ⟨fun a U g mk q => by obtain ⟨q0, qK, qI⟩ := q; exact ⟨q0, va_K.moved (u := U) (U := U.calling g mk a) (Vm.Alike.refl U.vm) qK, qI⟩, va_recv hK (at_P hO) (ci := 12) (q0 := 0) rfl rfl, fun U hU hW => ⟨rfl, va_K.moved hW.alike hK, by rw [hU]; exact ⟨⟨hI, hO⟩, c_3, c_4, c_5, c_10, c_11, c_12, c_13, c_17, c_27, c_29, c_30, c_32, c_33, c_44⟩⟩⟩ rfl rfl hl.1 rfl (lv_room (Nat.le_of_ble_eq_true rfl)) dX12_counts_259 ⟨Nat.le_of_ble_eq_true rfl, Nat.le_of_ble_eq_true rfl⟩) hS (fun q _ h => h) (fun q h => h) (fun u t9 H locs ht hvm hw_463 hB hz1 hk1 hS => ?_)
                      obtain ⟨-, ⟨hI, hO⟩, c_3, c_4, c_5, c_10, c_11, c_12, c_13, c_17, c_27, c_29, c_30, c_32, c_33, c_44⟩ := hB
                      rw [ht] at hI hO c_3 c_4 c_5 c_10 c_11 c_12 c_13 c_17 c_27 c_29 c_30 c_32 c_33 c_44
                      clear ht hvm hz1 hk1
                      have he_z_462 := enc_bits z_456e z_457e z_458e z_459e z_460e z_461e z_462e
                      have hg_z_462 : ge1 gm z_420 = ge1 (fc 33) z_420 := n_449f2.2.1 z_420 (by omega) (by unfold pl; omega)
                      have hv_z_462 : ev1 fc (zi 28) (zi 34) (zi 2) (zi 9) f b t z_462 := (ev1_in (gm := gm) ⟨by omega, by omega, hw_361, hw_363⟩ (show z_420 = pl g1 (nb fc q) (ds fc f b t q) by unfold pl nb; rw [if_pos (show q < 0 by omega), ← ez_365]; omega) hg_z_462 (by omega) (enc_q he_z_462 (by omega) (by omega) (by omega)) (enc_g he_z_462 (by omega) (by omega)) (enc_w he_z_462 (by omega)) (by omega))
                      obtain ⟨gb_465, gm_466, rfl, k_gb_465, k_gm_466, x_gb_465⟩ := hw_463
                      have c_3 : va_at (dC, dI) vwCl (am 3, .inl (ca 21, 320, .inl (fc 3))) H := c_3
                      have c_4 : va_at (dC, dI) vwCl (am 4, .inl (ca 20, 40, .inl (fc 4))) H := c_4
                      have c_5 : va_at (dC, dI) vwCl (am 5, .inl (ca 20, 40, .inl (fc 5))) H := c_5
                      have c_10 : va_at (dC, dI) vwCl (am 10, .inl (ca 21, 240, .inl (fc 10))) H := c_10
                      have c_11 : va_at (dC, dI) vwCl (am 11, .inl (ca 20, 24, .inl (fc 11))) H := c_11
                      have c_12 : va_at (dC, dI) vwCl (am 12, .inl (ca 20, 24, .inl (fc 12))) H := c_12
                      have c_13 : va_at (dC, dI) vwCl (am 13, .inl (ca 20, 24, .inl (fc 13))) H := c_13
                      have c_17 : va_at (dC, dI) vwCl (am 17, .inl (ca 22, 36, .inl (fc 17))) H := c_17
                      have c_27 : va_at (dC, dI) vwCl (am 27, .inl (ca 21, 40, .inl (fc 27))) H := c_27
                      have c_29 : va_at (dC, dI) vwCl (am 29, .inl (ca 20, 1600, .inl (fc 29))) H := c_29
                      have c_30 : va_at (dC, dI) vwCl (am 30, .inl (ca 22, 6560, .inl (fc 30))) H := c_30
                      have c_32 : va_at (dC, dI) vwCl (am 32, .inl (ca 20, 52480, .inl gb_465)) H := c_32
                      have c_33 : va_at (dC, dI) vwCl (am 33, .inl (ca 20, 6560, .inl gm_466)) H := c_33
                      have c_44 : va_at (dC, dI) vwCl (am 44, .inl (ca 20, 40, .inl (fc 44))) H := c_44
                      have cn_gb_465 : cn fc (zi 28) (zi 34) (zi 2) (zi 9) f b t gb_465 gm_466 := cn_keep z_3h (by omega) n_449f2 hv_z_462 x_gb_465
                      refine lv_iinc (v := kz (k + 1)) (lv' := [(10, .int (kz (k + 1))), (9, .int (kz (v_427 + 0))), (8, .int (kz z_420)), (7, .int (kz z_365)), (6, .int (kz q)), (5, .int (kz g1)), (4, .int (kz z_3)), (0, .ref o), (1, .int (kz f)), (2, .int (kz b)), (3, .int (kz t))]) hx hb dX12_counts_262 hl (k := 0) rfl (kz_add k 1) (by decide) rfl (fun ls hl => ?_)
                      refine lv_goto (tgt := 202) hx hb dX12_counts_265 (by decide) ?_
                      exact ihn_449 (n_449 - 1) (by omega) (gb_465, gm_466) (k + 1) _ _ _ ⟨by omega, by omega, cn_gb_465, by omega, lv_sub hl [0, 1, 2, 3, 4, 5, 6, 7, 8, 9, 10] rfl, hI, hO, hS, c_3, c_4, c_5, c_10, c_11, c_12, c_13, c_17, c_27, c_29, c_30, c_32, c_33, c_44, k_gb_465, k_gm_466⟩
              · refine lv_goto (tgt := 268) hx hb dX12_counts_122 (by decide) ?_
                refine lv_iinc (v := kz (q + 1)) (lv' := [(6, .int (kz (q + 1))), (7, .int (kz z_365)), (5, .int (kz g1)), (4, .int (kz z_3)), (0, .ref o), (1, .int (kz f)), (2, .int (kz b)), (3, .int (kz t))]) hx hb dX12_counts_268 hl (k := 1) rfl (kz_add q 1) (by decide) rfl (fun ls hl => ?_)
                refine lv_goto (tgt := 82) hx hb dX12_counts_271 (by decide) ?_
                exact ihn_359 (n_359 - 1) (by omega) (gb, gm) (q + 1) _ _ _ ⟨by omega, by omega, n_359f2, by omega, lv_sub hl [0, 2, 3, 4, 5, 6, 7] rfl, hI, hO, hS, c_3, c_4, c_5, c_10, c_11, c_12, c_13, c_17, c_27, c_29, c_30, c_32, c_33, c_44, k_gb, k_gm⟩
            · have hw_363 : ¬ ps fc (zi 28) f b t q := hw_363
              refine lv_istore (lv' := [(7, .int (kz (-1))), (6, .int (kz q)), (5, .int (kz g1)), (4, .int (kz z_3)), (0, .ref o), (1, .int (kz f)), (2, .int (kz b)), (3, .int (kz t))]) hx hb dX12_counts_115 hl (by decide) rfl (fun ls hl => ?_)
              refine lv_iload hx hb dX12_counts_117 (lv_at hl 0 rfl) ?_
              refine iz_gez (tgt := 125) hx hb dX12_counts_119 (by decide) (by unfold rg2; omega) (fun q9 => absurd q9 (by decide)) (fun _ => ?_)
              refine lv_goto (tgt := 268) hx hb dX12_counts_122 (by decide) ?_
              refine lv_iinc (v := kz (q + 1)) (lv' := [(6, .int (kz (q + 1))), (7, .int (kz (-1))), (5, .int (kz g1)), (4, .int (kz z_3)), (0, .ref o), (1, .int (kz f)), (2, .int (kz b)), (3, .int (kz t))]) hx hb dX12_counts_268 hl (k := 1) rfl (kz_add q 1) (by decide) rfl (fun ls hl => ?_)
              refine lv_goto (tgt := 82) hx hb dX12_counts_271 (by decide) ?_
              exact ihn_359 (n_359 - 1) (by omega) (gb, gm) (q + 1) _ _ _ ⟨by omega, by omega, n_359f2, by omega, lv_sub hl [0, 2, 3, 4, 5, 6, 7] rfl, hI, hO, hS, c_3, c_4, c_5, c_10, c_11, c_12, c_13, c_17, c_27, c_29, c_30, c_32, c_33, c_44, k_gb, k_gm⟩
          · have hw_361 : ¬ bw fc (zi 34) f g1 q := hw_361
            refine iz_nez (tgt := 106) hx hb dX12_counts_100 (by decide) (by unfold rg2; omega) (fun q9 => absurd q9 (by decide)) (fun _ => ?_)
            refine lv_goto (tgt := 268) hx hb dX12_counts_103 (by decide) ?_
            refine lv_iinc (v := kz (q + 1)) (lv' := [(6, .int (kz (q + 1))), (5, .int (kz g1)), (4, .int (kz z_3)), (0, .ref o), (1, .int (kz f)), (2, .int (kz b)), (3, .int (kz t))]) hx hb dX12_counts_268 hl (k := 0) rfl (kz_add q 1) (by decide) rfl (fun ls hl => ?_)
            refine lv_goto (tgt := 82) hx hb dX12_counts_271 (by decide) ?_
            exact ihn_359 (n_359 - 1) (by omega) (gb, gm) (q + 1) _ _ _ ⟨by omega, by omega, n_359f2, by omega, lv_sub hl [0, 1, 2, 3, 4, 5, 6] rfl, hI, hO, hS, c_3, c_4, c_5, c_10, c_11, c_12, c_13, c_17, c_27, c_29, c_30, c_32, c_33, c_44, k_gb, k_gm⟩
