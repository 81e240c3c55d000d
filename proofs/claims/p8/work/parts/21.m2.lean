set_option maxHeartbeats 4000000 in
set_option maxRecDepth 100000 in
/-- X12_fitsTwo -/
theorem m_fitsTwo (l : Launch) (dC : Nat → ClassId) (dI : Nat → Nat → Nat) (ca : Nat → ClassId) (A : Nat → Prop) (X : kGh) (o : Nat) (am : Nat → Nat) (zi : Nat → Int) (zl : Nat → Int64) (hM : mS X A o am) (hz : mZ X am zi) (q : Int) (f : Int) (g : Int) (day : Int) (qi : 0 ≤ q ∧ q ≤ 23) (fi : 0 ≤ f ∧ f ≤ 39) (gi : 0 ≤ g ∧ g ≤ 39) (dayr : -2147483648 ≤ day ∧ day ≤ 2147483647) : Met l yX12_fitsTwo wsX12_fitsTwo ({ frames := 0, cells := 0, slots := 0, locals := 0 }) (va_Pc [.ref o, .int (kz q), .int (kz f), .int (kz g), .int (kz day)] (fun U => va_K (dC, dI) vwCl (k_tys ca) U ∧ mI (dC, dI) ca A X o am zi zl U.heap)) (vp_Si (fun r => r = kz 1 ∨ r = kz 0)) 0 0 (fun _ => False) := by
  refine Met.ofW (cc := cX12_fitsTwo) (maxL := 6) (ret := (some .boolean)) (by decide) rfl ?_
  intro p e s m args below meth c s₁ B hml hv
  obtain ⟨rfl, hK, hI, hO⟩ := hv
  have hx := B.exec
  have hb := B.bytes
  have hr := B.returns
  have hts := atoms_spec (ws := wsX12_fitsTwo) B.pre
  have hown : s.vm.findClass RX12 = some m.cls := findClass_of_methodNamed B.named
  have hin : ∀ w ∈ u_ws RX12 TX12 49, w ∈ wsX12_fitsTwo := by decide +kernel
  have hL29 := hts (.fieldLink RX12 29 "JoinBenchModel" "isKept" "[Z") (by decide +kernel)
  have hL48 := hts (.fieldLink RX12 48 "JoinBenchModel" "ruleFirst" "[I") (by decide +kernel)
  have hL51 := hts (.fieldLink RX12 51 "JoinBenchModel" "ruleLast" "[I") (by decide +kernel)
  have hL36 := hts (.fieldLink RX12 36 "JoinBenchModel" "ends" "[I") (by decide +kernel)
  have hL16 := hts (.fieldLink RX12 16 "JoinBenchModel" "size" "[I") (by decide +kernel)
  have hL39 := hts (.fieldLink RX12 39 "JoinBenchModel" "begins" "[I") (by decide +kernel)
  have hL13 := hts (.fieldLink RX12 13 "JoinBenchModel" "letters" "[B") (by decide +kernel)
  have hL33 := hts (.fieldLink RX12 33 "JoinBenchModel" "ruleText" "[B") (by decide +kernel)
  have g8 : X.1 (am 8) = (108, 22, 40, 0, 0) := hM.1 8 _ rfl (by decide)
  have g15 : X.1 (am 15) = (115, 20, 24, -2147483648, 2147483647) := hM.1 15 _ rfl (by decide)
  have w15 : X.2 (am 15) = 0 := hM.2.2.2 15 _ rfl (by decide) (by decide) (by decide)
  have g16 : X.1 (am 16) = (116, 20, 24, -2147483648, 2147483647) := hM.1 16 _ rfl (by decide)
  have w16 : X.2 (am 16) = 0 := hM.2.2.2 16 _ rfl (by decide) (by decide) (by decide)
  have g11 : X.1 (am 11) = (111, 20, 24, 0, 3) := hM.1 11 _ rfl (by decide)
  have w11 : X.2 (am 11) = 0 := hM.2.2.2 11 _ rfl (by decide) (by decide) (by decide)
  have g4 : X.1 (am 4) = (104, 20, 40, 0, 8) := hM.1 4 _ rfl (by decide)
  have g12 : X.1 (am 12) = (112, 20, 24, 0, 3) := hM.1 12 _ rfl (by decide)
  have w12 : X.2 (am 12) = 0 := hM.2.2.2 12 _ rfl (by decide) (by decide) (by decide)
  have g3 : X.1 (am 3) = (103, 21, 320, 0, 0) := hM.1 3 _ rfl (by decide)
  have g10 : X.1 (am 10) = (110, 21, 240, 0, 0) := hM.1 10 _ rfl (by decide)
  obtain ⟨⟨z1a, z1b⟩, ⟨z2a, z2b⟩, ⟨z9a, z9b⟩, ⟨z20a, z20b⟩, ⟨z21a, z21b⟩, ⟨z22a, z22b⟩, ⟨z26a, z26b⟩, ⟨z28a, z28b⟩, ⟨z34a, z34b⟩, ⟨z35a, z35b⟩, ⟨z38a, z38b⟩, ⟨z39a, z39b⟩, ⟨z46a, z46b⟩, hzA, hzB⟩ := id hz
  have hl := lv_entry ([.ref o, .int (kz q), .int (kz f), .int (kz g), .int (kz day)]) (n := 6) (Nat.le_of_ble_eq_true rfl)
  rw [lg_entry_eq]
  generalize (lg_sl ([.ref o, .int (kz q), .int (kz f), .int (kz g), .int (kz day)]) ++ List.replicate (6 - (lg_sl ([.ref o, .int (kz q), .int (kz f), .int (kz g), .int (kz day)])).length) Slot.unset).toArray = ls at hl ⊢
  have hl : lv_has ls 6 [(0, .ref o), (1, .int (kz q)), (2, .int (kz f)), (3, .int (kz g)), (4, .int (kz day))] := hl
  refine lv_aload_n hx hb dX12_fitsTwo_0 rfl (lv_at hl 0 rfl) ?_
  refine iz_get (D := (dC, dI)) (ci := 12) (v := .ref (am 8)) (C := RX12) (T := TX12) (N := 49) hx hb hts hin hown hK hO rfl 8 (by decide) hL29 (fun _ h9 => h9) rfl dX12_fitsTwo_1 ?_
  refine lv_iload_n hx hb dX12_fitsTwo_4 rfl (lv_at hl 2 rfl) ?_
  obtain ⟨f8_1, c_f8_1⟩ := iv_o22 hI g8
  refine iz_zald hx hb hK 2 c_f8_1 rfl (by omega) (by decide) dX12_fitsTwo_5 ?_
  have v_2a := kz_lo (f8_1 (Int.toNat f))
  have v_2b := kz_hi (f8_1 (Int.toNat f))
  change _ ≤ ge1 f8_1 f at v_2a
  change ge1 f8_1 f ≤ _ at v_2b
  obtain ⟨v_2, ev_2⟩ : ∃ z9 : Int, ge1 f8_1 f = z9 := ⟨_, rfl⟩
  rw [ev_2] at v_2a v_2b ⊢
  refine iz_nez (tgt := 70) hx hb dX12_fitsTwo_6 (by decide) (by unfold rg2; omega) (fun br_3 => ?_) (fun br_3 => ?_)
  · refine lv_iconst (v := kz 0) hx hb dX12_fitsTwo_70 rfl ?_
    exact W.zret (v := kz 0) hx hb hr (by decide) (fun t9 ht hW => ⟨kz 0, rfl, Or.inr rfl, ht⟩) (fun q h => absurd h List.not_mem_nil) dX12_fitsTwo_71
  · refine lv_aload_n hx hb dX12_fitsTwo_9 rfl (lv_at hl 0 rfl) ?_
    refine iz_get (D := (dC, dI)) (ci := 12) (v := .ref (am 8)) (C := RX12) (T := TX12) (N := 49) hx hb hts hin hown hK hO rfl 8 (by decide) hL29 (fun _ h9 => h9) rfl dX12_fitsTwo_10 ?_
    refine lv_iload_n hx hb dX12_fitsTwo_13 rfl (lv_at hl 3 rfl) ?_
    refine iz_zald hx hb hK 2 c_f8_1 rfl (by omega) (by decide) dX12_fitsTwo_14 ?_
    have v_4a := kz_lo (f8_1 (Int.toNat g))
    have v_4b := kz_hi (f8_1 (Int.toNat g))
    change _ ≤ ge1 f8_1 g at v_4a
    change ge1 f8_1 g ≤ _ at v_4b
    obtain ⟨v_4, ev_4⟩ : ∃ z9 : Int, ge1 f8_1 g = z9 := ⟨_, rfl⟩
    rw [ev_4] at v_4a v_4b ⊢
    refine iz_nez (tgt := 70) hx hb dX12_fitsTwo_15 (by decide) (by unfold rg2; omega) (fun br_5 => ?_) (fun br_5 => ?_)
    · refine lv_iconst (v := kz 0) hx hb dX12_fitsTwo_70 rfl ?_
      exact W.zret (v := kz 0) hx hb hr (by decide) (fun t9 ht hW => ⟨kz 0, rfl, Or.inr rfl, ht⟩) (fun q h => absurd h List.not_mem_nil) dX12_fitsTwo_71
    · refine lv_aload_n hx hb dX12_fitsTwo_18 rfl (lv_at hl 0 rfl) ?_
      refine iz_get (D := (dC, dI)) (ci := 12) (v := .ref (am 15)) (C := RX12) (T := TX12) (N := 49) hx hb hts hin hown hK hO rfl 15 (by decide) hL48 (fun _ h9 => h9) rfl dX12_fitsTwo_19 ?_
      refine lv_iload_n hx hb dX12_fitsTwo_22 rfl (lv_at hl 1 rfl) ?_
      obtain ⟨f15_6, c_f15_6, k_f15_6⟩ := iv_o20 hI g15
      refine iz_iald hx hb hK 0 c_f15_6 rfl (by omega) (by decide) dX12_fitsTwo_23 ?_
      obtain ⟨v_7a, v_7b, v_7c⟩ := k_f15_6 q (by omega)
      clear v_7c
      obtain ⟨v_7, ev_7⟩ : ∃ z9 : Int, ge1 f15_6 q = z9 := ⟨_, rfl⟩
      rw [ev_7] at v_7a v_7b ⊢
      refine lv_iload hx hb dX12_fitsTwo_24 (lv_at hl 4 rfl) ?_
      refine iz_gt (tgt := 70) hx hb dX12_fitsTwo_26 (by decide) (by unfold rg2; omega) (fun br_8 => ?_) (fun br_8 => ?_)
      · refine lv_iconst (v := kz 0) hx hb dX12_fitsTwo_70 rfl ?_
        exact W.zret (v := kz 0) hx hb hr (by decide) (fun t9 ht hW => ⟨kz 0, rfl, Or.inr rfl, ht⟩) (fun q h => absurd h List.not_mem_nil) dX12_fitsTwo_71
      · refine lv_aload_n hx hb dX12_fitsTwo_29 rfl (lv_at hl 0 rfl) ?_
        refine iz_get (D := (dC, dI)) (ci := 12) (v := .ref (am 16)) (C := RX12) (T := TX12) (N := 49) hx hb hts hin hown hK hO rfl 16 (by decide) hL51 (fun _ h9 => h9) rfl dX12_fitsTwo_30 ?_
        refine lv_iload_n hx hb dX12_fitsTwo_33 rfl (lv_at hl 1 rfl) ?_
        obtain ⟨f16_9, c_f16_9, k_f16_9⟩ := iv_o20 hI g16
        refine iz_iald hx hb hK 0 c_f16_9 rfl (by omega) (by decide) dX12_fitsTwo_34 ?_
        obtain ⟨v_10a, v_10b, v_10c⟩ := k_f16_9 q (by omega)
        clear v_10c
        obtain ⟨v_10, ev_10⟩ : ∃ z9 : Int, ge1 f16_9 q = z9 := ⟨_, rfl⟩
        rw [ev_10] at v_10a v_10b ⊢
        refine lv_iload hx hb dX12_fitsTwo_35 (lv_at hl 4 rfl) ?_
        refine iz_lt (tgt := 70) hx hb dX12_fitsTwo_37 (by decide) (by unfold rg2; omega) (fun br_11 => ?_) (fun br_11 => ?_)
        · refine lv_iconst (v := kz 0) hx hb dX12_fitsTwo_70 rfl ?_
          exact W.zret (v := kz 0) hx hb hr (by decide) (fun t9 ht hW => ⟨kz 0, rfl, Or.inr rfl, ht⟩) (fun q h => absurd h List.not_mem_nil) dX12_fitsTwo_71
        · refine lv_aload_n hx hb dX12_fitsTwo_40 rfl (lv_at hl 0 rfl) ?_
          refine iz_get (D := (dC, dI)) (ci := 12) (v := .ref (am 11)) (C := RX12) (T := TX12) (N := 49) hx hb hts hin hown hK hO rfl 11 (by decide) hL36 (fun _ h9 => h9) rfl dX12_fitsTwo_41 ?_
          refine lv_iload_n hx hb dX12_fitsTwo_44 rfl (lv_at hl 1 rfl) ?_
          obtain ⟨f11_12, c_f11_12, k_f11_12⟩ := iv_o20 hI g11
          refine iz_iald hx hb hK 0 c_f11_12 rfl (by omega) (by decide) dX12_fitsTwo_45 ?_
          obtain ⟨v_13a, v_13b, v_13c⟩ := k_f11_12 q (by omega)
          clear v_13c
          obtain ⟨v_13, ev_13⟩ : ∃ z9 : Int, ge1 f11_12 q = z9 := ⟨_, rfl⟩
          rw [ev_13] at v_13a v_13b ⊢
          refine lv_aload_n hx hb dX12_fitsTwo_46 rfl (lv_at hl 0 rfl) ?_
          refine iz_get (D := (dC, dI)) (ci := 12) (v := .ref (am 4)) (C := RX12) (T := TX12) (N := 49) hx hb hts hin hown hK hO rfl 4 (by decide) hL16 (fun _ h9 => h9) rfl dX12_fitsTwo_47 ?_
          refine lv_iload_n hx hb dX12_fitsTwo_50 rfl (lv_at hl 2 rfl) ?_
          obtain ⟨f4_14, c_f4_14, k_f4_14⟩ := iv_o20 hI g4
          refine iz_iald hx hb hK 0 c_f4_14 rfl (by omega) (by decide) dX12_fitsTwo_51 ?_
          obtain ⟨v_15a, v_15b, v_15c⟩ := k_f4_14 f (by omega)
          obtain ⟨v_15, ev_15⟩ : ∃ z9 : Int, ge1 f4_14 f = z9 := ⟨_, rfl⟩
          rw [ev_15] at v_15a v_15b v_15c ⊢
          refine iz_gt (tgt := 70) hx hb dX12_fitsTwo_52 (by decide) (by unfold rg2; omega) (fun br_16 => ?_) (fun br_16 => ?_)
          · refine lv_iconst (v := kz 0) hx hb dX12_fitsTwo_70 rfl ?_
            exact W.zret (v := kz 0) hx hb hr (by decide) (fun t9 ht hW => ⟨kz 0, rfl, Or.inr rfl, ht⟩) (fun q h => absurd h List.not_mem_nil) dX12_fitsTwo_71
          · refine lv_aload_n hx hb dX12_fitsTwo_55 rfl (lv_at hl 0 rfl) ?_
            refine iz_get (D := (dC, dI)) (ci := 12) (v := .ref (am 12)) (C := RX12) (T := TX12) (N := 49) hx hb hts hin hown hK hO rfl 12 (by decide) hL39 (fun _ h9 => h9) rfl dX12_fitsTwo_56 ?_
            refine lv_iload_n hx hb dX12_fitsTwo_59 rfl (lv_at hl 1 rfl) ?_
            obtain ⟨f12_17, c_f12_17, k_f12_17⟩ := iv_o20 hI g12
            refine iz_iald hx hb hK 0 c_f12_17 rfl (by omega) (by decide) dX12_fitsTwo_60 ?_
            obtain ⟨v_18a, v_18b, v_18c⟩ := k_f12_17 q (by omega)
            clear v_18c
            obtain ⟨v_18, ev_18⟩ : ∃ z9 : Int, ge1 f12_17 q = z9 := ⟨_, rfl⟩
            rw [ev_18] at v_18a v_18b ⊢
            refine lv_aload_n hx hb dX12_fitsTwo_61 rfl (lv_at hl 0 rfl) ?_
            refine iz_get (D := (dC, dI)) (ci := 12) (v := .ref (am 4)) (C := RX12) (T := TX12) (N := 49) hx hb hts hin hown hK hO rfl 4 (by decide) hL16 (fun _ h9 => h9) rfl dX12_fitsTwo_62 ?_
            refine lv_iload_n hx hb dX12_fitsTwo_65 rfl (lv_at hl 3 rfl) ?_
            refine iz_iald hx hb hK 0 c_f4_14 rfl (by omega) (by decide) dX12_fitsTwo_66 ?_
            obtain ⟨v_19a, v_19b, v_19c⟩ := k_f4_14 g (by omega)
            obtain ⟨v_19, ev_19⟩ : ∃ z9 : Int, ge1 f4_14 g = z9 := ⟨_, rfl⟩
            rw [ev_19] at v_19a v_19b v_19c ⊢
            refine iz_le (tgt := 72) hx hb dX12_fitsTwo_67 (by decide) (by unfold rg2; omega) (fun br_20 => ?_) (fun br_20 => ?_)
            · refine lv_iconst (v := kz 0) hx hb dX12_fitsTwo_72 rfl ?_
              refine lv_istore (lv' := [(5, .int (kz 0)), (0, .ref o), (1, .int (kz q)), (2, .int (kz f)), (3, .int (kz g)), (4, .int (kz day))]) hx hb dX12_fitsTwo_73 hl (by decide) rfl (fun ls hl => ?_)
              refine iz_loopS1 (P := fun N9 k ls => 0 ≤ k ∧ k ≤ 3 ∧ 3 - k ≤ (N9 : Int) ∧ lv_has ls 6 [(5, .int (kz k)), (0, .ref o), (1, .int (kz q)), (2, .int (kz f)), (3, .int (kz g)), (4, .int (kz day))]) 100000 (x0 := 0) ?_ ⟨by omega, by omega, by omega, lv_sub hl [0, 1, 2, 3, 4, 5] rfl⟩
              intro n_21 k ls ⟨n_21f0, n_21f1, n_21f2, hl⟩ ihn_21
              refine lv_iload hx hb dX12_fitsTwo_75 (lv_at hl 0 rfl) ?_
              refine lv_aload_n hx hb dX12_fitsTwo_77 rfl (lv_at hl 1 rfl) ?_
              refine iz_get (D := (dC, dI)) (ci := 12) (v := .ref (am 11)) (C := RX12) (T := TX12) (N := 49) hx hb hts hin hown hK hO rfl 11 (by decide) hL36 (fun _ h9 => h9) rfl dX12_fitsTwo_78 ?_
              refine lv_iload_n hx hb dX12_fitsTwo_81 rfl (lv_at hl 2 rfl) ?_
              refine iz_iald hx hb hK 0 c_f11_12 rfl (by omega) (by decide) dX12_fitsTwo_82 ?_
              rw [ev_13]
              refine iz_ge (tgt := 135) hx hb dX12_fitsTwo_83 (by decide) (by unfold rg2; omega) (fun br_22 => ?_) (fun br_22 => ?_)
              · refine lv_iconst (v := kz 0) hx hb dX12_fitsTwo_135 rfl ?_
                refine lv_istore (lv' := [(5, .int (kz 0)), (0, .ref o), (1, .int (kz q)), (2, .int (kz f)), (3, .int (kz g)), (4, .int (kz day))]) hx hb dX12_fitsTwo_136 hl (by decide) rfl (fun ls hl => ?_)
                refine iz_loopS1 (P := fun N9 k ls => 0 ≤ k ∧ k ≤ 3 ∧ 3 - k ≤ (N9 : Int) ∧ lv_has ls 6 [(5, .int (kz k)), (0, .ref o), (1, .int (kz q)), (2, .int (kz f)), (3, .int (kz g)), (4, .int (kz day))]) 100000 (x0 := 0) ?_ ⟨by omega, by omega, by omega, lv_sub hl [0, 1, 2, 3, 4, 5] rfl⟩
                intro n_23 k ls ⟨n_23f0, n_23f1, n_23f2, hl⟩ ihn_23
                refine lv_iload hx hb dX12_fitsTwo_138 (lv_at hl 0 rfl) ?_
                refine lv_aload_n hx hb dX12_fitsTwo_140 rfl (lv_at hl 1 rfl) ?_
                refine iz_get (D := (dC, dI)) (ci := 12) (v := .ref (am 12)) (C := RX12) (T := TX12) (N := 49) hx hb hts hin hown hK hO rfl 12 (by decide) hL39 (fun _ h9 => h9) rfl dX12_fitsTwo_141 ?_
                refine lv_iload_n hx hb dX12_fitsTwo_144 rfl (lv_at hl 2 rfl) ?_
                refine iz_iald hx hb hK 0 c_f12_17 rfl (by omega) (by decide) dX12_fitsTwo_145 ?_
                rw [ev_18]
                refine iz_ge (tgt := 191) hx hb dX12_fitsTwo_146 (by decide) (by unfold rg2; omega) (fun br_24 => ?_) (fun br_24 => ?_)
                · refine lv_iconst (v := kz 1) hx hb dX12_fitsTwo_191 rfl ?_
                  exact W.zret (v := kz 1) hx hb hr (by decide) (fun t9 ht hW => ⟨kz 1, rfl, Or.inl rfl, ht⟩) (fun q h => absurd h List.not_mem_nil) dX12_fitsTwo_192
                · refine lv_aload_n hx hb dX12_fitsTwo_149 rfl (lv_at hl 1 rfl) ?_
                  refine iz_get (D := (dC, dI)) (ci := 12) (v := .ref (am 3)) (C := RX12) (T := TX12) (N := 49) hx hb hts hin hown hK hO rfl 3 (by decide) hL13 (fun _ h9 => h9) rfl dX12_fitsTwo_150 ?_
                  refine lv_bipush (v := kz 8) hx hb dX12_fitsTwo_153 (by decide) ?_
                  refine lv_iload_n hx hb dX12_fitsTwo_155 rfl (lv_at hl 4 rfl) ?_
                  refine iz_imul hx hb dX12_fitsTwo_156 ?_
                  refine lv_iload hx hb dX12_fitsTwo_157 (lv_at hl 0 rfl) ?_
                  refine iz_iadd hx hb dX12_fitsTwo_159 ?_
                  obtain ⟨f3_25, c_f3_25⟩ := iv_o21 hI g3
                  refine iz_bald hx hb hK 1 c_f3_25 rfl (by omega) (by decide) dX12_fitsTwo_160 ?_
                  have v_26a := kz_lo (f3_25 (Int.toNat ((8 * g) + k)))
                  have v_26b := kz_hi (f3_25 (Int.toNat ((8 * g) + k)))
                  change _ ≤ ge1 f3_25 ((8 * g) + k) at v_26a
                  change ge1 f3_25 ((8 * g) + k) ≤ _ at v_26b
                  obtain ⟨v_26, ev_26⟩ : ∃ z9 : Int, ge1 f3_25 ((8 * g) + k) = z9 := ⟨_, rfl⟩
                  rw [ev_26] at v_26a v_26b ⊢
                  refine lv_aload_n hx hb dX12_fitsTwo_161 rfl (lv_at hl 1 rfl) ?_
                  refine iz_get (D := (dC, dI)) (ci := 12) (v := .ref (am 10)) (C := RX12) (T := TX12) (N := 49) hx hb hts hin hown hK hO rfl 10 (by decide) hL33 (fun _ h9 => h9) rfl dX12_fitsTwo_162 ?_
                  refine lv_bipush (v := kz 10) hx hb dX12_fitsTwo_165 (by decide) ?_
                  refine lv_iload_n hx hb dX12_fitsTwo_167 rfl (lv_at hl 2 rfl) ?_
                  refine iz_imul hx hb dX12_fitsTwo_168 ?_
                  refine lv_aload_n hx hb dX12_fitsTwo_169 rfl (lv_at hl 1 rfl) ?_
                  refine iz_get (D := (dC, dI)) (ci := 12) (v := .ref (am 11)) (C := RX12) (T := TX12) (N := 49) hx hb hts hin hown hK hO rfl 11 (by decide) hL36 (fun _ h9 => h9) rfl dX12_fitsTwo_170 ?_
                  refine lv_iload_n hx hb dX12_fitsTwo_173 rfl (lv_at hl 2 rfl) ?_
                  refine iz_iald hx hb hK 0 c_f11_12 rfl (by omega) (by decide) dX12_fitsTwo_174 ?_
                  rw [ev_13]
                  refine iz_iadd hx hb dX12_fitsTwo_175 ?_
                  refine lv_iload hx hb dX12_fitsTwo_176 (lv_at hl 0 rfl) ?_
                  refine iz_iadd hx hb dX12_fitsTwo_178 ?_
                  obtain ⟨f10_27, c_f10_27⟩ := iv_o21 hI g10
                  refine iz_bald hx hb hK 1 c_f10_27 rfl (by omega) (by decide) dX12_fitsTwo_179 ?_
                  have v_28a := kz_lo (f10_27 (Int.toNat (((10 * q) + v_13) + k)))
                  have v_28b := kz_hi (f10_27 (Int.toNat (((10 * q) + v_13) + k)))
                  change _ ≤ ge1 f10_27 (((10 * q) + v_13) + k) at v_28a
                  change ge1 f10_27 (((10 * q) + v_13) + k) ≤ _ at v_28b
                  obtain ⟨v_28, ev_28⟩ : ∃ z9 : Int, ge1 f10_27 (((10 * q) + v_13) + k) = z9 := ⟨_, rfl⟩
                  rw [ev_28] at v_28a v_28b ⊢
                  refine iz_eq (tgt := 185) hx hb dX12_fitsTwo_180 (by decide) (by unfold rg2; omega) (fun br_29 => ?_) (fun br_29 => ?_)
                  · refine lv_iinc (v := kz (k + 1)) (lv' := [(5, .int (kz (k + 1))), (0, .ref o), (1, .int (kz q)), (2, .int (kz f)), (3, .int (kz g)), (4, .int (kz day))]) hx hb dX12_fitsTwo_185 hl (k := 0) rfl (kz_add k 1) (by decide) rfl (fun ls hl => ?_)
                    refine lv_goto (tgt := 138) hx hb dX12_fitsTwo_188 (by decide) ?_
                    exact ihn_23 (n_23 - 1) (by omega) (k + 1) _ ⟨by omega, by omega, by omega, lv_sub hl [0, 1, 2, 3, 4, 5] rfl⟩
                  · refine lv_iconst (v := kz 0) hx hb dX12_fitsTwo_183 rfl ?_
                    exact W.zret (v := kz 0) hx hb hr (by decide) (fun t9 ht hW => ⟨kz 0, rfl, Or.inr rfl, ht⟩) (fun q h => absurd h List.not_mem_nil) dX12_fitsTwo_184
              · refine lv_aload_n hx hb dX12_fitsTwo_86 rfl (lv_at hl 1 rfl) ?_
                refine iz_get (D := (dC, dI)) (ci := 12) (v := .ref (am 3)) (C := RX12) (T := TX12) (N := 49) hx hb hts hin hown hK hO rfl 3 (by decide) hL13 (fun _ h9 => h9) rfl dX12_fitsTwo_87 ?_
                refine lv_bipush (v := kz 8) hx hb dX12_fitsTwo_90 (by decide) ?_
                refine lv_iload_n hx hb dX12_fitsTwo_92 rfl (lv_at hl 3 rfl) ?_
                refine iz_imul hx hb dX12_fitsTwo_93 ?_
                refine lv_aload_n hx hb dX12_fitsTwo_94 rfl (lv_at hl 1 rfl) ?_
                refine iz_get (D := (dC, dI)) (ci := 12) (v := .ref (am 4)) (C := RX12) (T := TX12) (N := 49) hx hb hts hin hown hK hO rfl 4 (by decide) hL16 (fun _ h9 => h9) rfl dX12_fitsTwo_95 ?_
                refine lv_iload_n hx hb dX12_fitsTwo_98 rfl (lv_at hl 3 rfl) ?_
                refine iz_iald hx hb hK 0 c_f4_14 rfl (by omega) (by decide) dX12_fitsTwo_99 ?_
                rw [ev_15]
                refine iz_iadd hx hb dX12_fitsTwo_100 ?_
                refine lv_aload_n hx hb dX12_fitsTwo_101 rfl (lv_at hl 1 rfl) ?_
                refine iz_get (D := (dC, dI)) (ci := 12) (v := .ref (am 11)) (C := RX12) (T := TX12) (N := 49) hx hb hts hin hown hK hO rfl 11 (by decide) hL36 (fun _ h9 => h9) rfl dX12_fitsTwo_102 ?_
                refine lv_iload_n hx hb dX12_fitsTwo_105 rfl (lv_at hl 2 rfl) ?_
                refine iz_iald hx hb hK 0 c_f11_12 rfl (by omega) (by decide) dX12_fitsTwo_106 ?_
                rw [ev_13]
                refine iz_isub hx hb dX12_fitsTwo_107 ?_
                refine lv_iload hx hb dX12_fitsTwo_108 (lv_at hl 0 rfl) ?_
                refine iz_iadd hx hb dX12_fitsTwo_110 ?_
                obtain ⟨f3_30, c_f3_30⟩ := iv_o21 hI g3
                refine iz_bald hx hb hK 1 c_f3_30 rfl (by omega) (by decide) dX12_fitsTwo_111 ?_
                have v_31a := kz_lo (f3_30 (Int.toNat ((((8 * f) + v_15) - v_13) + k)))
                have v_31b := kz_hi (f3_30 (Int.toNat ((((8 * f) + v_15) - v_13) + k)))
                change _ ≤ ge1 f3_30 ((((8 * f) + v_15) - v_13) + k) at v_31a
                change ge1 f3_30 ((((8 * f) + v_15) - v_13) + k) ≤ _ at v_31b
                obtain ⟨v_31, ev_31⟩ : ∃ z9 : Int, ge1 f3_30 ((((8 * f) + v_15) - v_13) + k) = z9 := ⟨_, rfl⟩
                rw [ev_31] at v_31a v_31b ⊢
                refine lv_aload_n hx hb dX12_fitsTwo_112 rfl (lv_at hl 1 rfl) ?_
                refine iz_get (D := (dC, dI)) (ci := 12) (v := .ref (am 10)) (C := RX12) (T := TX12) (N := 49) hx hb hts hin hown hK hO rfl 10 (by decide) hL33 (fun _ h9 => h9) rfl dX12_fitsTwo_113 ?_
                refine lv_bipush (v := kz 10) hx hb dX12_fitsTwo_116 (by decide) ?_
                refine lv_iload_n hx hb dX12_fitsTwo_118 rfl (lv_at hl 2 rfl) ?_
                refine iz_imul hx hb dX12_fitsTwo_119 ?_
                refine lv_iload hx hb dX12_fitsTwo_120 (lv_at hl 0 rfl) ?_
                refine iz_iadd hx hb dX12_fitsTwo_122 ?_
                obtain ⟨f10_32, c_f10_32⟩ := iv_o21 hI g10
                refine iz_bald hx hb hK 1 c_f10_32 rfl (by omega) (by decide) dX12_fitsTwo_123 ?_
                have v_33a := kz_lo (f10_32 (Int.toNat ((10 * q) + k)))
                have v_33b := kz_hi (f10_32 (Int.toNat ((10 * q) + k)))
                change _ ≤ ge1 f10_32 ((10 * q) + k) at v_33a
                change ge1 f10_32 ((10 * q) + k) ≤ _ at v_33b
                obtain ⟨v_33, ev_33⟩ : ∃ z9 : Int, ge1 f10_32 ((10 * q) + k) = z9 := ⟨_, rfl⟩
                rw [ev_33] at v_33a v_33b ⊢
                refine iz_eq (tgt := 129) hx hb dX12_fitsTwo_124 (by decide) (by unfold rg2; omega) (fun br_34 => ?_) (fun br_34 => ?_)
                · refine lv_iinc (v := kz (k + 1)) (lv' := [(5, .int (kz (k + 1))), (0, .ref o), (1, .int (kz q)), (2, .int (kz f)), (3, .int (kz g)), (4, .int (kz day))]) hx hb dX12_fitsTwo_129 hl (k := 0) rfl (kz_add k 1) (by decide) rfl (fun ls hl => ?_)
                  refine lv_goto (tgt := 75) hx hb dX12_fitsTwo_132 (by decide) ?_
                  exact ihn_21 (n_21 - 1) (by omega) (k + 1) _ ⟨by omega, by omega, by omega, lv_sub hl [0, 1, 2, 3, 4, 5] rfl⟩
                · refine lv_iconst (v := kz 0) hx hb dX12_fitsTwo_127 rfl ?_
                  exact W.zret (v := kz 0) hx hb hr (by decide) (fun t9 ht hW => ⟨kz 0, rfl, Or.inr rfl, ht⟩) (fun q h => absurd h List.not_mem_nil) dX12_fitsTwo_128
            · refine lv_iconst (v := kz 0) hx hb dX12_fitsTwo_70 rfl ?_
              exact W.zret (v := kz 0) hx hb hr (by decide) (fun t9 ht hW => ⟨kz 0, rfl, Or.inr rfl, ht⟩) (fun q h => absurd h List.not_mem_nil) dX12_fitsTwo_71
set_option maxHeartbeats 4000000 in
set_option maxRecDepth 100000 in
/-- X12_fits -/
theorem m_fits (l : Launch) (dC : Nat → ClassId) (dI : Nat → Nat → Nat) (ca : Nat → ClassId) (A : Nat → Prop) (X : kGh) (o : Nat) (am : Nat → Nat) (zi : Nat → Int) (zl : Nat → Int64) (hM : mS X A o am) (hz : mZ X am zi) (f : Int) (g : Int) (day : Int) (fr : -2147483648 ≤ f ∧ f ≤ 2147483647) (gr : -2147483648 ≤ g ∧ g ≤ 2147483647) (dayr : -2147483648 ≤ day ∧ day ≤ 2147483647) : Met l yX12_fits wsX12_fits ({ frames := 2, cells := 0, slots := 0, locals := 43 }) (va_Pc [.ref o, .int (kz f), .int (kz g), .int (kz day)] (fun U => va_K (dC, dI) vwCl (k_tys ca) U ∧ mI (dC, dI) ca A X o am zi zl U.heap)) (vp_Si (fun r => ∃ z : Int, r = kz z ∧ -1 ≤ z ∧ z ≤ 24)) 0 0 (fun _ => False) := by
  refine Met.ofW (cc := cX12_fits) (maxL := 6) (ret := (some .int)) (by decide) rfl ?_
  intro p e s m args below meth c s₁ B hml hv
  obtain ⟨rfl, hK, hI, hO⟩ := hv
  have hx := B.exec
  have hb := B.bytes
  have hr := B.returns
  have hts := atoms_spec (ws := wsX12_fits) B.pre
  have hown : s.vm.findClass RX12 = some m.cls := findClass_of_methodNamed B.named
  have hin : ∀ w ∈ u_ws RX12 TX12 49, w ∈ wsX12_fits := by decide +kernel
  have hL138 := hts (.fieldLink RX12 138 "JoinBenchModel" "rules" "I") (by decide +kernel)
  obtain ⟨⟨z1a, z1b⟩, ⟨z2a, z2b⟩, ⟨z9a, z9b⟩, ⟨z20a, z20b⟩, ⟨z21a, z21b⟩, ⟨z22a, z22b⟩, ⟨z26a, z26b⟩, ⟨z28a, z28b⟩, ⟨z34a, z34b⟩, ⟨z35a, z35b⟩, ⟨z38a, z38b⟩, ⟨z39a, z39b⟩, ⟨z46a, z46b⟩, hzA, hzB⟩ := id hz
  have hl := lv_entry ([.ref o, .int (kz f), .int (kz g), .int (kz day)]) (n := 6) (Nat.le_of_ble_eq_true rfl)
  rw [lg_entry_eq]
  generalize (lg_sl ([.ref o, .int (kz f), .int (kz g), .int (kz day)]) ++ List.replicate (6 - (lg_sl ([.ref o, .int (kz f), .int (kz g), .int (kz day)])).length) Slot.unset).toArray = ls at hl ⊢
  have hl : lv_has ls 6 [(0, .ref o), (1, .int (kz f)), (2, .int (kz g)), (3, .int (kz day))] := hl
  refine lv_aload_n hx hb dX12_fits_0 rfl (lv_at hl 0 rfl) ?_
  refine lv_iload_n hx hb dX12_fits_1 rfl (lv_at hl 1 rfl) ?_
  refine vp_callSi (va_Run.run (va_runV (As := [.int (kz f)]) (rest := []) ⟨hx, hb, hml, hown, hts⟩ (m_isForm l dC dI ca A X o am zi zl hM hz f (by omega)) (cwV 1 hts gX12_fits_X12_isForm rfl rfl rfl (by decide +kernel) ⟨Nat.le_of_ble_eq_true rfl, Nat.le_of_ble_eq_true rfl⟩) ⟨fun a U g mk q => by obtain ⟨q0, qK, qI⟩ := q; exact ⟨q0, va_K.moved (u := U) (U := U.calling g mk a) (Vm.Alike.refl U.vm) qK, qI⟩, va_recv hK (at_P hO) (ci := 12) (q0 := 0) rfl rfl, fun U hU hW => ⟨rfl, va_K.moved hW.alike hK, by rw [hU]; exact ⟨hI, hO⟩⟩⟩ rfl rfl hl.1 rfl (lv_room (Nat.le_of_ble_eq_true rfl)) dX12_fits_2 ⟨Nat.le_of_ble_eq_true rfl, Nat.le_of_ble_eq_true rfl⟩)) (fun r_2 hw_1 => ?_)
  rcases hw_1 with ⟨rfl, hw_1⟩ | ⟨rfl, hw_1⟩
  · refine iz_eqz (tgt := 23) hx hb dX12_fits_5 (by decide) (by unfold rg2; omega) (fun q9 => absurd q9 (by decide)) (fun _ => ?_)
    refine lv_aload_n hx hb dX12_fits_8 rfl (lv_at hl 0 rfl) ?_
    refine lv_iload_n hx hb dX12_fits_9 rfl (lv_at hl 2 rfl) ?_
    refine vp_callSi (va_Run.run (va_runV (As := [.int (kz g)]) (rest := []) ⟨hx, hb, hml, hown, hts⟩ (m_isForm l dC dI ca A X o am zi zl hM hz g (by omega)) (cwV 1 hts gX12_fits_X12_isForm rfl rfl rfl (by decide +kernel) ⟨Nat.le_of_ble_eq_true rfl, Nat.le_of_ble_eq_true rfl⟩) ⟨fun a U g mk q => by obtain ⟨q0, qK, qI⟩ := q; exact ⟨q0, va_K.moved (u := U) (U := U.calling g mk a) (Vm.Alike.refl U.vm) qK, qI⟩, va_recv hK (at_P hO) (ci := 12) (q0 := 0) rfl rfl, fun U hU hW => ⟨rfl, va_K.moved hW.alike hK, by rw [hU]; exact ⟨hI, hO⟩⟩⟩ rfl rfl hl.1 rfl (lv_room (Nat.le_of_ble_eq_true rfl)) dX12_fits_10 ⟨Nat.le_of_ble_eq_true rfl, Nat.le_of_ble_eq_true rfl⟩)) (fun r_4 hw_3 => ?_)
    rcases hw_3 with ⟨rfl, hw_3⟩ | ⟨rfl, hw_3⟩
    · refine iz_eqz (tgt := 23) hx hb dX12_fits_13 (by decide) (by unfold rg2; omega) (fun q9 => absurd q9 (by decide)) (fun _ => ?_)
      refine lv_iload_n hx hb dX12_fits_16 rfl (lv_at hl 3 rfl) ?_
      refine vp_callSi (va_Run.run (va_runS (As := [.int (kz day)]) (rest := []) ⟨hx, hb, hml, hown, hts⟩ (m_isDay l day (by omega)) (va_cwS 1 hts gX12_fits_X12_isDay rfl rfl rfl (by decide +kernel) ⟨Nat.le_of_ble_eq_true rfl, Nat.le_of_ble_eq_true rfl⟩) ⟨fun a U g mk q => q, fun U hU hW => ⟨rfl, trivial⟩⟩ rfl rfl hl.1 rfl (lv_room (Nat.le_of_ble_eq_true rfl)) dX12_fits_17 ⟨Nat.le_of_ble_eq_true rfl, Nat.le_of_ble_eq_true rfl⟩)) (fun r_6 hw_5 => ?_)
      rcases hw_5 with ⟨rfl, hw_5⟩ | ⟨rfl, hw_5⟩
      · refine iz_nez (tgt := 25) hx hb dX12_fits_20 (by decide) (by unfold rg2; omega) (fun _ => ?_) (fun q9 => absurd q9 (by decide))
        refine lv_iconst (v := kz 0) hx hb dX12_fits_25 rfl ?_
        refine lv_istore (lv' := [(4, .int (kz 0)), (0, .ref o), (1, .int (kz f)), (2, .int (kz g)), (3, .int (kz day))]) hx hb dX12_fits_26 hl (by decide) rfl (fun ls hl => ?_)
        refine lv_iconst (v := kz 0) hx hb dX12_fits_28 rfl ?_
        refine lv_istore (lv' := [(5, .int (kz 0)), (4, .int (kz 0)), (0, .ref o), (1, .int (kz f)), (2, .int (kz g)), (3, .int (kz day))]) hx hb dX12_fits_29 hl (by decide) rfl (fun ls hl => ?_)
        refine iz_loopS2 (P := fun N9 n q ls => 0 ≤ n ∧ n ≤ q ∧ q ≤ 24 ∧ 24 - q ≤ (N9 : Int) ∧ lv_has ls 6 [(5, .int (kz q)), (4, .int (kz n)), (0, .ref o), (1, .int (kz f)), (2, .int (kz g)), (3, .int (kz day))]) 100000 (x0 := 0) (x1 := 0) ?_ ⟨by omega, by omega, by omega, by omega, lv_sub hl [0, 1, 2, 3, 4, 5] rfl⟩
        intro n_7 n q ls ⟨n_7f0, n_7f1, n_7f2, n_7f3, hl⟩ ihn_7
        refine lv_iload hx hb dX12_fits_31 (lv_at hl 0 rfl) ?_
        refine lv_aload_n hx hb dX12_fits_33 rfl (lv_at hl 2 rfl) ?_
        refine iz_get (D := (dC, dI)) (ci := 12) (v := .int (kz (zi 9))) (C := RX12) (T := TX12) (N := 49) hx hb hts hin hown hK hO rfl 9 (by decide) hL138 (fun _ h9 => h9) rfl dX12_fits_34 ?_
        refine iz_ge (tgt := 68) hx hb dX12_fits_37 (by decide) (by unfold rg2; omega) (fun br_8 => ?_) (fun br_8 => ?_)
        · refine lv_iload hx hb dX12_fits_68 (lv_at hl 1 rfl) ?_
          exact W.iret (v := kz n) hx hb hr (fun t9 ht hW => ⟨kz n, rfl, ⟨n, rfl, by omega⟩, ht⟩) (fun q h => absurd h List.not_mem_nil) dX12_fits_70
        · refine lv_iload hx hb dX12_fits_40 (lv_at hl 1 rfl) ?_
          refine lv_aload_n hx hb dX12_fits_42 rfl (lv_at hl 2 rfl) ?_
          refine lv_iload hx hb dX12_fits_43 (lv_at hl 0 rfl) ?_
          refine lv_iload_n hx hb dX12_fits_45 rfl (lv_at hl 3 rfl) ?_
          refine lv_iload_n hx hb dX12_fits_46 rfl (lv_at hl 4 rfl) ?_
          refine lv_iload_n hx hb dX12_fits_47 rfl (lv_at hl 5 rfl) ?_
          refine vp_callSi (va_Run.run (va_runV (As := [.int (kz q), .int (kz f), .int (kz g), .int (kz day)]) (rest := [.int (kz n)]) ⟨hx, hb, hml, hown, hts⟩ (m_fitsTwo l dC dI ca A X o am zi zl hM hz q f g day (by omega) (by omega) (by omega) (by omega)) (cwV 4 hts gX12_fits_X12_fitsTwo rfl rfl rfl (by decide +kernel) ⟨Nat.le_of_ble_eq_true rfl, Nat.le_of_ble_eq_true rfl⟩) ⟨fun a U g mk q => by obtain ⟨q0, qK, qI⟩ := q; exact ⟨q0, va_K.moved (u := U) (U := U.calling g mk a) (Vm.Alike.refl U.vm) qK, qI⟩, va_recv hK (at_P hO) (ci := 12) (q0 := 0) rfl rfl, fun U hU hW => ⟨rfl, va_K.moved hW.alike hK, by rw [hU]; exact ⟨hI, hO⟩⟩⟩ rfl rfl hl.1 rfl (lv_room (Nat.le_of_ble_eq_true rfl)) dX12_fits_48 ⟨Nat.le_of_ble_eq_true rfl, Nat.le_of_ble_eq_true rfl⟩)) (fun r_10 hw_9 => ?_)
          rcases hw_9 with rfl | rfl
          · refine iz_eqz (tgt := 58) hx hb dX12_fits_51 (by decide) (by unfold rg2; omega) (fun q9 => absurd q9 (by decide)) (fun _ => ?_)
            refine lv_iconst (v := kz 1) hx hb dX12_fits_54 rfl ?_
            refine lv_goto (tgt := 59) hx hb dX12_fits_55 (by decide) ?_
            refine iz_iadd hx hb dX12_fits_59 ?_
            refine lv_istore (lv' := [(4, .int (kz (n + 1))), (5, .int (kz q)), (0, .ref o), (1, .int (kz f)), (2, .int (kz g)), (3, .int (kz day))]) hx hb dX12_fits_60 hl (by decide) rfl (fun ls hl => ?_)
            refine lv_iinc (v := kz (q + 1)) (lv' := [(5, .int (kz (q + 1))), (4, .int (kz (n + 1))), (0, .ref o), (1, .int (kz f)), (2, .int (kz g)), (3, .int (kz day))]) hx hb dX12_fits_62 hl (k := 1) rfl (kz_add q 1) (by decide) rfl (fun ls hl => ?_)
            refine lv_goto (tgt := 31) hx hb dX12_fits_65 (by decide) ?_
            exact ihn_7 (n_7 - 1) (by omega) (n + 1) (q + 1) _ ⟨by omega, by omega, by omega, by omega, lv_sub hl [0, 1, 2, 3, 4, 5] rfl⟩
          · refine iz_eqz (tgt := 58) hx hb dX12_fits_51 (by decide) (by unfold rg2; omega) (fun _ => ?_) (fun q9 => absurd q9 (by decide))
            refine lv_iconst (v := kz 0) hx hb dX12_fits_58 rfl ?_
            refine iz_iadd hx hb dX12_fits_59 ?_
            refine lv_istore (lv' := [(4, .int (kz (n + 0))), (5, .int (kz q)), (0, .ref o), (1, .int (kz f)), (2, .int (kz g)), (3, .int (kz day))]) hx hb dX12_fits_60 hl (by decide) rfl (fun ls hl => ?_)
            refine lv_iinc (v := kz (q + 1)) (lv' := [(5, .int (kz (q + 1))), (4, .int (kz (n + 0))), (0, .ref o), (1, .int (kz f)), (2, .int (kz g)), (3, .int (kz day))]) hx hb dX12_fits_62 hl (k := 1) rfl (kz_add q 1) (by decide) rfl (fun ls hl => ?_)
            refine lv_goto (tgt := 31) hx hb dX12_fits_65 (by decide) ?_
            exact ihn_7 (n_7 - 1) (by omega) (n + 0) (q + 1) _ ⟨by omega, by omega, by omega, by omega, lv_sub hl [0, 1, 2, 3, 4, 5] rfl⟩
      · refine iz_nez (tgt := 25) hx hb dX12_fits_20 (by decide) (by unfold rg2; omega) (fun q9 => absurd q9 (by decide)) (fun _ => ?_)
        refine lv_iconst (v := kz (-1)) hx hb dX12_fits_23 rfl ?_
        exact W.iret (v := kz (-1)) hx hb hr (fun t9 ht hW => ⟨kz (-1), rfl, ⟨(-1), rfl, by omega⟩, ht⟩) (fun q h => absurd h List.not_mem_nil) dX12_fits_24
    · refine iz_eqz (tgt := 23) hx hb dX12_fits_13 (by decide) (by unfold rg2; omega) (fun _ => ?_) (fun q9 => absurd q9 (by decide))
      refine lv_iconst (v := kz (-1)) hx hb dX12_fits_23 rfl ?_
      exact W.iret (v := kz (-1)) hx hb hr (fun t9 ht hW => ⟨kz (-1), rfl, ⟨(-1), rfl, by omega⟩, ht⟩) (fun q h => absurd h List.not_mem_nil) dX12_fits_24
  · refine iz_eqz (tgt := 23) hx hb dX12_fits_5 (by decide) (by unfold rg2; omega) (fun _ => ?_) (fun q9 => absurd q9 (by decide))
    refine lv_iconst (v := kz (-1)) hx hb dX12_fits_23 rfl ?_
    exact W.iret (v := kz (-1)) hx hb hr (fun t9 ht hW => ⟨kz (-1), rfl, ⟨(-1), rfl, by omega⟩, ht⟩) (fun q h => absurd h List.not_mem_nil) dX12_fits_24
set_option maxHeartbeats 4000000 in
set_option maxRecDepth 100000 in
/-- X12_fitting -/
theorem m_fitting (l : Launch) (dC : Nat → ClassId) (dI : Nat → Nat → Nat) (ca : Nat → ClassId) (A : Nat → Prop) (X : kGh) (o : Nat) (am : Nat → Nat) (zi : Nat → Int) (zl : Nat → Int64) (hM : mS X A o am) (hz : mZ X am zi) (f : Int) (g : Int) (day : Int) (k : Int) (fr : -2147483648 ≤ f ∧ f ≤ 2147483647) (gr : -2147483648 ≤ g ∧ g ≤ 2147483647) (dayr : -2147483648 ≤ day ∧ day ≤ 2147483647) (kr : -2147483648 ≤ k ∧ k ≤ 2147483647) : Met l yX12_fitting wsX12_fitting ({ frames := 2, cells := 0, slots := 0, locals := 43 }) (va_Pc [.ref o, .int (kz f), .int (kz g), .int (kz day), .int (kz k)] (fun U => va_K (dC, dI) vwCl (k_tys ca) U ∧ mI (dC, dI) ca A X o am zi zl U.heap)) (vp_Si (fun r => True)) 0 0 (fun _ => False) := by
  refine Met.ofW (cc := cX12_fitting) (maxL := 7) (ret := (some .int)) (by decide) rfl ?_
  intro p e s m args below meth c s₁ B hml hv
  obtain ⟨rfl, hK, hI, hO⟩ := hv
  have hx := B.exec
  have hb := B.bytes
  have hr := B.returns
  have hts := atoms_spec (ws := wsX12_fitting) B.pre
  have hown : s.vm.findClass RX12 = some m.cls := findClass_of_methodNamed B.named
  have hin : ∀ w ∈ u_ws RX12 TX12 49, w ∈ wsX12_fitting := by decide +kernel
  have hL138 := hts (.fieldLink RX12 138 "JoinBenchModel" "rules" "I") (by decide +kernel)
  obtain ⟨⟨z1a, z1b⟩, ⟨z2a, z2b⟩, ⟨z9a, z9b⟩, ⟨z20a, z20b⟩, ⟨z21a, z21b⟩, ⟨z22a, z22b⟩, ⟨z26a, z26b⟩, ⟨z28a, z28b⟩, ⟨z34a, z34b⟩, ⟨z35a, z35b⟩, ⟨z38a, z38b⟩, ⟨z39a, z39b⟩, ⟨z46a, z46b⟩, hzA, hzB⟩ := id hz
  have hl := lv_entry ([.ref o, .int (kz f), .int (kz g), .int (kz day), .int (kz k)]) (n := 7) (Nat.le_of_ble_eq_true rfl)
  rw [lg_entry_eq]
  generalize (lg_sl ([.ref o, .int (kz f), .int (kz g), .int (kz day), .int (kz k)]) ++ List.replicate (7 - (lg_sl ([.ref o, .int (kz f), .int (kz g), .int (kz day), .int (kz k)])).length) Slot.unset).toArray = ls at hl ⊢
  have hl : lv_has ls 7 [(0, .ref o), (1, .int (kz f)), (2, .int (kz g)), (3, .int (kz day)), (4, .int (kz k))] := hl
  refine lv_aload_n hx hb dX12_fitting_0 rfl (lv_at hl 0 rfl) ?_
  refine lv_iload_n hx hb dX12_fitting_1 rfl (lv_at hl 1 rfl) ?_
  refine vp_callSi (va_Run.run (va_runV (As := [.int (kz f)]) (rest := []) ⟨hx, hb, hml, hown, hts⟩ (m_isForm l dC dI ca A X o am zi zl hM hz f (by omega)) (cwV 1 hts gX12_fitting_X12_isForm rfl rfl rfl (by decide +kernel) ⟨Nat.le_of_ble_eq_true rfl, Nat.le_of_ble_eq_true rfl⟩) ⟨fun a U g mk q => by obtain ⟨q0, qK, qI⟩ := q; exact ⟨q0, va_K.moved (u := U) (U := U.calling g mk a) (Vm.Alike.refl U.vm) qK, qI⟩, va_recv hK (at_P hO) (ci := 12) (q0 := 0) rfl rfl, fun U hU hW => ⟨rfl, va_K.moved hW.alike hK, by rw [hU]; exact ⟨hI, hO⟩⟩⟩ rfl rfl hl.1 rfl (lv_room (Nat.le_of_ble_eq_true rfl)) dX12_fitting_2 ⟨Nat.le_of_ble_eq_true rfl, Nat.le_of_ble_eq_true rfl⟩)) (fun r_2 hw_1 => ?_)
  rcases hw_1 with ⟨rfl, hw_1⟩ | ⟨rfl, hw_1⟩
  · refine iz_eqz (tgt := 23) hx hb dX12_fitting_5 (by decide) (by unfold rg2; omega) (fun q9 => absurd q9 (by decide)) (fun _ => ?_)
    refine lv_aload_n hx hb dX12_fitting_8 rfl (lv_at hl 0 rfl) ?_
    refine lv_iload_n hx hb dX12_fitting_9 rfl (lv_at hl 2 rfl) ?_
    refine vp_callSi (va_Run.run (va_runV (As := [.int (kz g)]) (rest := []) ⟨hx, hb, hml, hown, hts⟩ (m_isForm l dC dI ca A X o am zi zl hM hz g (by omega)) (cwV 1 hts gX12_fitting_X12_isForm rfl rfl rfl (by decide +kernel) ⟨Nat.le_of_ble_eq_true rfl, Nat.le_of_ble_eq_true rfl⟩) ⟨fun a U g mk q => by obtain ⟨q0, qK, qI⟩ := q; exact ⟨q0, va_K.moved (u := U) (U := U.calling g mk a) (Vm.Alike.refl U.vm) qK, qI⟩, va_recv hK (at_P hO) (ci := 12) (q0 := 0) rfl rfl, fun U hU hW => ⟨rfl, va_K.moved hW.alike hK, by rw [hU]; exact ⟨hI, hO⟩⟩⟩ rfl rfl hl.1 rfl (lv_room (Nat.le_of_ble_eq_true rfl)) dX12_fitting_10 ⟨Nat.le_of_ble_eq_true rfl, Nat.le_of_ble_eq_true rfl⟩)) (fun r_4 hw_3 => ?_)
    rcases hw_3 with ⟨rfl, hw_3⟩ | ⟨rfl, hw_3⟩
    · refine iz_eqz (tgt := 23) hx hb dX12_fitting_13 (by decide) (by unfold rg2; omega) (fun q9 => absurd q9 (by decide)) (fun _ => ?_)
      refine lv_iload_n hx hb dX12_fitting_16 rfl (lv_at hl 3 rfl) ?_
      refine vp_callSi (va_Run.run (va_runS (As := [.int (kz day)]) (rest := []) ⟨hx, hb, hml, hown, hts⟩ (m_isDay l day (by omega)) (va_cwS 1 hts gX12_fitting_X12_isDay rfl rfl rfl (by decide +kernel) ⟨Nat.le_of_ble_eq_true rfl, Nat.le_of_ble_eq_true rfl⟩) ⟨fun a U g mk q => q, fun U hU hW => ⟨rfl, trivial⟩⟩ rfl rfl hl.1 rfl (lv_room (Nat.le_of_ble_eq_true rfl)) dX12_fitting_17 ⟨Nat.le_of_ble_eq_true rfl, Nat.le_of_ble_eq_true rfl⟩)) (fun r_6 hw_5 => ?_)
      rcases hw_5 with ⟨rfl, hw_5⟩ | ⟨rfl, hw_5⟩
      · refine iz_nez (tgt := 25) hx hb dX12_fitting_20 (by decide) (by unfold rg2; omega) (fun _ => ?_) (fun q9 => absurd q9 (by decide))
        refine lv_iconst (v := kz 0) hx hb dX12_fitting_25 rfl ?_
        refine lv_istore (lv' := [(5, .int (kz 0)), (0, .ref o), (1, .int (kz f)), (2, .int (kz g)), (3, .int (kz day)), (4, .int (kz k))]) hx hb dX12_fitting_26 hl (by decide) rfl (fun ls hl => ?_)
        refine lv_iconst (v := kz 0) hx hb dX12_fitting_28 rfl ?_
        refine lv_istore (lv' := [(6, .int (kz 0)), (5, .int (kz 0)), (0, .ref o), (1, .int (kz f)), (2, .int (kz g)), (3, .int (kz day)), (4, .int (kz k))]) hx hb dX12_fitting_29 hl (by decide) rfl (fun ls hl => ?_)
        refine iz_loopS2 (P := fun N9 n q ls => 0 ≤ n ∧ n ≤ q ∧ q ≤ 24 ∧ 24 - q ≤ (N9 : Int) ∧ lv_has ls 7 [(6, .int (kz q)), (5, .int (kz n)), (0, .ref o), (1, .int (kz f)), (2, .int (kz g)), (3, .int (kz day)), (4, .int (kz k))]) 100000 (x0 := 0) (x1 := 0) ?_ ⟨by omega, by omega, by omega, by omega, lv_sub hl [0, 1, 2, 3, 4, 5, 6] rfl⟩
        intro n_7 n q ls ⟨n_7f0, n_7f1, n_7f2, n_7f3, hl⟩ ihn_7
        refine lv_iload hx hb dX12_fitting_31 (lv_at hl 0 rfl) ?_
        refine lv_aload_n hx hb dX12_fitting_33 rfl (lv_at hl 2 rfl) ?_
        refine iz_get (D := (dC, dI)) (ci := 12) (v := .int (kz (zi 9))) (C := RX12) (T := TX12) (N := 49) hx hb hts hin hown hK hO rfl 9 (by decide) hL138 (fun _ h9 => h9) rfl dX12_fitting_34 ?_
        refine iz_ge (tgt := 74) hx hb dX12_fitting_37 (by decide) (by unfold rg2; omega) (fun br_8 => ?_) (fun br_8 => ?_)
        · refine lv_iconst (v := kz (-1)) hx hb dX12_fitting_74 rfl ?_
          exact W.iret (v := kz (-1)) hx hb hr (fun t9 ht hW => ⟨kz (-1), rfl, trivial, ht⟩) (fun q h => absurd h List.not_mem_nil) dX12_fitting_75
        · refine lv_aload_n hx hb dX12_fitting_40 rfl (lv_at hl 2 rfl) ?_
          refine lv_iload hx hb dX12_fitting_41 (lv_at hl 0 rfl) ?_
          refine lv_iload_n hx hb dX12_fitting_43 rfl (lv_at hl 3 rfl) ?_
          refine lv_iload_n hx hb dX12_fitting_44 rfl (lv_at hl 4 rfl) ?_
          refine lv_iload_n hx hb dX12_fitting_45 rfl (lv_at hl 5 rfl) ?_
          refine vp_callSi (va_Run.run (va_runV (As := [.int (kz q), .int (kz f), .int (kz g), .int (kz day)]) (rest := []) ⟨hx, hb, hml, hown, hts⟩ (m_fitsTwo l dC dI ca A X o am zi zl hM hz q f g day (by omega) (by omega) (by omega) (by omega)) (cwV 4 hts gX12_fitting_X12_fitsTwo rfl rfl rfl (by decide +kernel) ⟨Nat.le_of_ble_eq_true rfl, Nat.le_of_ble_eq_true rfl⟩) ⟨fun a U g mk q => by obtain ⟨q0, qK, qI⟩ := q; exact ⟨q0, va_K.moved (u := U) (U := U.calling g mk a) (Vm.Alike.refl U.vm) qK, qI⟩, va_recv hK (at_P hO) (ci := 12) (q0 := 0) rfl rfl, fun U hU hW => ⟨rfl, va_K.moved hW.alike hK, by rw [hU]; exact ⟨hI, hO⟩⟩⟩ rfl rfl hl.1 rfl (lv_room (Nat.le_of_ble_eq_true rfl)) dX12_fitting_46 ⟨Nat.le_of_ble_eq_true rfl, Nat.le_of_ble_eq_true rfl⟩)) (fun r_10 hw_9 => ?_)
          rcases hw_9 with rfl | rfl
          · refine iz_nez (tgt := 55) hx hb dX12_fitting_49 (by decide) (by unfold rg2; omega) (fun _ => ?_) (fun q9 => absurd q9 (by decide))
            refine lv_iload hx hb dX12_fitting_55 (lv_at hl 1 rfl) ?_
            refine lv_iload hx hb dX12_fitting_57 (lv_at hl 6 rfl) ?_
            refine iz_ne (tgt := 65) hx hb dX12_fitting_59 (by decide) (by unfold rg2; omega) (fun br_11 => ?_) (fun br_11 => ?_)
            · refine lv_iinc (v := kz (n + 1)) (lv' := [(5, .int (kz (n + 1))), (6, .int (kz q)), (0, .ref o), (1, .int (kz f)), (2, .int (kz g)), (3, .int (kz day)), (4, .int (kz k))]) hx hb dX12_fitting_65 hl (k := 1) rfl (kz_add n 1) (by decide) rfl (fun ls hl => ?_)
              refine lv_iinc (v := kz (q + 1)) (lv' := [(6, .int (kz (q + 1))), (5, .int (kz (n + 1))), (0, .ref o), (1, .int (kz f)), (2, .int (kz g)), (3, .int (kz day)), (4, .int (kz k))]) hx hb dX12_fitting_68 hl (k := 1) rfl (kz_add q 1) (by decide) rfl (fun ls hl => ?_)
              refine lv_goto (tgt := 31) hx hb dX12_fitting_71 (by decide) ?_
              exact ihn_7 (n_7 - 1) (by omega) (n + 1) (q + 1) _ ⟨by omega, by omega, by omega, by omega, lv_sub hl [0, 1, 2, 3, 4, 5, 6] rfl⟩
            · refine lv_iload hx hb dX12_fitting_62 (lv_at hl 0 rfl) ?_
              exact W.iret (v := kz q) hx hb hr (fun t9 ht hW => ⟨kz q, rfl, trivial, ht⟩) (fun q h => absurd h List.not_mem_nil) dX12_fitting_64
          · refine iz_nez (tgt := 55) hx hb dX12_fitting_49 (by decide) (by unfold rg2; omega) (fun q9 => absurd q9 (by decide)) (fun _ => ?_)
            refine lv_goto (tgt := 68) hx hb dX12_fitting_52 (by decide) ?_
            refine lv_iinc (v := kz (q + 1)) (lv' := [(6, .int (kz (q + 1))), (5, .int (kz n)), (0, .ref o), (1, .int (kz f)), (2, .int (kz g)), (3, .int (kz day)), (4, .int (kz k))]) hx hb dX12_fitting_68 hl (k := 0) rfl (kz_add q 1) (by decide) rfl (fun ls hl => ?_)
            refine lv_goto (tgt := 31) hx hb dX12_fitting_71 (by decide) ?_
            exact ihn_7 (n_7 - 1) (by omega) n (q + 1) _ ⟨by omega, by omega, by omega, by omega, lv_sub hl [0, 1, 2, 3, 4, 5, 6] rfl⟩
      · refine iz_nez (tgt := 25) hx hb dX12_fitting_20 (by decide) (by unfold rg2; omega) (fun q9 => absurd q9 (by decide)) (fun _ => ?_)
        refine lv_iconst (v := kz (-1)) hx hb dX12_fitting_23 rfl ?_
        exact W.iret (v := kz (-1)) hx hb hr (fun t9 ht hW => ⟨kz (-1), rfl, trivial, ht⟩) (fun q h => absurd h List.not_mem_nil) dX12_fitting_24
    · refine iz_eqz (tgt := 23) hx hb dX12_fitting_13 (by decide) (by unfold rg2; omega) (fun _ => ?_) (fun q9 => absurd q9 (by decide))
      refine lv_iconst (v := kz (-1)) hx hb dX12_fitting_23 rfl ?_
      exact W.iret (v := kz (-1)) hx hb hr (fun t9 ht hW => ⟨kz (-1), rfl, trivial, ht⟩) (fun q h => absurd h List.not_mem_nil) dX12_fitting_24
  · refine iz_eqz (tgt := 23) hx hb dX12_fitting_5 (by decide) (by unfold rg2; omega) (fun _ => ?_) (fun q9 => absurd q9 (by decide))
    refine lv_iconst (v := kz (-1)) hx hb dX12_fitting_23 rfl ?_
    exact W.iret (v := kz (-1)) hx hb hr (fun t9 ht hW => ⟨kz (-1), rfl, trivial, ht⟩) (fun q h => absurd h List.not_mem_nil) dX12_fitting_24
set_option maxHeartbeats 4000000 in
set_option maxRecDepth 100000 in
/-- X12_cutOf -/
theorem m_cutOf (l : Launch) (dC : Nat → ClassId) (dI : Nat → Nat → Nat) (ca : Nat → ClassId) (A : Nat → Prop) (X : kGh) (o : Nat) (am : Nat → Nat) (zi : Nat → Int) (zl : Nat → Int64) (hM : mS X A o am) (hz : mZ X am zi) (k : Int) (ki : 0 ≤ k ∧ k ≤ 39) : Met l yX12_cutOf wsX12_cutOf ({ frames := 0, cells := 0, slots := 0, locals := 0 }) (va_Pc [.ref o, .int (kz k)] (fun U => va_K (dC, dI) vwCl (k_tys ca) U ∧ mI (dC, dI) ca A X o am zi zl U.heap)) (vp_Si (fun r => ∃ z : Int, r = kz z ∧ 0 ≤ z ∧ z ≤ 3)) 0 0 (fun _ => False) := by
  refine Met.ofW (cc := cX12_cutOf) (maxL := 2) (ret := (some .int)) (by decide) rfl ?_
  intro p e s m args below meth c s₁ B hml hv
  obtain ⟨rfl, hK, hI, hO⟩ := hv
  have hx := B.exec
  have hb := B.bytes
  have hr := B.returns
  have hts := atoms_spec (ws := wsX12_cutOf) B.pre
  have hown : s.vm.findClass RX12 = some m.cls := findClass_of_methodNamed B.named
  have hin : ∀ w ∈ u_ws RX12 TX12 49, w ∈ wsX12_cutOf := by decide +kernel
  have hL70 := hts (.fieldLink RX12 70 "JoinBenchModel" "rowRule" "[I") (by decide +kernel)
  have hL39 := hts (.fieldLink RX12 39 "JoinBenchModel" "begins" "[I") (by decide +kernel)
  have g24 : X.1 (am 24) = (124, 20, 40, -1, 23) := hM.1 24 _ rfl (by decide)
  have w24 : X.2 (am 24) = 0 := hM.2.2.2 24 _ rfl (by decide) (by decide) (by decide)
  have g12 : X.1 (am 12) = (112, 20, 24, 0, 3) := hM.1 12 _ rfl (by decide)
  have w12 : X.2 (am 12) = 0 := hM.2.2.2 12 _ rfl (by decide) (by decide) (by decide)
  obtain ⟨⟨z1a, z1b⟩, ⟨z2a, z2b⟩, ⟨z9a, z9b⟩, ⟨z20a, z20b⟩, ⟨z21a, z21b⟩, ⟨z22a, z22b⟩, ⟨z26a, z26b⟩, ⟨z28a, z28b⟩, ⟨z34a, z34b⟩, ⟨z35a, z35b⟩, ⟨z38a, z38b⟩, ⟨z39a, z39b⟩, ⟨z46a, z46b⟩, hzA, hzB⟩ := id hz
  have hl := lv_entry ([.ref o, .int (kz k)]) (n := 2) (Nat.le_of_ble_eq_true rfl)
  rw [lg_entry_eq]
  generalize (lg_sl ([.ref o, .int (kz k)]) ++ List.replicate (2 - (lg_sl ([.ref o, .int (kz k)])).length) Slot.unset).toArray = ls at hl ⊢
  have hl : lv_has ls 2 [(0, .ref o), (1, .int (kz k))] := hl
  refine lv_iload_n hx hb dX12_cutOf_0 rfl (lv_at hl 1 rfl) ?_
  refine iz_eqz (tgt := 13) hx hb dX12_cutOf_1 (by decide) (by unfold rg2; omega) (fun br_1 => ?_) (fun br_1 => ?_)
  · refine lv_iconst (v := kz 0) hx hb dX12_cutOf_13 rfl ?_
    refine lv_goto (tgt := 28) hx hb dX12_cutOf_14 (by decide) ?_
    exact W.iret (v := kz 0) hx hb hr (fun t9 ht hW => ⟨kz 0, rfl, ⟨0, rfl, by omega⟩, ht⟩) (fun q h => absurd h List.not_mem_nil) dX12_cutOf_28
  · refine lv_aload_n hx hb dX12_cutOf_4 rfl (lv_at hl 0 rfl) ?_
    refine iz_get (D := (dC, dI)) (ci := 12) (v := .ref (am 24)) (C := RX12) (T := TX12) (N := 49) hx hb hts hin hown hK hO rfl 24 (by decide) hL70 (fun _ h9 => h9) rfl dX12_cutOf_5 ?_
    refine lv_iload_n hx hb dX12_cutOf_8 rfl (lv_at hl 1 rfl) ?_
    obtain ⟨f24_2, c_f24_2, k_f24_2⟩ := iv_o20 hI g24
    refine iz_iald hx hb hK 0 c_f24_2 rfl (by omega) (by decide) dX12_cutOf_9 ?_
    obtain ⟨v_3a, v_3b, v_3c⟩ := k_f24_2 k (by omega)
    clear v_3c
    obtain ⟨v_3, ev_3⟩ : ∃ z9 : Int, ge1 f24_2 k = z9 := ⟨_, rfl⟩
    rw [ev_3] at v_3a v_3b ⊢
    refine iz_gez (tgt := 17) hx hb dX12_cutOf_10 (by decide) (by unfold rg2; omega) (fun br_4 => ?_) (fun br_4 => ?_)
    · refine lv_aload_n hx hb dX12_cutOf_17 rfl (lv_at hl 0 rfl) ?_
      refine iz_get (D := (dC, dI)) (ci := 12) (v := .ref (am 12)) (C := RX12) (T := TX12) (N := 49) hx hb hts hin hown hK hO rfl 12 (by decide) hL39 (fun _ h9 => h9) rfl dX12_cutOf_18 ?_
      refine lv_aload_n hx hb dX12_cutOf_21 rfl (lv_at hl 0 rfl) ?_
      refine iz_get (D := (dC, dI)) (ci := 12) (v := .ref (am 24)) (C := RX12) (T := TX12) (N := 49) hx hb hts hin hown hK hO rfl 24 (by decide) hL70 (fun _ h9 => h9) rfl dX12_cutOf_22 ?_
      refine lv_iload_n hx hb dX12_cutOf_25 rfl (lv_at hl 1 rfl) ?_
      refine iz_iald hx hb hK 0 c_f24_2 rfl (by omega) (by decide) dX12_cutOf_26 ?_
      rw [ev_3]
      obtain ⟨f12_5, c_f12_5, k_f12_5⟩ := iv_o20 hI g12
      refine iz_iald hx hb hK 0 c_f12_5 rfl (by omega) (by decide) dX12_cutOf_27 ?_
      obtain ⟨v_6a, v_6b, v_6c⟩ := k_f12_5 v_3 (by omega)
      clear v_6c
      obtain ⟨v_6, ev_6⟩ : ∃ z9 : Int, ge1 f12_5 v_3 = z9 := ⟨_, rfl⟩
      rw [ev_6] at v_6a v_6b ⊢
      exact W.iret (v := kz v_6) hx hb hr (fun t9 ht hW => ⟨kz v_6, rfl, ⟨v_6, rfl, by omega⟩, ht⟩) (fun q h => absurd h List.not_mem_nil) dX12_cutOf_28
    · refine lv_iconst (v := kz 0) hx hb dX12_cutOf_13 rfl ?_
      refine lv_goto (tgt := 28) hx hb dX12_cutOf_14 (by decide) ?_
      exact W.iret (v := kz 0) hx hb hr (fun t9 ht hW => ⟨kz 0, rfl, ⟨0, rfl, by omega⟩, ht⟩) (fun q h => absurd h List.not_mem_nil) dX12_cutOf_28
set_option maxHeartbeats 4000000 in
set_option maxRecDepth 100000 in
/-- X12_cost -/
theorem m_cost (l : Launch) (dC : Nat → ClassId) (dI : Nat → Nat → Nat) (ca : Nat → ClassId) (A : Nat → Prop) (X : kGh) (o : Nat) (am : Nat → Nat) (zi : Nat → Int) (zl : Nat → Int64) (hM : mS X A o am) (hz : mZ X am zi) (f : Int) (c1 : Int) (fr : -2147483648 ≤ f ∧ f ≤ 2147483647) (c1r : -2147483648 ≤ c1 ∧ c1 ≤ 2147483647) : Met l yX12_cost wsX12_cost ({ frames := 2, cells := 0, slots := 0, locals := 43 }) (va_Pc [.ref o, .int (kz f), .int (kz c1)] (fun U => va_K (dC, dI) vwCl (k_tys ca) U ∧ mI (dC, dI) ca A X o am zi zl U.heap)) (va_Qi (fun (r : Int32) (u : (Nat → Int) × (Nat → Int64)) => mZ X am u.1 ∧ u.1 20 = zi 20) (fun u U => va_K (dC, dI) vwCl (k_tys ca) U ∧ mI (dC, dI) ca A X o am u.1 u.2 U.heap) A) 0 0 A := by
  refine Met.ofW (cc := cX12_cost) (maxL := 4) (ret := (some .int)) (by decide) rfl ?_
  intro p e s m args below meth c s₁ B hml hv
  obtain ⟨rfl, hK, hI, hO⟩ := hv
  have hx := B.exec
  have hb := B.bytes
  have hr := B.returns
  have hts := atoms_spec (ws := wsX12_cost) B.pre
  have hown : s.vm.findClass RX12 = some m.cls := findClass_of_methodNamed B.named
  have hin : ∀ w ∈ u_ws RX12 TX12 49, w ∈ wsX12_cost := by decide +kernel
  have hL26 := hts (.fieldLink RX12 26 "JoinBenchModel" "cost" "[I") (by decide +kernel)
  have g7 : X.1 (am 7) = (107, 20, 40, -2147483648, 2147483647) := hM.1 7 _ rfl (by decide)
  have w7 : X.2 (am 7) = 0 := hM.2.2.2 7 _ rfl (by decide) (by decide) (by decide)
  obtain ⟨⟨z1a, z1b⟩, ⟨z2a, z2b⟩, ⟨z9a, z9b⟩, ⟨z20a, z20b⟩, ⟨z21a, z21b⟩, ⟨z22a, z22b⟩, ⟨z26a, z26b⟩, ⟨z28a, z28b⟩, ⟨z34a, z34b⟩, ⟨z35a, z35b⟩, ⟨z38a, z38b⟩, ⟨z39a, z39b⟩, ⟨z46a, z46b⟩, hzA, hzB⟩ := id hz
  obtain ⟨H, hH⟩ : ∃ H : Heap, H = s.heap := ⟨_, rfl⟩
  have hS : va_S A s.heap H [] := by rw [hH]; exact va_S.rf
  rw [← hH] at hI hO ⊢
  clear hH
  have hl := lv_entry ([.ref o, .int (kz f), .int (kz c1)]) (n := 4) (Nat.le_of_ble_eq_true rfl)
  rw [lg_entry_eq]
  generalize (lg_sl ([.ref o, .int (kz f), .int (kz c1)]) ++ List.replicate (4 - (lg_sl ([.ref o, .int (kz f), .int (kz c1)])).length) Slot.unset).toArray = ls at hl ⊢
  have hl : lv_has ls 4 [(0, .ref o), (1, .int (kz f)), (2, .int (kz c1))] := hl
  refine lv_aload_n hx hb dX12_cost_0 rfl (lv_at hl 0 rfl) ?_
  refine lv_iload_n hx hb dX12_cost_1 rfl (lv_at hl 1 rfl) ?_
  refine vp_callSi (va_Run.run (va_runV (As := [.int (kz f)]) (rest := []) ⟨hx, hb, hml, hown, hts⟩ (m_isForm l dC dI ca A X o am zi zl hM hz f (by omega)) (cwV 1 hts gX12_cost_X12_isForm rfl rfl rfl (by decide +kernel) ⟨Nat.le_of_ble_eq_true rfl, Nat.le_of_ble_eq_true rfl⟩) ⟨fun a U g mk q => by obtain ⟨q0, qK, qI⟩ := q; exact ⟨q0, va_K.moved (u := U) (U := U.calling g mk a) (Vm.Alike.refl U.vm) qK, qI⟩, va_recv hK (at_P hO) (ci := 12) (q0 := 0) rfl rfl, fun U hU hW => ⟨rfl, va_K.moved hW.alike hK, by rw [hU]; exact ⟨hI, hO⟩⟩⟩ rfl rfl hl.1 rfl (lv_room (Nat.le_of_ble_eq_true rfl)) dX12_cost_2 ⟨Nat.le_of_ble_eq_true rfl, Nat.le_of_ble_eq_true rfl⟩)) (fun r_2 hw_1 => ?_)
  rcases hw_1 with ⟨rfl, hw_1⟩ | ⟨rfl, hw_1⟩
  · refine iz_eqz (tgt := 18) hx hb dX12_cost_5 (by decide) (by unfold rg2; omega) (fun q9 => absurd q9 (by decide)) (fun _ => ?_)
    refine lv_iload_n hx hb dX12_cost_8 rfl (lv_at hl 2 rfl) ?_
    refine lv_iconst (v := kz 0) hx hb dX12_cost_9 rfl ?_
    refine lv_bipush (v := kz 99) hx hb dX12_cost_10 (by decide) ?_
    refine vp_callSi (va_Run.run (va_runS (As := [.int (kz c1), .int (kz 0), .int (kz 99)]) (rest := []) ⟨hx, hb, hml, hown, hts⟩ (m_in l c1 0 99 (by omega) (by omega) (by omega)) (va_cwS 3 hts gX12_cost_X12_in rfl rfl rfl (by decide +kernel) ⟨Nat.le_of_ble_eq_true rfl, Nat.le_of_ble_eq_true rfl⟩) ⟨fun a U g mk q => q, fun U hU hW => ⟨rfl, trivial⟩⟩ rfl rfl hl.1 rfl (lv_room (Nat.le_of_ble_eq_true rfl)) dX12_cost_12 ⟨Nat.le_of_ble_eq_true rfl, Nat.le_of_ble_eq_true rfl⟩)) (fun r_4 hw_3 => ?_)
    rcases hw_3 with ⟨rfl, hw_3⟩ | ⟨rfl, hw_3⟩
    · refine iz_nez (tgt := 20) hx hb dX12_cost_15 (by decide) (by unfold rg2; omega) (fun _ => ?_) (fun q9 => absurd q9 (by decide))
      refine lv_aload_n hx hb dX12_cost_20 rfl (lv_at hl 0 rfl) ?_
      refine iz_get (D := (dC, dI)) (ci := 12) (v := .ref (am 7)) (C := RX12) (T := TX12) (N := 49) hx hb hts hin hown hK hO rfl 7 (by decide) hL26 (fun _ h9 => h9) rfl dX12_cost_21 ?_
      refine lv_iload_n hx hb dX12_cost_24 rfl (lv_at hl 1 rfl) ?_
      obtain ⟨f7_5, c_f7_5, k_f7_5⟩ := iv_o20 hI g7
      refine iz_iald hx hb hK 0 c_f7_5 rfl (by omega) (by decide) dX12_cost_25 ?_
      obtain ⟨v_6a, v_6b, v_6c⟩ := k_f7_5 f (by omega)
      clear v_6c
      obtain ⟨v_6, ev_6⟩ : ∃ z9 : Int, ge1 f7_5 f = z9 := ⟨_, rfl⟩
      rw [ev_6] at v_6a v_6b ⊢
      refine lv_istore_n (lv' := [(3, .int (kz v_6)), (0, .ref o), (1, .int (kz f)), (2, .int (kz c1))]) hx hb dX12_cost_26 rfl hl (by decide) rfl (fun ls hl => ?_)
      refine lv_aload_n hx hb dX12_cost_27 rfl (lv_at hl 1 rfl) ?_
      refine iz_get (D := (dC, dI)) (ci := 12) (v := .ref (am 7)) (C := RX12) (T := TX12) (N := 49) hx hb hts hin hown hK hO rfl 7 (by decide) hL26 (fun _ h9 => h9) rfl dX12_cost_28 ?_
      refine lv_iload_n hx hb dX12_cost_31 rfl (lv_at hl 2 rfl) ?_
      refine lv_iload_n hx hb dX12_cost_32 rfl (lv_at hl 3 rfl) ?_
      refine iz_any (fun z_7 z_7a z_7b z_7e => ?_)
      refine iz_iast hx hb hK 0 c_f7_5 hS (iv_A hI g7 (by decide)) rfl (by omega) (by decide) dX12_cost_33 (fun H locs c9 oq hS => ?_)
      have hI := iv_s20 hI g7 k_f7_5 c9 oq (by omega) (by omega) (by decide) (by omega)
      have hO := hO.kept (oq _ (iv_ne0 g7 hM.2.1 (by decide)).symm)
      clear oq c9
      refine lv_iload_n hx hb dX12_cost_34 rfl (lv_at hl 0 rfl) ?_
      exact W.iret (v := kz v_6) hx hb hr (fun t9 ht hW => ⟨⟨kz v_6, (zi, zl), rfl, ⟨hz, rfl⟩, va_K.moved hW.alike hK, by rw [ht]; exact ⟨hI, hO⟩⟩, hS.F ht⟩) hS.2.2 dX12_cost_35
    · refine iz_nez (tgt := 20) hx hb dX12_cost_15 (by decide) (by unfold rg2; omega) (fun q9 => absurd q9 (by decide)) (fun _ => ?_)
      refine lv_iconst (v := kz (-1)) hx hb dX12_cost_18 rfl ?_
      exact W.iret (v := kz (-1)) hx hb hr (fun t9 ht hW => ⟨⟨kz (-1), (zi, zl), rfl, ⟨hz, rfl⟩, va_K.moved hW.alike hK, by rw [ht]; exact ⟨hI, hO⟩⟩, hS.F ht⟩) hS.2.2 dX12_cost_19
  · refine iz_eqz (tgt := 18) hx hb dX12_cost_5 (by decide) (by unfold rg2; omega) (fun _ => ?_) (fun q9 => absurd q9 (by decide))
    refine lv_iconst (v := kz (-1)) hx hb dX12_cost_18 rfl ?_
    exact W.iret (v := kz (-1)) hx hb hr (fun t9 ht hW => ⟨⟨kz (-1), (zi, zl), rfl, ⟨hz, rfl⟩, va_K.moved hW.alike hK, by rw [ht]; exact ⟨hI, hO⟩⟩, hS.F ht⟩) hS.2.2 dX12_cost_19
set_option maxHeartbeats 4000000 in
set_option maxRecDepth 100000 in
/-- X12_row -/
theorem m_row (l : Launch) (dC : Nat → ClassId) (dI : Nat → Nat → Nat) (ca : Nat → ClassId) (A : Nat → Prop) (X : kGh) (o : Nat) (am : Nat → Nat) (zi : Nat → Int) (zl : Nat → Int64) (hM : mS X A o am) (hz : mZ X am zi) (day : Int) (dayr : -2147483648 ≤ day ∧ day ≤ 2147483647) : Met l yX12_row wsX12_row ({ frames := 2, cells := 0, slots := 0, locals := 42 }) (va_Pc [.ref o, .int (kz day)] (fun U => va_K (dC, dI) vwCl (k_tys ca) U ∧ mI (dC, dI) ca A X o am zi zl U.heap)) (va_Qi (fun (r : Int32) (u : (Nat → Int) × (Nat → Int64)) => mZ X am u.1 ∧ u.1 20 = zi 20) (fun u U => va_K (dC, dI) vwCl (k_tys ca) U ∧ mI (dC, dI) ca A X o am u.1 u.2 U.heap) A) 0 0 A := by
  refine Met.ofW (cc := cX12_row) (maxL := 3) (ret := (some .int)) (by decide) rfl ?_
  intro p e s m args below meth c s₁ B hml hv
  obtain ⟨rfl, hK, hI, hO⟩ := hv
  have hx := B.exec
  have hb := B.bytes
  have hr := B.returns
  have hts := atoms_spec (ws := wsX12_row) B.pre
  have hown : s.vm.findClass RX12 = some m.cls := findClass_of_methodNamed B.named
  have hin : ∀ w ∈ u_ws RX12 TX12 49, w ∈ wsX12_row := by decide +kernel
  have hL155 := hts (.fieldLink RX12 155 "JoinBenchModel" "rowMany" "I") (by decide +kernel)
  have hL158 := hts (.fieldLink RX12 158 "JoinBenchModel" "rowDay" "I") (by decide +kernel)
  obtain ⟨⟨z1a, z1b⟩, ⟨z2a, z2b⟩, ⟨z9a, z9b⟩, ⟨z20a, z20b⟩, ⟨z21a, z21b⟩, ⟨z22a, z22b⟩, ⟨z26a, z26b⟩, ⟨z28a, z28b⟩, ⟨z34a, z34b⟩, ⟨z35a, z35b⟩, ⟨z38a, z38b⟩, ⟨z39a, z39b⟩, ⟨z46a, z46b⟩, hzA, hzB⟩ := id hz
  obtain ⟨H, hH⟩ : ∃ H : Heap, H = s.heap := ⟨_, rfl⟩
  have hS : va_S A s.heap H [] := by rw [hH]; exact va_S.rf
  rw [← hH] at hI hO ⊢
  clear hH
  have hl := lv_entry ([.ref o, .int (kz day)]) (n := 3) (Nat.le_of_ble_eq_true rfl)
  rw [lg_entry_eq]
  generalize (lg_sl ([.ref o, .int (kz day)]) ++ List.replicate (3 - (lg_sl ([.ref o, .int (kz day)])).length) Slot.unset).toArray = ls at hl ⊢
  have hl : lv_has ls 3 [(0, .ref o), (1, .int (kz day))] := hl
  refine lv_iload_n hx hb dX12_row_0 rfl (lv_at hl 1 rfl) ?_
  refine vp_callSi (va_Run.run (va_runS (As := [.int (kz day)]) (rest := []) ⟨hx, hb, hml, hown, hts⟩ (m_isDay l day (by omega)) (va_cwS 1 hts gX12_row_X12_isDay rfl rfl rfl (by decide +kernel) ⟨Nat.le_of_ble_eq_true rfl, Nat.le_of_ble_eq_true rfl⟩) ⟨fun a U g mk q => q, fun U hU hW => ⟨rfl, trivial⟩⟩ rfl rfl hl.1 rfl (lv_room (Nat.le_of_ble_eq_true rfl)) dX12_row_1 ⟨Nat.le_of_ble_eq_true rfl, Nat.le_of_ble_eq_true rfl⟩)) (fun r_2 hw_1 => ?_)
  rcases hw_1 with ⟨rfl, hw_1⟩ | ⟨rfl, hw_1⟩
  · refine iz_nez (tgt := 9) hx hb dX12_row_4 (by decide) (by unfold rg2; omega) (fun _ => ?_) (fun q9 => absurd q9 (by decide))
    refine lv_aload_n hx hb dX12_row_9 rfl (lv_at hl 0 rfl) ?_
    refine iz_get (D := (dC, dI)) (ci := 12) (v := .int (kz (zi 22))) (C := RX12) (T := TX12) (N := 49) hx hb hts hin hown hK hO rfl 22 (by decide) hL155 (fun _ h9 => h9) rfl dX12_row_10 ?_
    refine lv_istore_n (lv' := [(2, .int (kz (zi 22))), (0, .ref o), (1, .int (kz day))]) hx hb dX12_row_13 rfl hl (by decide) rfl (fun ls hl => ?_)
    refine lv_aload_n hx hb dX12_row_14 rfl (lv_at hl 1 rfl) ?_
    refine lv_iconst (v := kz 0) hx hb dX12_row_15 rfl ?_
    refine iz_put (D := (dC, dI)) (ci := 12) (v := .int (kz 0)) (ty := .int) (C := RX12) (T := TX12) (N := 49) hx hb hts hin tyX12 tyX12_ok nmX12 hown hK hO hS hM.2.2.1 rfl 22 (by decide) hL155 (fun _ h9 => h9) rfl (by decide +kernel) rfl rfl (Nat.le_of_ble_eq_true rfl) dX12_row_16 (fun H locs hO oq hS => ?_)
    rw [mM_22] at hO
    have hI := iv_skip hI hM.2.1 oq
    have hO : va_at (dC, dI) vwCl (o, .inr (12, mM am (fup zi 22 0) zl)) H := hO
    clear oq
    refine lv_aload_n hx hb dX12_row_19 rfl (lv_at hl 1 rfl) ?_
    refine lv_iload_n hx hb dX12_row_20 rfl (lv_at hl 2 rfl) ?_
    refine iz_put (D := (dC, dI)) (ci := 12) (v := .int (kz day)) (ty := .int) (C := RX12) (T := TX12) (N := 49) hx hb hts hin tyX12 tyX12_ok nmX12 hown hK hO hS hM.2.2.1 rfl 21 (by decide) hL158 (fun _ h9 => h9) rfl (by decide +kernel) rfl rfl (Nat.le_of_ble_eq_true rfl) dX12_row_21 (fun H locs hO oq hS => ?_)
    rw [mM_21] at hO
    have hI := iv_skip hI hM.2.1 oq
    have hO : va_at (dC, dI) vwCl (o, .inr (12, mM am (fup (fup zi 21 day) 22 0) zl)) H := hO
    clear oq
    refine lv_iload_n hx hb dX12_row_24 rfl (lv_at hl 0 rfl) ?_
    exact W.iret (v := kz (zi 22)) hx hb hr (fun t9 ht hW => ⟨⟨kz (zi 22), ((fup (fup zi 21 day) 22 0), zl), rfl, ⟨⟨⟨z1a, z1b⟩, ⟨z2a, z2b⟩, ⟨z9a, z9b⟩, ⟨z20a, z20b⟩, ⟨by show (-2147483648 : Int) ≤ day; omega, by show day ≤ (2147483647 : Int); omega⟩, ⟨by show (0 : Int) ≤ 0; omega, by show 0 ≤ (40 : Int); omega⟩, ⟨z26a, z26b⟩, ⟨z28a, z28b⟩, ⟨z34a, z34b⟩, ⟨z35a, z35b⟩, ⟨z38a, z38b⟩, ⟨z39a, z39b⟩, ⟨z46a, z46b⟩, by show zi 2 ≤ (X.2 (am 4) : Int); omega, by show zi 39 ≤ (X.2 (am 41) : Int); omega⟩, rfl⟩, va_K.moved hW.alike hK, by rw [ht]; exact ⟨hI, hO⟩⟩, hS.F ht⟩) hS.2.2 dX12_row_25
  · refine iz_nez (tgt := 9) hx hb dX12_row_4 (by decide) (by unfold rg2; omega) (fun q9 => absurd q9 (by decide)) (fun _ => ?_)
    refine lv_iconst (v := kz (-1)) hx hb dX12_row_7 rfl ?_
    exact W.iret (v := kz (-1)) hx hb hr (fun t9 ht hW => ⟨⟨kz (-1), (zi, zl), rfl, ⟨hz, rfl⟩, va_K.moved hW.alike hK, by rw [ht]; exact ⟨hI, hO⟩⟩, hS.F ht⟩) hS.2.2 dX12_row_8
set_option maxHeartbeats 4000000 in
set_option maxRecDepth 100000 in
/-- X12_meets -/
theorem m_meets (l : Launch) (dC : Nat → ClassId) (dI : Nat → Nat → Nat) (ca : Nat → ClassId) (A : Nat → Prop) (X : kGh) (o : Nat) (am : Nat → Nat) (zi : Nat → Int) (zl : Nat → Int64) (hM : mS X A o am) (hz : mZ X am zi) (a1 : Int) (b1 : Int) (may : Int) (a1r : -2147483648 ≤ a1 ∧ a1 ≤ 2147483647) (b1r : -2147483648 ≤ b1 ∧ b1 ≤ 2147483647) (mayr : -2147483648 ≤ may ∧ may ≤ 2147483647) : Met l yX12_meets wsX12_meets ({ frames := 2, cells := 0, slots := 0, locals := 42 }) (va_Pc [.ref o, .int (kz a1), .int (kz b1), .int (kz may)] (fun U => va_K (dC, dI) vwCl (k_tys ca) U ∧ mI (dC, dI) ca A X o am zi zl U.heap)) (va_Qi (fun (r : Int32) (u : (Nat → Int) × (Nat → Int64)) => mZ X am u.1 ∧ u.1 20 = zi 20) (fun u U => va_K (dC, dI) vwCl (k_tys ca) U ∧ mI (dC, dI) ca A X o am u.1 u.2 U.heap) A) 0 0 A := by
  refine Met.ofW (cc := cX12_meets) (maxL := 4) (ret := (some .boolean)) (by decide) rfl ?_
  intro p e s m args below meth c s₁ B hml hv
  obtain ⟨rfl, hK, hI, hO⟩ := hv
  have hx := B.exec
  have hb := B.bytes
  have hr := B.returns
  have hts := atoms_spec (ws := wsX12_meets) B.pre
  have hown : s.vm.findClass RX12 = some m.cls := findClass_of_methodNamed B.named
  have hin : ∀ w ∈ u_ws RX12 TX12 49, w ∈ wsX12_meets := by decide +kernel
  have hL54 := hts (.fieldLink RX12 54 "JoinBenchModel" "mayNot" "[Z") (by decide +kernel)
  have g17 : X.1 (am 17) = (117, 22, 36, 0, 0) := hM.1 17 _ rfl (by decide)
  obtain ⟨⟨z1a, z1b⟩, ⟨z2a, z2b⟩, ⟨z9a, z9b⟩, ⟨z20a, z20b⟩, ⟨z21a, z21b⟩, ⟨z22a, z22b⟩, ⟨z26a, z26b⟩, ⟨z28a, z28b⟩, ⟨z34a, z34b⟩, ⟨z35a, z35b⟩, ⟨z38a, z38b⟩, ⟨z39a, z39b⟩, ⟨z46a, z46b⟩, hzA, hzB⟩ := id hz
  obtain ⟨H, hH⟩ : ∃ H : Heap, H = s.heap := ⟨_, rfl⟩
  have hS : va_S A s.heap H [] := by rw [hH]; exact va_S.rf
  rw [← hH] at hI hO ⊢
  clear hH
  have hl := lv_entry ([.ref o, .int (kz a1), .int (kz b1), .int (kz may)]) (n := 4) (Nat.le_of_ble_eq_true rfl)
  rw [lg_entry_eq]
  generalize (lg_sl ([.ref o, .int (kz a1), .int (kz b1), .int (kz may)]) ++ List.replicate (4 - (lg_sl ([.ref o, .int (kz a1), .int (kz b1), .int (kz may)])).length) Slot.unset).toArray = ls at hl ⊢
  have hl : lv_has ls 4 [(0, .ref o), (1, .int (kz a1)), (2, .int (kz b1)), (3, .int (kz may))] := hl
  refine lv_iload_n hx hb dX12_meets_0 rfl (lv_at hl 1 rfl) ?_
  refine vp_callSi (va_Run.run (va_runS (As := [.int (kz a1)]) (rest := []) ⟨hx, hb, hml, hown, hts⟩ (m_isKind l a1 (by omega)) (va_cwS 1 hts gX12_meets_X12_isKind rfl rfl rfl (by decide +kernel) ⟨Nat.le_of_ble_eq_true rfl, Nat.le_of_ble_eq_true rfl⟩) ⟨fun a U g mk q => q, fun U hU hW => ⟨rfl, trivial⟩⟩ rfl rfl hl.1 rfl (lv_room (Nat.le_of_ble_eq_true rfl)) dX12_meets_1 ⟨Nat.le_of_ble_eq_true rfl, Nat.le_of_ble_eq_true rfl⟩)) (fun r_2 hw_1 => ?_)
  rcases hw_1 with ⟨rfl, hw_1⟩ | ⟨rfl, hw_1⟩
  · refine iz_eqz (tgt := 29) hx hb dX12_meets_4 (by decide) (by unfold rg2; omega) (fun q9 => absurd q9 (by decide)) (fun _ => ?_)
    refine lv_iload_n hx hb dX12_meets_7 rfl (lv_at hl 2 rfl) ?_
    refine vp_callSi (va_Run.run (va_runS (As := [.int (kz b1)]) (rest := []) ⟨hx, hb, hml, hown, hts⟩ (m_isKind l b1 (by omega)) (va_cwS 1 hts gX12_meets_X12_isKind rfl rfl rfl (by decide +kernel) ⟨Nat.le_of_ble_eq_true rfl, Nat.le_of_ble_eq_true rfl⟩) ⟨fun a U g mk q => q, fun U hU hW => ⟨rfl, trivial⟩⟩ rfl rfl hl.1 rfl (lv_room (Nat.le_of_ble_eq_true rfl)) dX12_meets_8 ⟨Nat.le_of_ble_eq_true rfl, Nat.le_of_ble_eq_true rfl⟩)) (fun r_4 hw_3 => ?_)
    rcases hw_3 with ⟨rfl, hw_3⟩ | ⟨rfl, hw_3⟩
    · refine iz_eqz (tgt := 29) hx hb dX12_meets_11 (by decide) (by unfold rg2; omega) (fun q9 => absurd q9 (by decide)) (fun _ => ?_)
      refine lv_aload_n hx hb dX12_meets_14 rfl (lv_at hl 0 rfl) ?_
      refine iz_get (D := (dC, dI)) (ci := 12) (v := .ref (am 17)) (C := RX12) (T := TX12) (N := 49) hx hb hts hin hown hK hO rfl 17 (by decide) hL54 (fun _ h9 => h9) rfl dX12_meets_15 ?_
      refine lv_bipush (v := kz 6) hx hb dX12_meets_18 (by decide) ?_
      refine lv_iload_n hx hb dX12_meets_20 rfl (lv_at hl 1 rfl) ?_
      refine iz_imul hx hb dX12_meets_21 ?_
      refine lv_iload_n hx hb dX12_meets_22 rfl (lv_at hl 2 rfl) ?_
      refine iz_iadd hx hb dX12_meets_23 ?_
      obtain ⟨f17_5, c_f17_5⟩ := iv_o22 hI g17
      refine iz_zald hx hb hK 2 c_f17_5 rfl (by omega) (by decide) dX12_meets_24 ?_
      have v_6a := kz_lo (f17_5 (Int.toNat ((6 * a1) + b1)))
      have v_6b := kz_hi (f17_5 (Int.toNat ((6 * a1) + b1)))
      change _ ≤ ge1 f17_5 ((6 * a1) + b1) at v_6a
      change ge1 f17_5 ((6 * a1) + b1) ≤ _ at v_6b
      obtain ⟨v_6, ev_6⟩ : ∃ z9 : Int, ge1 f17_5 ((6 * a1) + b1) = z9 := ⟨_, rfl⟩
      rw [ev_6] at v_6a v_6b ⊢
      refine lv_iload_n hx hb dX12_meets_25 rfl (lv_at hl 3 rfl) ?_
      refine iz_eq (tgt := 31) hx hb dX12_meets_26 (by decide) (by unfold rg2; omega) (fun br_7 => ?_) (fun br_7 => ?_)
      · refine lv_aload_n hx hb dX12_meets_31 rfl (lv_at hl 0 rfl) ?_
        refine iz_get (D := (dC, dI)) (ci := 12) (v := .ref (am 17)) (C := RX12) (T := TX12) (N := 49) hx hb hts hin hown hK hO rfl 17 (by decide) hL54 (fun _ h9 => h9) rfl dX12_meets_32 ?_
        refine lv_bipush (v := kz 6) hx hb dX12_meets_35 (by decide) ?_
        refine lv_iload_n hx hb dX12_meets_37 rfl (lv_at hl 1 rfl) ?_
        refine iz_imul hx hb dX12_meets_38 ?_
        refine lv_iload_n hx hb dX12_meets_39 rfl (lv_at hl 2 rfl) ?_
        refine iz_iadd hx hb dX12_meets_40 ?_
        refine lv_iload_n hx hb dX12_meets_41 rfl (lv_at hl 3 rfl) ?_
        refine iz_nez (tgt := 49) hx hb dX12_meets_42 (by decide) (by unfold rg2; omega) (fun br_8 => ?_) (fun br_8 => ?_)
        · refine lv_iconst (v := kz 0) hx hb dX12_meets_49 rfl ?_
          refine iz_zast hx hb hK 2 c_f17_5 hS (iv_A hI g17 (by decide)) rfl (by omega) (by decide) dX12_meets_50 (fun H locs c9 oq hS => ?_)
          have hI := iv_s22 hI g17 c9 oq
          have hO := hO.kept (oq _ (iv_ne0 g17 hM.2.1 (by decide)).symm)
          clear oq c9
          refine lv_iconst (v := kz 1) hx hb dX12_meets_51 rfl ?_
          exact W.zret (v := kz 1) hx hb hr (by decide) (fun t9 ht hW => ⟨⟨kz 1, (zi, zl), rfl, ⟨hz, rfl⟩, va_K.moved hW.alike hK, by rw [ht]; exact ⟨hI, hO⟩⟩, hS.F ht⟩) hS.2.2 dX12_meets_52
        · refine lv_iconst (v := kz 1) hx hb dX12_meets_45 rfl ?_
          refine lv_goto (tgt := 50) hx hb dX12_meets_46 (by decide) ?_
          refine iz_zast hx hb hK 2 c_f17_5 hS (iv_A hI g17 (by decide)) rfl (by omega) (by decide) dX12_meets_50 (fun H locs c9 oq hS => ?_)
          have hI := iv_s22 hI g17 c9 oq
          have hO := hO.kept (oq _ (iv_ne0 g17 hM.2.1 (by decide)).symm)
          clear oq c9
          refine lv_iconst (v := kz 1) hx hb dX12_meets_51 rfl ?_
          exact W.zret (v := kz 1) hx hb hr (by decide) (fun t9 ht hW => ⟨⟨kz 1, (zi, zl), rfl, ⟨hz, rfl⟩, va_K.moved hW.alike hK, by rw [ht]; exact ⟨hI, hO⟩⟩, hS.F ht⟩) hS.2.2 dX12_meets_52
      · refine lv_iconst (v := kz 0) hx hb dX12_meets_29 rfl ?_
        exact W.zret (v := kz 0) hx hb hr (by decide) (fun t9 ht hW => ⟨⟨kz 0, (zi, zl), rfl, ⟨hz, rfl⟩, va_K.moved hW.alike hK, by rw [ht]; exact ⟨hI, hO⟩⟩, hS.F ht⟩) hS.2.2 dX12_meets_30
    · refine iz_eqz (tgt := 29) hx hb dX12_meets_11 (by decide) (by unfold rg2; omega) (fun _ => ?_) (fun q9 => absurd q9 (by decide))
      refine lv_iconst (v := kz 0) hx hb dX12_meets_29 rfl ?_
      exact W.zret (v := kz 0) hx hb hr (by decide) (fun t9 ht hW => ⟨⟨kz 0, (zi, zl), rfl, ⟨hz, rfl⟩, va_K.moved hW.alike hK, by rw [ht]; exact ⟨hI, hO⟩⟩, hS.F ht⟩) hS.2.2 dX12_meets_30
  · refine iz_eqz (tgt := 29) hx hb dX12_meets_4 (by decide) (by unfold rg2; omega) (fun _ => ?_) (fun q9 => absurd q9 (by decide))
    refine lv_iconst (v := kz 0) hx hb dX12_meets_29 rfl ?_
    exact W.zret (v := kz 0) hx hb hr (by decide) (fun t9 ht hW => ⟨⟨kz 0, (zi, zl), rfl, ⟨hz, rfl⟩, va_K.moved hW.alike hK, by rw [ht]; exact ⟨hI, hO⟩⟩, hS.F ht⟩) hS.2.2 dX12_meets_30
set_option maxHeartbeats 4000000 in
set_option maxRecDepth 100000 in
/-- X12_becomes -/
theorem m_becomes (l : Launch) (dC : Nat → ClassId) (dI : Nat → Nat → Nat) (ca : Nat → ClassId) (A : Nat → Prop) (X : kGh) (o : Nat) (am : Nat → Nat) (zi : Nat → Int) (zl : Nat → Int64) (hM : mS X A o am) (hz : mZ X am zi) (a1 : Int) (b1 : Int) (k : Int) (a1r : -2147483648 ≤ a1 ∧ a1 ≤ 2147483647) (b1r : -2147483648 ≤ b1 ∧ b1 ≤ 2147483647) (kr : -2147483648 ≤ k ∧ k ≤ 2147483647) : Met l yX12_becomes wsX12_becomes ({ frames := 2, cells := 0, slots := 0, locals := 42 }) (va_Pc [.ref o, .int (kz a1), .int (kz b1), .int (kz k)] (fun U => va_K (dC, dI) vwCl (k_tys ca) U ∧ mI (dC, dI) ca A X o am zi zl U.heap)) (va_Qi (fun (r : Int32) (u : (Nat → Int) × (Nat → Int64)) => mZ X am u.1 ∧ u.1 20 = zi 20) (fun u U => va_K (dC, dI) vwCl (k_tys ca) U ∧ mI (dC, dI) ca A X o am u.1 u.2 U.heap) A) 0 0 A := by
  refine Met.ofW (cc := cX12_becomes) (maxL := 5) (ret := (some .int)) (by decide) rfl ?_
  intro p e s m args below meth c s₁ B hml hv
  obtain ⟨rfl, hK, hI, hO⟩ := hv
  have hx := B.exec
  have hb := B.bytes
  have hr := B.returns
  have hts := atoms_spec (ws := wsX12_becomes) B.pre
  have hown : s.vm.findClass RX12 = some m.cls := findClass_of_methodNamed B.named
  have hin : ∀ w ∈ u_ws RX12 TX12 49, w ∈ wsX12_becomes := by decide +kernel
  have hL57 := hts (.fieldLink RX12 57 "JoinBenchModel" "tree" "[I") (by decide +kernel)
  have g18 : X.1 (am 18) = (118, 20, 36, -1, 5) := hM.1 18 _ rfl (by decide)
  have w18 : X.2 (am 18) = 0 := hM.2.2.2 18 _ rfl (by decide) (by decide) (by decide)
  obtain ⟨⟨z1a, z1b⟩, ⟨z2a, z2b⟩, ⟨z9a, z9b⟩, ⟨z20a, z20b⟩, ⟨z21a, z21b⟩, ⟨z22a, z22b⟩, ⟨z26a, z26b⟩, ⟨z28a, z28b⟩, ⟨z34a, z34b⟩, ⟨z35a, z35b⟩, ⟨z38a, z38b⟩, ⟨z39a, z39b⟩, ⟨z46a, z46b⟩, hzA, hzB⟩ := id hz
  obtain ⟨H, hH⟩ : ∃ H : Heap, H = s.heap := ⟨_, rfl⟩
  have hS : va_S A s.heap H [] := by rw [hH]; exact va_S.rf
  rw [← hH] at hI hO ⊢
  clear hH
  have hl := lv_entry ([.ref o, .int (kz a1), .int (kz b1), .int (kz k)]) (n := 5) (Nat.le_of_ble_eq_true rfl)
  rw [lg_entry_eq]
  generalize (lg_sl ([.ref o, .int (kz a1), .int (kz b1), .int (kz k)]) ++ List.replicate (5 - (lg_sl ([.ref o, .int (kz a1), .int (kz b1), .int (kz k)])).length) Slot.unset).toArray = ls at hl ⊢
  have hl : lv_has ls 5 [(0, .ref o), (1, .int (kz a1)), (2, .int (kz b1)), (3, .int (kz k))] := hl
  refine lv_iload_n hx hb dX12_becomes_0 rfl (lv_at hl 1 rfl) ?_
  refine vp_callSi (va_Run.run (va_runS (As := [.int (kz a1)]) (rest := []) ⟨hx, hb, hml, hown, hts⟩ (m_isKind l a1 (by omega)) (va_cwS 1 hts gX12_becomes_X12_isKind rfl rfl rfl (by decide +kernel) ⟨Nat.le_of_ble_eq_true rfl, Nat.le_of_ble_eq_true rfl⟩) ⟨fun a U g mk q => q, fun U hU hW => ⟨rfl, trivial⟩⟩ rfl rfl hl.1 rfl (lv_room (Nat.le_of_ble_eq_true rfl)) dX12_becomes_1 ⟨Nat.le_of_ble_eq_true rfl, Nat.le_of_ble_eq_true rfl⟩)) (fun r_2 hw_1 => ?_)
  rcases hw_1 with ⟨rfl, hw_1⟩ | ⟨rfl, hw_1⟩
  · refine iz_eqz (tgt := 23) hx hb dX12_becomes_4 (by decide) (by unfold rg2; omega) (fun q9 => absurd q9 (by decide)) (fun _ => ?_)
    refine lv_iload_n hx hb dX12_becomes_7 rfl (lv_at hl 2 rfl) ?_
    refine vp_callSi (va_Run.run (va_runS (As := [.int (kz b1)]) (rest := []) ⟨hx, hb, hml, hown, hts⟩ (m_isKind l b1 (by omega)) (va_cwS 1 hts gX12_becomes_X12_isKind rfl rfl rfl (by decide +kernel) ⟨Nat.le_of_ble_eq_true rfl, Nat.le_of_ble_eq_true rfl⟩) ⟨fun a U g mk q => q, fun U hU hW => ⟨rfl, trivial⟩⟩ rfl rfl hl.1 rfl (lv_room (Nat.le_of_ble_eq_true rfl)) dX12_becomes_8 ⟨Nat.le_of_ble_eq_true rfl, Nat.le_of_ble_eq_true rfl⟩)) (fun r_4 hw_3 => ?_)
    rcases hw_3 with ⟨rfl, hw_3⟩ | ⟨rfl, hw_3⟩
    · refine iz_eqz (tgt := 23) hx hb dX12_becomes_11 (by decide) (by unfold rg2; omega) (fun q9 => absurd q9 (by decide)) (fun _ => ?_)
      refine lv_iload_n hx hb dX12_becomes_14 rfl (lv_at hl 3 rfl) ?_
      refine lv_iconst (v := kz (-1)) hx hb dX12_becomes_15 rfl ?_
      refine lv_iconst (v := kz 5) hx hb dX12_becomes_16 rfl ?_
      refine vp_callSi (va_Run.run (va_runS (As := [.int (kz k), .int (kz (-1)), .int (kz 5)]) (rest := []) ⟨hx, hb, hml, hown, hts⟩ (m_in l k (-1) 5 (by omega) (by omega) (by omega)) (va_cwS 3 hts gX12_becomes_X12_in rfl rfl rfl (by decide +kernel) ⟨Nat.le_of_ble_eq_true rfl, Nat.le_of_ble_eq_true rfl⟩) ⟨fun a U g mk q => q, fun U hU hW => ⟨rfl, trivial⟩⟩ rfl rfl hl.1 rfl (lv_room (Nat.le_of_ble_eq_true rfl)) dX12_becomes_17 ⟨Nat.le_of_ble_eq_true rfl, Nat.le_of_ble_eq_true rfl⟩)) (fun r_6 hw_5 => ?_)
      rcases hw_5 with ⟨rfl, hw_5⟩ | ⟨rfl, hw_5⟩
      · refine iz_nez (tgt := 26) hx hb dX12_becomes_20 (by decide) (by unfold rg2; omega) (fun _ => ?_) (fun q9 => absurd q9 (by decide))
        refine lv_aload_n hx hb dX12_becomes_26 rfl (lv_at hl 0 rfl) ?_
        refine iz_get (D := (dC, dI)) (ci := 12) (v := .ref (am 18)) (C := RX12) (T := TX12) (N := 49) hx hb hts hin hown hK hO rfl 18 (by decide) hL57 (fun _ h9 => h9) rfl dX12_becomes_27 ?_
        refine lv_bipush (v := kz 6) hx hb dX12_becomes_30 (by decide) ?_
        refine lv_iload_n hx hb dX12_becomes_32 rfl (lv_at hl 1 rfl) ?_
        refine iz_imul hx hb dX12_becomes_33 ?_
        refine lv_iload_n hx hb dX12_becomes_34 rfl (lv_at hl 2 rfl) ?_
        refine iz_iadd hx hb dX12_becomes_35 ?_
        obtain ⟨f18_7, c_f18_7, k_f18_7⟩ := iv_o20 hI g18
        refine iz_iald hx hb hK 0 c_f18_7 rfl (by omega) (by decide) dX12_becomes_36 ?_
        obtain ⟨v_8a, v_8b, v_8c⟩ := k_f18_7 ((6 * a1) + b1) (by omega)
        clear v_8c
        obtain ⟨v_8, ev_8⟩ : ∃ z9 : Int, ge1 f18_7 ((6 * a1) + b1) = z9 := ⟨_, rfl⟩
        rw [ev_8] at v_8a v_8b ⊢
        refine lv_istore (lv' := [(4, .int (kz v_8)), (0, .ref o), (1, .int (kz a1)), (2, .int (kz b1)), (3, .int (kz k))]) hx hb dX12_becomes_37 hl (by decide) rfl (fun ls hl => ?_)
        refine lv_aload_n hx hb dX12_becomes_39 rfl (lv_at hl 1 rfl) ?_
        refine iz_get (D := (dC, dI)) (ci := 12) (v := .ref (am 18)) (C := RX12) (T := TX12) (N := 49) hx hb hts hin hown hK hO rfl 18 (by decide) hL57 (fun _ h9 => h9) rfl dX12_becomes_40 ?_
        refine lv_bipush (v := kz 6) hx hb dX12_becomes_43 (by decide) ?_
        refine lv_iload_n hx hb dX12_becomes_45 rfl (lv_at hl 2 rfl) ?_
        refine iz_imul hx hb dX12_becomes_46 ?_
        refine lv_iload_n hx hb dX12_becomes_47 rfl (lv_at hl 3 rfl) ?_
        refine iz_iadd hx hb dX12_becomes_48 ?_
        refine lv_iload_n hx hb dX12_becomes_49 rfl (lv_at hl 4 rfl) ?_
        refine iz_iast hx hb hK 0 c_f18_7 hS (iv_A hI g18 (by decide)) rfl (by omega) (by decide) dX12_becomes_50 (fun H locs c9 oq hS => ?_)
        have hI := iv_s20 hI g18 k_f18_7 c9 oq (by omega) (by omega) (by decide) (by omega)
        have hO := hO.kept (oq _ (iv_ne0 g18 hM.2.1 (by decide)).symm)
        clear oq c9
        refine lv_iload hx hb dX12_becomes_51 (lv_at hl 0 rfl) ?_
        exact W.iret (v := kz v_8) hx hb hr (fun t9 ht hW => ⟨⟨kz v_8, (zi, zl), rfl, ⟨hz, rfl⟩, va_K.moved hW.alike hK, by rw [ht]; exact ⟨hI, hO⟩⟩, hS.F ht⟩) hS.2.2 dX12_becomes_53
      · refine iz_nez (tgt := 26) hx hb dX12_becomes_20 (by decide) (by unfold rg2; omega) (fun q9 => absurd q9 (by decide)) (fun _ => ?_)
        refine lv_bipush (v := kz (-2)) hx hb dX12_becomes_23 (by decide) ?_
        exact W.iret (v := kz (-2)) hx hb hr (fun t9 ht hW => ⟨⟨kz (-2), (zi, zl), rfl, ⟨hz, rfl⟩, va_K.moved hW.alike hK, by rw [ht]; exact ⟨hI, hO⟩⟩, hS.F ht⟩) hS.2.2 dX12_becomes_25
    · refine iz_eqz (tgt := 23) hx hb dX12_becomes_11 (by decide) (by unfold rg2; omega) (fun _ => ?_) (fun q9 => absurd q9 (by decide))
      refine lv_bipush (v := kz (-2)) hx hb dX12_becomes_23 (by decide) ?_
      exact W.iret (v := kz (-2)) hx hb hr (fun t9 ht hW => ⟨⟨kz (-2), (zi, zl), rfl, ⟨hz, rfl⟩, va_K.moved hW.alike hK, by rw [ht]; exact ⟨hI, hO⟩⟩, hS.F ht⟩) hS.2.2 dX12_becomes_25
  · refine iz_eqz (tgt := 23) hx hb dX12_becomes_4 (by decide) (by unfold rg2; omega) (fun _ => ?_) (fun q9 => absurd q9 (by decide))
    refine lv_bipush (v := kz (-2)) hx hb dX12_becomes_23 (by decide) ?_
    exact W.iret (v := kz (-2)) hx hb hr (fun t9 ht hW => ⟨⟨kz (-2), (zi, zl), rfl, ⟨hz, rfl⟩, va_K.moved hW.alike hK, by rw [ht]; exact ⟨hI, hO⟩⟩, hS.F ht⟩) hS.2.2 dX12_becomes_25
set_option maxHeartbeats 4000000 in
set_option maxRecDepth 100000 in
/-- X12_joins -/
theorem m_joins (l : Launch) (dC : Nat → ClassId) (dI : Nat → Nat → Nat) (ca : Nat → ClassId) (A : Nat → Prop) (X : kGh) (o : Nat) (am : Nat → Nat) (zi : Nat → Int) (zl : Nat → Int64) (hM : mS X A o am) (hz : mZ X am zi) (f : Int) (q : Int) (fr : -2147483648 ≤ f ∧ f ≤ 2147483647) (qr : -2147483648 ≤ q ∧ q ≤ 2147483647) : Met l yX12_joins wsX12_joins ({ frames := 3, cells := 0, slots := 0, locals := 68 }) (va_Pc [.ref o, .int (kz f), .int (kz q)] (fun U => va_K (dC, dI) vwCl (k_tys ca) U ∧ mI (dC, dI) ca A X o am zi zl U.heap)) (va_Qi (fun (r : Int32) (u : (Nat → Int) × (Nat → Int64)) => mZ X am u.1 ∧ u.1 20 = zi 20) (fun u U => va_K (dC, dI) vwCl (k_tys ca) U ∧ mI (dC, dI) ca A X o am u.1 u.2 U.heap) A) 0 0 A := by
  refine Met.ofW (cc := cX12_joins) (maxL := 4) (ret := (some .int)) (by decide) rfl ?_
  intro p e s m args below meth c s₁ B hml hv
  obtain ⟨rfl, hK, hI, hO⟩ := hv
  have hx := B.exec
  have hb := B.bytes
  have hr := B.returns
  have hts := atoms_spec (ws := wsX12_joins) B.pre
  have hown : s.vm.findClass RX12 = some m.cls := findClass_of_methodNamed B.named
  have hin : ∀ w ∈ u_ws RX12 TX12 49, w ∈ wsX12_joins := by decide +kernel
  have hL155 := hts (.fieldLink RX12 155 "JoinBenchModel" "rowMany" "I") (by decide +kernel)
  have hL67 := hts (.fieldLink RX12 67 "JoinBenchModel" "rowForm" "[I") (by decide +kernel)
  have hL158 := hts (.fieldLink RX12 158 "JoinBenchModel" "rowDay" "I") (by decide +kernel)
  have hL138 := hts (.fieldLink RX12 138 "JoinBenchModel" "rules" "I") (by decide +kernel)
  have hL36 := hts (.fieldLink RX12 36 "JoinBenchModel" "ends" "[I") (by decide +kernel)
  have hL16 := hts (.fieldLink RX12 16 "JoinBenchModel" "size" "[I") (by decide +kernel)
  have hL39 := hts (.fieldLink RX12 39 "JoinBenchModel" "begins" "[I") (by decide +kernel)
  have hL70 := hts (.fieldLink RX12 70 "JoinBenchModel" "rowRule" "[I") (by decide +kernel)
  have g23 : X.1 (am 23) = (123, 20, 40, 0, 39) := hM.1 23 _ rfl (by decide)
  have w23 : X.2 (am 23) = 0 := hM.2.2.2 23 _ rfl (by decide) (by decide) (by decide)
  have g11 : X.1 (am 11) = (111, 20, 24, 0, 3) := hM.1 11 _ rfl (by decide)
  have w11 : X.2 (am 11) = 0 := hM.2.2.2 11 _ rfl (by decide) (by decide) (by decide)
  have g4 : X.1 (am 4) = (104, 20, 40, 0, 8) := hM.1 4 _ rfl (by decide)
  have g12 : X.1 (am 12) = (112, 20, 24, 0, 3) := hM.1 12 _ rfl (by decide)
  have w12 : X.2 (am 12) = 0 := hM.2.2.2 12 _ rfl (by decide) (by decide) (by decide)
  have g24 : X.1 (am 24) = (124, 20, 40, -1, 23) := hM.1 24 _ rfl (by decide)
  have w24 : X.2 (am 24) = 0 := hM.2.2.2 24 _ rfl (by decide) (by decide) (by decide)
  obtain ⟨⟨z1a, z1b⟩, ⟨z2a, z2b⟩, ⟨z9a, z9b⟩, ⟨z20a, z20b⟩, ⟨z21a, z21b⟩, ⟨z22a, z22b⟩, ⟨z26a, z26b⟩, ⟨z28a, z28b⟩, ⟨z34a, z34b⟩, ⟨z35a, z35b⟩, ⟨z38a, z38b⟩, ⟨z39a, z39b⟩, ⟨z46a, z46b⟩, hzA, hzB⟩ := id hz
  obtain ⟨H, hH⟩ : ∃ H : Heap, H = s.heap := ⟨_, rfl⟩
  have hS : va_S A s.heap H [] := by rw [hH]; exact va_S.rf
  rw [← hH] at hI hO ⊢
  clear hH
  have hl := lv_entry ([.ref o, .int (kz f), .int (kz q)]) (n := 4) (Nat.le_of_ble_eq_true rfl)
  rw [lg_entry_eq]
  generalize (lg_sl ([.ref o, .int (kz f), .int (kz q)]) ++ List.replicate (4 - (lg_sl ([.ref o, .int (kz f), .int (kz q)])).length) Slot.unset).toArray = ls at hl ⊢
  have hl : lv_has ls 4 [(0, .ref o), (1, .int (kz f)), (2, .int (kz q))] := hl
  refine lv_aload_n hx hb dX12_joins_0 rfl (lv_at hl 0 rfl) ?_
  refine iz_get (D := (dC, dI)) (ci := 12) (v := .int (kz (zi 22))) (C := RX12) (T := TX12) (N := 49) hx hb hts hin hown hK hO rfl 22 (by decide) hL155 (fun _ h9 => h9) rfl dX12_joins_1 ?_
  refine lv_bipush (v := kz 40) hx hb dX12_joins_4 (by decide) ?_
  refine iz_eq (tgt := 17) hx hb dX12_joins_6 (by decide) (by unfold rg2; omega) (fun br_1 => ?_) (fun br_1 => ?_)
  · refine lv_iconst (v := kz (-1)) hx hb dX12_joins_17 rfl ?_
    exact W.iret (v := kz (-1)) hx hb hr (fun t9 ht hW => ⟨⟨kz (-1), (zi, zl), rfl, ⟨hz, rfl⟩, va_K.moved hW.alike hK, by rw [ht]; exact ⟨hI, hO⟩⟩, hS.F ht⟩) hS.2.2 dX12_joins_18
  · refine lv_aload_n hx hb dX12_joins_9 rfl (lv_at hl 0 rfl) ?_
    refine lv_iload_n hx hb dX12_joins_10 rfl (lv_at hl 1 rfl) ?_
    refine vp_callSi (va_Run.run (va_runV (As := [.int (kz f)]) (rest := []) ⟨hx, hb, hml, hown, hts⟩ (m_isForm l dC dI ca A X o am zi zl hM hz f (by omega)) (cwV 1 hts gX12_joins_X12_isForm rfl rfl rfl (by decide +kernel) ⟨Nat.le_of_ble_eq_true rfl, Nat.le_of_ble_eq_true rfl⟩) ⟨fun a U g mk q => by obtain ⟨q0, qK, qI⟩ := q; exact ⟨q0, va_K.moved (u := U) (U := U.calling g mk a) (Vm.Alike.refl U.vm) qK, qI⟩, va_recv hK (at_P hO) (ci := 12) (q0 := 0) rfl rfl, fun U hU hW => ⟨rfl, va_K.moved hW.alike hK, by rw [hU]; exact ⟨hI, hO⟩⟩⟩ rfl rfl hl.1 rfl (lv_room (Nat.le_of_ble_eq_true rfl)) dX12_joins_11 ⟨Nat.le_of_ble_eq_true rfl, Nat.le_of_ble_eq_true rfl⟩)) (fun r_3 hw_2 => ?_)
    rcases hw_2 with ⟨rfl, hw_2⟩ | ⟨rfl, hw_2⟩
    · refine iz_nez (tgt := 19) hx hb dX12_joins_14 (by decide) (by unfold rg2; omega) (fun _ => ?_) (fun q9 => absurd q9 (by decide))
      refine lv_aload_n hx hb dX12_joins_19 rfl (lv_at hl 0 rfl) ?_
      refine iz_get (D := (dC, dI)) (ci := 12) (v := .int (kz (zi 22))) (C := RX12) (T := TX12) (N := 49) hx hb hts hin hown hK hO rfl 22 (by decide) hL155 (fun _ h9 => h9) rfl dX12_joins_20 ?_
      refine iz_lez (tgt := 129) hx hb dX12_joins_23 (by decide) (by unfold rg2; omega) (fun br_4 => ?_) (fun br_4 => ?_)
      · refine lv_aload_n hx hb dX12_joins_129 rfl (lv_at hl 0 rfl) ?_
        refine iz_get (D := (dC, dI)) (ci := 12) (v := .ref (am 23)) (C := RX12) (T := TX12) (N := 49) hx hb hts hin hown hK hO rfl 23 (by decide) hL67 (fun _ h9 => h9) rfl dX12_joins_130 ?_
        refine lv_aload_n hx hb dX12_joins_133 rfl (lv_at hl 0 rfl) ?_
        refine iz_get (D := (dC, dI)) (ci := 12) (v := .int (kz (zi 22))) (C := RX12) (T := TX12) (N := 49) hx hb hts hin hown hK hO rfl 22 (by decide) hL155 (fun _ h9 => h9) rfl dX12_joins_134 ?_
        refine lv_iload_n hx hb dX12_joins_137 rfl (lv_at hl 1 rfl) ?_
        obtain ⟨f23_5, c_f23_5, k_f23_5⟩ := iv_o20 hI g23
        refine iz_iast hx hb hK 0 c_f23_5 hS (iv_A hI g23 (by decide)) rfl (by omega) (by decide) dX12_joins_138 (fun H locs c9 oq hS => ?_)
        have hI := iv_s20 hI g23 k_f23_5 c9 oq (by omega) (by omega) (by decide) (by omega)
        have hO := hO.kept (oq _ (iv_ne0 g23 hM.2.1 (by decide)).symm)
        clear oq c9
        refine lv_aload_n hx hb dX12_joins_139 rfl (lv_at hl 0 rfl) ?_
        refine iz_get (D := (dC, dI)) (ci := 12) (v := .ref (am 24)) (C := RX12) (T := TX12) (N := 49) hx hb hts hin hown hK hO rfl 24 (by decide) hL70 (fun _ h9 => h9) rfl dX12_joins_140 ?_
        refine lv_aload_n hx hb dX12_joins_143 rfl (lv_at hl 0 rfl) ?_
        refine iz_get (D := (dC, dI)) (ci := 12) (v := .int (kz (zi 22))) (C := RX12) (T := TX12) (N := 49) hx hb hts hin hown hK hO rfl 22 (by decide) hL155 (fun _ h9 => h9) rfl dX12_joins_144 ?_
        refine lv_aload_n hx hb dX12_joins_147 rfl (lv_at hl 0 rfl) ?_
        refine iz_get (D := (dC, dI)) (ci := 12) (v := .int (kz (zi 22))) (C := RX12) (T := TX12) (N := 49) hx hb hts hin hown hK hO rfl 22 (by decide) hL155 (fun _ h9 => h9) rfl dX12_joins_148 ?_
        refine iz_nez (tgt := 158) hx hb dX12_joins_151 (by decide) (by unfold rg2; omega) (fun br_6 => ?_) (fun br_6 => ?_)
        · refine lv_iload_n hx hb dX12_joins_158 rfl (lv_at hl 2 rfl) ?_
          obtain ⟨f24_7, c_f24_7, k_f24_7⟩ := iv_o20 hI g24
          refine iz_iast hx hb hK 0 c_f24_7 hS (iv_A hI g24 (by decide)) rfl (by omega) (by decide) dX12_joins_159 (fun H locs c9 oq hS => ?_)
          have hI := iv_s20 hI g24 k_f24_7 c9 oq (by omega) (by omega) (by decide) (by omega)
          have hO := hO.kept (oq _ (iv_ne0 g24 hM.2.1 (by decide)).symm)
          clear oq c9
          refine lv_aload_n hx hb dX12_joins_160 rfl (lv_at hl 0 rfl) ?_
          refine lv_dup hx hb dX12_joins_161 rfl ?_
          refine iz_get (D := (dC, dI)) (ci := 12) (v := .int (kz (zi 22))) (C := RX12) (T := TX12) (N := 49) hx hb hts hin hown hK hO rfl 22 (by decide) hL155 (fun _ h9 => h9) rfl dX12_joins_162 ?_
          refine lv_iconst (v := kz 1) hx hb dX12_joins_165 rfl ?_
          refine iz_iadd hx hb dX12_joins_166 ?_
          refine iz_put (D := (dC, dI)) (ci := 12) (v := .int (kz (zi 22 + 1))) (ty := .int) (C := RX12) (T := TX12) (N := 49) hx hb hts hin tyX12 tyX12_ok nmX12 hown hK hO hS hM.2.2.1 rfl 22 (by decide) hL155 (fun _ h9 => h9) rfl (by decide +kernel) rfl rfl (Nat.le_of_ble_eq_true rfl) dX12_joins_167 (fun H locs hO oq hS => ?_)
          rw [mM_22] at hO
          have hI := iv_skip hI hM.2.1 oq
          have hO : va_at (dC, dI) vwCl (o, .inr (12, mM am (fup zi 22 (zi 22 + 1)) zl)) H := hO
          clear oq
          refine lv_aload_n hx hb dX12_joins_170 rfl (lv_at hl 0 rfl) ?_
          refine iz_get (D := (dC, dI)) (ci := 12) (v := .int (kz (zi 22 + 1))) (C := RX12) (T := TX12) (N := 49) hx hb hts hin hown hK hO rfl 22 (by decide) hL155 (fun _ h9 => h9) rfl dX12_joins_171 ?_
          exact W.iret (v := kz (zi 22 + 1)) hx hb hr (fun t9 ht hW => ⟨⟨kz (zi 22 + 1), ((fup zi 22 (zi 22 + 1)), zl), rfl, ⟨⟨⟨z1a, z1b⟩, ⟨z2a, z2b⟩, ⟨z9a, z9b⟩, ⟨z20a, z20b⟩, ⟨z21a, z21b⟩, ⟨by show (0 : Int) ≤ (zi 22 + 1); omega, by show (zi 22 + 1) ≤ (40 : Int); omega⟩, ⟨z26a, z26b⟩, ⟨z28a, z28b⟩, ⟨z34a, z34b⟩, ⟨z35a, z35b⟩, ⟨z38a, z38b⟩, ⟨z39a, z39b⟩, ⟨z46a, z46b⟩, by show zi 2 ≤ (X.2 (am 4) : Int); omega, by show zi 39 ≤ (X.2 (am 41) : Int); omega⟩, rfl⟩, va_K.moved hW.alike hK, by rw [ht]; exact ⟨hI, hO⟩⟩, hS.F ht⟩) hS.2.2 dX12_joins_174
        · refine lv_iconst (v := kz (-1)) hx hb dX12_joins_154 rfl ?_
          refine lv_goto (tgt := 159) hx hb dX12_joins_155 (by decide) ?_
          obtain ⟨f24_8, c_f24_8, k_f24_8⟩ := iv_o20 hI g24
          refine iz_iast hx hb hK 0 c_f24_8 hS (iv_A hI g24 (by decide)) rfl (by omega) (by decide) dX12_joins_159 (fun H locs c9 oq hS => ?_)
          have hI := iv_s20 hI g24 k_f24_8 c9 oq (by omega) (by omega) (by decide) (by omega)
          have hO := hO.kept (oq _ (iv_ne0 g24 hM.2.1 (by decide)).symm)
          clear oq c9
          refine lv_aload_n hx hb dX12_joins_160 rfl (lv_at hl 0 rfl) ?_
          refine lv_dup hx hb dX12_joins_161 rfl ?_
          refine iz_get (D := (dC, dI)) (ci := 12) (v := .int (kz (zi 22))) (C := RX12) (T := TX12) (N := 49) hx hb hts hin hown hK hO rfl 22 (by decide) hL155 (fun _ h9 => h9) rfl dX12_joins_162 ?_
          refine lv_iconst (v := kz 1) hx hb dX12_joins_165 rfl ?_
          refine iz_iadd hx hb dX12_joins_166 ?_
          refine iz_put (D := (dC, dI)) (ci := 12) (v := .int (kz (zi 22 + 1))) (ty := .int) (C := RX12) (T := TX12) (N := 49) hx hb hts hin tyX12 tyX12_ok nmX12 hown hK hO hS hM.2.2.1 rfl 22 (by decide) hL155 (fun _ h9 => h9) rfl (by decide +kernel) rfl rfl (Nat.le_of_ble_eq_true rfl) dX12_joins_167 (fun H locs hO oq hS => ?_)
          rw [mM_22] at hO
          have hI := iv_skip hI hM.2.1 oq
          have hO : va_at (dC, dI) vwCl (o, .inr (12, mM am (fup zi 22 (zi 22 + 1)) zl)) H := hO
          clear oq
          refine lv_aload_n hx hb dX12_joins_170 rfl (lv_at hl 0 rfl) ?_
          refine iz_get (D := (dC, dI)) (ci := 12) (v := .int (kz (zi 22 + 1))) (C := RX12) (T := TX12) (N := 49) hx hb hts hin hown hK hO rfl 22 (by decide) hL155 (fun _ h9 => h9) rfl dX12_joins_171 ?_
          exact W.iret (v := kz (zi 22 + 1)) hx hb hr (fun t9 ht hW => ⟨⟨kz (zi 22 + 1), ((fup zi 22 (zi 22 + 1)), zl), rfl, ⟨⟨⟨z1a, z1b⟩, ⟨z2a, z2b⟩, ⟨z9a, z9b⟩, ⟨z20a, z20b⟩, ⟨z21a, z21b⟩, ⟨by show (0 : Int) ≤ (zi 22 + 1); omega, by show (zi 22 + 1) ≤ (40 : Int); omega⟩, ⟨z26a, z26b⟩, ⟨z28a, z28b⟩, ⟨z34a, z34b⟩, ⟨z35a, z35b⟩, ⟨z38a, z38b⟩, ⟨z39a, z39b⟩, ⟨z46a, z46b⟩, by show zi 2 ≤ (X.2 (am 4) : Int); omega, by show zi 39 ≤ (X.2 (am 41) : Int); omega⟩, rfl⟩, va_K.moved hW.alike hK, by rw [ht]; exact ⟨hI, hO⟩⟩, hS.F ht⟩) hS.2.2 dX12_joins_174
      · refine lv_aload_n hx hb dX12_joins_26 rfl (lv_at hl 0 rfl) ?_
        refine iz_get (D := (dC, dI)) (ci := 12) (v := .ref (am 23)) (C := RX12) (T := TX12) (N := 49) hx hb hts hin hown hK hO rfl 23 (by decide) hL67 (fun _ h9 => h9) rfl dX12_joins_27 ?_
        refine lv_aload_n hx hb dX12_joins_30 rfl (lv_at hl 0 rfl) ?_
        refine iz_get (D := (dC, dI)) (ci := 12) (v := .int (kz (zi 22))) (C := RX12) (T := TX12) (N := 49) hx hb hts hin hown hK hO rfl 22 (by decide) hL155 (fun _ h9 => h9) rfl dX12_joins_31 ?_
        refine lv_iconst (v := kz 1) hx hb dX12_joins_34 rfl ?_
        refine iz_isub hx hb dX12_joins_35 ?_
        obtain ⟨f23_9, c_f23_9, k_f23_9⟩ := iv_o20 hI g23
        refine iz_iald hx hb hK 0 c_f23_9 rfl (by omega) (by decide) dX12_joins_36 ?_
        obtain ⟨v_10a, v_10b, v_10c⟩ := k_f23_9 (zi 22 - 1) (by omega)
        clear v_10c
        obtain ⟨v_10, ev_10⟩ : ∃ z9 : Int, ge1 f23_9 (zi 22 - 1) = z9 := ⟨_, rfl⟩
        rw [ev_10] at v_10a v_10b ⊢
        refine lv_istore_n (lv' := [(3, .int (kz v_10)), (0, .ref o), (1, .int (kz f)), (2, .int (kz q))]) hx hb dX12_joins_37 rfl hl (by decide) rfl (fun ls hl => ?_)
        refine lv_iload_n hx hb dX12_joins_38 rfl (lv_at hl 3 rfl) ?_
        refine lv_iconst (v := kz (-1)) hx hb dX12_joins_39 rfl ?_
        refine iz_ne (tgt := 58) hx hb dX12_joins_40 (by decide) (by unfold rg2; omega) (fun br_11 => ?_) (fun br_11 => ?_)
        · refine lv_iload_n hx hb dX12_joins_58 rfl (lv_at hl 3 rfl) ?_
          refine lv_iconst (v := kz 0) hx hb dX12_joins_59 rfl ?_
          refine lv_aload_n hx hb dX12_joins_60 rfl (lv_at hl 1 rfl) ?_
          refine iz_get (D := (dC, dI)) (ci := 12) (v := .int (kz (zi 9))) (C := RX12) (T := TX12) (N := 49) hx hb hts hin hown hK hO rfl 9 (by decide) hL138 (fun _ h9 => h9) rfl dX12_joins_61 ?_
          refine lv_iconst (v := kz 1) hx hb dX12_joins_64 rfl ?_
          refine iz_isub hx hb dX12_joins_65 ?_
          refine vp_callSi (va_Run.run (va_runS (As := [.int (kz q), .int (kz 0), .int (kz (zi 9 - 1))]) (rest := []) ⟨hx, hb, hml, hown, hts⟩ (m_in l q 0 (zi 9 - 1) (by omega) (by omega) (by omega)) (va_cwS 3 hts gX12_joins_X12_in rfl rfl rfl (by decide +kernel) ⟨Nat.le_of_ble_eq_true rfl, Nat.le_of_ble_eq_true rfl⟩) ⟨fun a U g mk q => q, fun U hU hW => ⟨rfl, trivial⟩⟩ rfl rfl hl.1 rfl (lv_room (Nat.le_of_ble_eq_true rfl)) dX12_joins_66 ⟨Nat.le_of_ble_eq_true rfl, Nat.le_of_ble_eq_true rfl⟩)) (fun r_13 hw_12 => ?_)
          rcases hw_12 with ⟨rfl, hw_12⟩ | ⟨rfl, hw_12⟩
          · refine iz_eqz (tgt := 127) hx hb dX12_joins_69 (by decide) (by unfold rg2; omega) (fun q9 => absurd q9 (by decide)) (fun _ => ?_)
            refine lv_aload_n hx hb dX12_joins_72 rfl (lv_at hl 1 rfl) ?_
            refine lv_iload_n hx hb dX12_joins_73 rfl (lv_at hl 3 rfl) ?_
            refine lv_iload_n hx hb dX12_joins_74 rfl (lv_at hl 0 rfl) ?_
            refine lv_iload_n hx hb dX12_joins_75 rfl (lv_at hl 2 rfl) ?_
            refine lv_aload_n hx hb dX12_joins_76 rfl (lv_at hl 1 rfl) ?_
            refine iz_get (D := (dC, dI)) (ci := 12) (v := .int (kz (zi 21))) (C := RX12) (T := TX12) (N := 49) hx hb hts hin hown hK hO rfl 21 (by decide) hL158 (fun _ h9 => h9) rfl dX12_joins_77 ?_
            refine vp_callSi (va_Run.run (va_runV (As := [.int (kz q), .int (kz v_10), .int (kz f), .int (kz (zi 21))]) (rest := []) ⟨hx, hb, hml, hown, hts⟩ (m_fitsTwo l dC dI ca A X o am zi zl hM hz q v_10 f (zi 21) (by omega) (by omega) (by omega) (by omega)) (cwV 4 hts gX12_joins_X12_fitsTwo rfl rfl rfl (by decide +kernel) ⟨Nat.le_of_ble_eq_true rfl, Nat.le_of_ble_eq_true rfl⟩) ⟨fun a U g mk q => by obtain ⟨q0, qK, qI⟩ := q; exact ⟨q0, va_K.moved (u := U) (U := U.calling g mk a) (Vm.Alike.refl U.vm) qK, qI⟩, va_recv hK (at_P hO) (ci := 12) (q0 := 0) rfl rfl, fun U hU hW => ⟨rfl, va_K.moved hW.alike hK, by rw [hU]; exact ⟨hI, hO⟩⟩⟩ rfl rfl hl.1 rfl (lv_room (Nat.le_of_ble_eq_true rfl)) dX12_joins_80 ⟨Nat.le_of_ble_eq_true rfl, Nat.le_of_ble_eq_true rfl⟩)) (fun r_15 hw_14 => ?_)
            rcases hw_14 with rfl | rfl
            · refine iz_eqz (tgt := 127) hx hb dX12_joins_83 (by decide) (by unfold rg2; omega) (fun q9 => absurd q9 (by decide)) (fun _ => ?_)
              refine lv_aload_n hx hb dX12_joins_86 rfl (lv_at hl 1 rfl) ?_
              refine lv_aload_n hx hb dX12_joins_87 rfl (lv_at hl 1 rfl) ?_
              refine iz_get (D := (dC, dI)) (ci := 12) (v := .int (kz (zi 22))) (C := RX12) (T := TX12) (N := 49) hx hb hts hin hown hK hO rfl 22 (by decide) hL155 (fun _ h9 => h9) rfl dX12_joins_88 ?_
              refine lv_iconst (v := kz 1) hx hb dX12_joins_91 rfl ?_
              refine iz_isub hx hb dX12_joins_92 ?_
              refine vp_callSi (va_Run.run (va_runV (As := [.int (kz (zi 22 - 1))]) (rest := []) ⟨hx, hb, hml, hown, hts⟩ (m_cutOf l dC dI ca A X o am zi zl hM hz (zi 22 - 1) (by omega)) (cwV 1 hts gX12_joins_X12_cutOf rfl rfl rfl (by decide +kernel) ⟨Nat.le_of_ble_eq_true rfl, Nat.le_of_ble_eq_true rfl⟩) ⟨fun a U g mk q => by obtain ⟨q0, qK, qI⟩ := q; exact ⟨q0, va_K.moved (u := U) (U := U.calling g mk a) (Vm.Alike.refl U.vm) qK, qI⟩, va_recv hK (at_P hO) (ci := 12) (q0 := 0) rfl rfl, fun U hU hW => ⟨rfl, va_K.moved hW.alike hK, by rw [hU]; exact ⟨hI, hO⟩⟩⟩ rfl rfl hl.1 rfl (lv_room (Nat.le_of_ble_eq_true rfl)) dX12_joins_93 ⟨Nat.le_of_ble_eq_true rfl, Nat.le_of_ble_eq_true rfl⟩)) (fun r_17 hw_16 => ?_)
              obtain ⟨z_18, rfl, z_18h⟩ := hw_16
              refine lv_aload_n hx hb dX12_joins_96 rfl (lv_at hl 1 rfl) ?_
              refine iz_get (D := (dC, dI)) (ci := 12) (v := .ref (am 11)) (C := RX12) (T := TX12) (N := 49) hx hb hts hin hown hK hO rfl 11 (by decide) hL36 (fun _ h9 => h9) rfl dX12_joins_97 ?_
              refine lv_iload_n hx hb dX12_joins_100 rfl (lv_at hl 3 rfl) ?_
              obtain ⟨f11_19, c_f11_19, k_f11_19⟩ := iv_o20 hI g11
              refine iz_iald hx hb hK 0 c_f11_19 rfl (by omega) (by decide) dX12_joins_101 ?_
              obtain ⟨v_20a, v_20b, v_20c⟩ := k_f11_19 q (by omega)
              clear v_20c
              obtain ⟨v_20, ev_20⟩ : ∃ z9 : Int, ge1 f11_19 q = z9 := ⟨_, rfl⟩
              rw [ev_20] at v_20a v_20b ⊢
              refine iz_iadd hx hb dX12_joins_102 ?_
              refine lv_aload_n hx hb dX12_joins_103 rfl (lv_at hl 1 rfl) ?_
              refine iz_get (D := (dC, dI)) (ci := 12) (v := .ref (am 4)) (C := RX12) (T := TX12) (N := 49) hx hb hts hin hown hK hO rfl 4 (by decide) hL16 (fun _ h9 => h9) rfl dX12_joins_104 ?_
              refine lv_iload_n hx hb dX12_joins_107 rfl (lv_at hl 0 rfl) ?_
              obtain ⟨f4_21, c_f4_21, k_f4_21⟩ := iv_o20 hI g4
              refine iz_iald hx hb hK 0 c_f4_21 rfl (by omega) (by decide) dX12_joins_108 ?_
              obtain ⟨v_22a, v_22b, v_22c⟩ := k_f4_21 v_10 (by omega)
              obtain ⟨v_22, ev_22⟩ : ∃ z9 : Int, ge1 f4_21 v_10 = z9 := ⟨_, rfl⟩
              rw [ev_22] at v_22a v_22b v_22c ⊢
              refine iz_ge (tgt := 127) hx hb dX12_joins_109 (by decide) (by unfold rg2; omega) (fun br_23 => ?_) (fun br_23 => ?_)
              · refine lv_iconst (v := kz (-1)) hx hb dX12_joins_127 rfl ?_
                exact W.iret (v := kz (-1)) hx hb hr (fun t9 ht hW => ⟨⟨kz (-1), (zi, zl), rfl, ⟨hz, rfl⟩, va_K.moved hW.alike hK, by rw [ht]; exact ⟨hI, hO⟩⟩, hS.F ht⟩) hS.2.2 dX12_joins_128
              · refine lv_aload_n hx hb dX12_joins_112 rfl (lv_at hl 1 rfl) ?_
                refine iz_get (D := (dC, dI)) (ci := 12) (v := .ref (am 12)) (C := RX12) (T := TX12) (N := 49) hx hb hts hin hown hK hO rfl 12 (by decide) hL39 (fun _ h9 => h9) rfl dX12_joins_113 ?_
                refine lv_iload_n hx hb dX12_joins_116 rfl (lv_at hl 3 rfl) ?_
                obtain ⟨f12_24, c_f12_24, k_f12_24⟩ := iv_o20 hI g12
                refine iz_iald hx hb hK 0 c_f12_24 rfl (by omega) (by decide) dX12_joins_117 ?_
                obtain ⟨v_25a, v_25b, v_25c⟩ := k_f12_24 q (by omega)
                clear v_25c
                obtain ⟨v_25, ev_25⟩ : ∃ z9 : Int, ge1 f12_24 q = z9 := ⟨_, rfl⟩
                rw [ev_25] at v_25a v_25b ⊢
                refine lv_aload_n hx hb dX12_joins_118 rfl (lv_at hl 1 rfl) ?_
                refine iz_get (D := (dC, dI)) (ci := 12) (v := .ref (am 4)) (C := RX12) (T := TX12) (N := 49) hx hb hts hin hown hK hO rfl 4 (by decide) hL16 (fun _ h9 => h9) rfl dX12_joins_119 ?_
                refine lv_iload_n hx hb dX12_joins_122 rfl (lv_at hl 2 rfl) ?_
                refine iz_iald hx hb hK 0 c_f4_21 rfl (by omega) (by decide) dX12_joins_123 ?_
                obtain ⟨v_26a, v_26b, v_26c⟩ := k_f4_21 f (by omega)
                obtain ⟨v_26, ev_26⟩ : ∃ z9 : Int, ge1 f4_21 f = z9 := ⟨_, rfl⟩
                rw [ev_26] at v_26a v_26b v_26c ⊢
                refine iz_lt (tgt := 129) hx hb dX12_joins_124 (by decide) (by unfold rg2; omega) (fun br_27 => ?_) (fun br_27 => ?_)
                · refine lv_aload_n hx hb dX12_joins_129 rfl (lv_at hl 1 rfl) ?_
                  refine iz_get (D := (dC, dI)) (ci := 12) (v := .ref (am 23)) (C := RX12) (T := TX12) (N := 49) hx hb hts hin hown hK hO rfl 23 (by decide) hL67 (fun _ h9 => h9) rfl dX12_joins_130 ?_
                  refine lv_aload_n hx hb dX12_joins_133 rfl (lv_at hl 1 rfl) ?_
                  refine iz_get (D := (dC, dI)) (ci := 12) (v := .int (kz (zi 22))) (C := RX12) (T := TX12) (N := 49) hx hb hts hin hown hK hO rfl 22 (by decide) hL155 (fun _ h9 => h9) rfl dX12_joins_134 ?_
                  refine lv_iload_n hx hb dX12_joins_137 rfl (lv_at hl 2 rfl) ?_
                  refine iz_iast hx hb hK 0 c_f23_9 hS (iv_A hI g23 (by decide)) rfl (by omega) (by decide) dX12_joins_138 (fun H locs c9 oq hS => ?_)
                  have hI := iv_s20 hI g23 k_f23_9 c9 oq (by omega) (by omega) (by decide) (by omega)
                  have hO := hO.kept (oq _ (iv_ne0 g23 hM.2.1 (by decide)).symm)
                  have c_f11_19 := c_f11_19.kept (oq _ (iv_ne g11 g23 (by decide)))
                  have c_f4_21 := c_f4_21.kept (oq _ (iv_ne g4 g23 (by decide)))
                  have c_f12_24 := c_f12_24.kept (oq _ (iv_ne g12 g23 (by decide)))
                  clear oq c9
                  refine lv_aload_n hx hb dX12_joins_139 rfl (lv_at hl 1 rfl) ?_
                  refine iz_get (D := (dC, dI)) (ci := 12) (v := .ref (am 24)) (C := RX12) (T := TX12) (N := 49) hx hb hts hin hown hK hO rfl 24 (by decide) hL70 (fun _ h9 => h9) rfl dX12_joins_140 ?_
                  refine lv_aload_n hx hb dX12_joins_143 rfl (lv_at hl 1 rfl) ?_
                  refine iz_get (D := (dC, dI)) (ci := 12) (v := .int (kz (zi 22))) (C := RX12) (T := TX12) (N := 49) hx hb hts hin hown hK hO rfl 22 (by decide) hL155 (fun _ h9 => h9) rfl dX12_joins_144 ?_
                  refine lv_aload_n hx hb dX12_joins_147 rfl (lv_at hl 1 rfl) ?_
                  refine iz_get (D := (dC, dI)) (ci := 12) (v := .int (kz (zi 22))) (C := RX12) (T := TX12) (N := 49) hx hb hts hin hown hK hO rfl 22 (by decide) hL155 (fun _ h9 => h9) rfl dX12_joins_148 ?_
                  refine iz_nez (tgt := 158) hx hb dX12_joins_151 (by decide) (by unfold rg2; omega) (fun br_28 => ?_) (fun br_28 => ?_)
                  · refine lv_iload_n hx hb dX12_joins_158 rfl (lv_at hl 3 rfl) ?_
                    obtain ⟨f24_29, c_f24_29, k_f24_29⟩ := iv_o20 hI g24
                    refine iz_iast hx hb hK 0 c_f24_29 hS (iv_A hI g24 (by decide)) rfl (by omega) (by decide) dX12_joins_159 (fun H locs c9 oq hS => ?_)
                    have hI := iv_s20 hI g24 k_f24_29 c9 oq (by omega) (by omega) (by decide) (by omega)
                    have hO := hO.kept (oq _ (iv_ne0 g24 hM.2.1 (by decide)).symm)
                    have c_f11_19 := c_f11_19.kept (oq _ (iv_ne g11 g24 (by decide)))
                    have c_f4_21 := c_f4_21.kept (oq _ (iv_ne g4 g24 (by decide)))
                    have c_f12_24 := c_f12_24.kept (oq _ (iv_ne g12 g24 (by decide)))
                    clear oq c9
                    refine lv_aload_n hx hb dX12_joins_160 rfl (lv_at hl 1 rfl) ?_
                    refine lv_dup hx hb dX12_joins_161 rfl ?_
                    refine iz_get (D := (dC, dI)) (ci := 12) (v := .int (kz (zi 22))) (C := RX12) (T := TX12) (N := 49) hx hb hts hin hown hK hO rfl 22 (by decide) hL155 (fun _ h9 => h9) rfl dX12_joins_162 ?_
                    refine lv_iconst (v := kz 1) hx hb dX12_joins_165 rfl ?_
                    refine iz_iadd hx hb dX12_joins_166 ?_
                    refine iz_put (D := (dC, dI)) (ci := 12) (v := .int (kz (zi 22 + 1))) (ty := .int) (C := RX12) (T := TX12) (N := 49) hx hb hts hin tyX12 tyX12_ok nmX12 hown hK hO hS hM.2.2.1 rfl 22 (by decide) hL155 (fun _ h9 => h9) rfl (by decide +kernel) rfl rfl (Nat.le_of_ble_eq_true rfl) dX12_joins_167 (fun H locs hO oq hS => ?_)
                    rw [mM_22] at hO
                    have hI := iv_skip hI hM.2.1 oq
                    have c_f11_19 := c_f11_19.kept (oq _ (iv_ne0 g11 hM.2.1 (by decide)))
                    have c_f4_21 := c_f4_21.kept (oq _ (iv_ne0 g4 hM.2.1 (by decide)))
                    have c_f12_24 := c_f12_24.kept (oq _ (iv_ne0 g12 hM.2.1 (by decide)))
                    have hO : va_at (dC, dI) vwCl (o, .inr (12, mM am (fup zi 22 (zi 22 + 1)) zl)) H := hO
                    clear oq
                    refine lv_aload_n hx hb dX12_joins_170 rfl (lv_at hl 1 rfl) ?_
                    refine iz_get (D := (dC, dI)) (ci := 12) (v := .int (kz (zi 22 + 1))) (C := RX12) (T := TX12) (N := 49) hx hb hts hin hown hK hO rfl 22 (by decide) hL155 (fun _ h9 => h9) rfl dX12_joins_171 ?_
                    exact W.iret (v := kz (zi 22 + 1)) hx hb hr (fun t9 ht hW => ⟨⟨kz (zi 22 + 1), ((fup zi 22 (zi 22 + 1)), zl), rfl, ⟨⟨⟨z1a, z1b⟩, ⟨z2a, z2b⟩, ⟨z9a, z9b⟩, ⟨z20a, z20b⟩, ⟨z21a, z21b⟩, ⟨by show (0 : Int) ≤ (zi 22 + 1); omega, by show (zi 22 + 1) ≤ (40 : Int); omega⟩, ⟨z26a, z26b⟩, ⟨z28a, z28b⟩, ⟨z34a, z34b⟩, ⟨z35a, z35b⟩, ⟨z38a, z38b⟩, ⟨z39a, z39b⟩, ⟨z46a, z46b⟩, by show zi 2 ≤ (X.2 (am 4) : Int); omega, by show zi 39 ≤ (X.2 (am 41) : Int); omega⟩, rfl⟩, va_K.moved hW.alike hK, by rw [ht]; exact ⟨hI, hO⟩⟩, hS.F ht⟩) hS.2.2 dX12_joins_174
                  · refine lv_iconst (v := kz (-1)) hx hb dX12_joins_154 rfl ?_
                    refine lv_goto (tgt := 159) hx hb dX12_joins_155 (by decide) ?_
                    obtain ⟨f24_30, c_f24_30, k_f24_30⟩ := iv_o20 hI g24
                    refine iz_iast hx hb hK 0 c_f24_30 hS (iv_A hI g24 (by decide)) rfl (by omega) (by decide) dX12_joins_159 (fun H locs c9 oq hS => ?_)
                    have hI := iv_s20 hI g24 k_f24_30 c9 oq (by omega) (by omega) (by decide) (by omega)
                    have hO := hO.kept (oq _ (iv_ne0 g24 hM.2.1 (by decide)).symm)
                    have c_f11_19 := c_f11_19.kept (oq _ (iv_ne g11 g24 (by decide)))
                    have c_f4_21 := c_f4_21.kept (oq _ (iv_ne g4 g24 (by decide)))
                    have c_f12_24 := c_f12_24.kept (oq _ (iv_ne g12 g24 (by decide)))
                    clear oq c9
                    refine lv_aload_n hx hb dX12_joins_160 rfl (lv_at hl 1 rfl) ?_
                    refine lv_dup hx hb dX12_joins_161 rfl ?_
                    refine iz_get (D := (dC, dI)) (ci := 12) (v := .int (kz (zi 22))) (C := RX12) (T := TX12) (N := 49) hx hb hts hin hown hK hO rfl 22 (by decide) hL155 (fun _ h9 => h9) rfl dX12_joins_162 ?_
                    refine lv_iconst (v := kz 1) hx hb dX12_joins_165 rfl ?_
                    refine iz_iadd hx hb dX12_joins_166 ?_
                    refine iz_put (D := (dC, dI)) (ci := 12) (v := .int (kz (zi 22 + 1))) (ty := .int) (C := RX12) (T := TX12) (N := 49) hx hb hts hin tyX12 tyX12_ok nmX12 hown hK hO hS hM.2.2.1 rfl 22 (by decide) hL155 (fun _ h9 => h9) rfl (by decide +kernel) rfl rfl (Nat.le_of_ble_eq_true rfl) dX12_joins_167 (fun H locs hO oq hS => ?_)
                    rw [mM_22] at hO
                    have hI := iv_skip hI hM.2.1 oq
                    have c_f11_19 := c_f11_19.kept (oq _ (iv_ne0 g11 hM.2.1 (by decide)))
                    have c_f4_21 := c_f4_21.kept (oq _ (iv_ne0 g4 hM.2.1 (by decide)))
                    have c_f12_24 := c_f12_24.kept (oq _ (iv_ne0 g12 hM.2.1 (by decide)))
                    have hO : va_at (dC, dI) vwCl (o, .inr (12, mM am (fup zi 22 (zi 22 + 1)) zl)) H := hO
                    clear oq
                    refine lv_aload_n hx hb dX12_joins_170 rfl (lv_at hl 1 rfl) ?_
                    refine iz_get (D := (dC, dI)) (ci := 12) (v := .int (kz (zi 22 + 1))) (C := RX12) (T := TX12) (N := 49) hx hb hts hin hown hK hO rfl 22 (by decide) hL155 (fun _ h9 => h9) rfl dX12_joins_171 ?_
                    exact W.iret (v := kz (zi 22 + 1)) hx hb hr (fun t9 ht hW => ⟨⟨kz (zi 22 + 1), ((fup zi 22 (zi 22 + 1)), zl), rfl, ⟨⟨⟨z1a, z1b⟩, ⟨z2a, z2b⟩, ⟨z9a, z9b⟩, ⟨z20a, z20b⟩, ⟨z21a, z21b⟩, ⟨by show (0 : Int) ≤ (zi 22 + 1); omega, by show (zi 22 + 1) ≤ (40 : Int); omega⟩, ⟨z26a, z26b⟩, ⟨z28a, z28b⟩, ⟨z34a, z34b⟩, ⟨z35a, z35b⟩, ⟨z38a, z38b⟩, ⟨z39a, z39b⟩, ⟨z46a, z46b⟩, by show zi 2 ≤ (X.2 (am 4) : Int); omega, by show zi 39 ≤ (X.2 (am 41) : Int); omega⟩, rfl⟩, va_K.moved hW.alike hK, by rw [ht]; exact ⟨hI, hO⟩⟩, hS.F ht⟩) hS.2.2 dX12_joins_174
                · refine lv_iconst (v := kz (-1)) hx hb dX12_joins_127 rfl ?_
                  exact W.iret (v := kz (-1)) hx hb hr (fun t9 ht hW => ⟨⟨kz (-1), (zi, zl), rfl, ⟨hz, rfl⟩, va_K.moved hW.alike hK, by rw [ht]; exact ⟨hI, hO⟩⟩, hS.F ht⟩) hS.2.2 dX12_joins_128
            · refine iz_eqz (tgt := 127) hx hb dX12_joins_83 (by decide) (by unfold rg2; omega) (fun _ => ?_) (fun q9 => absurd q9 (by decide))
              refine lv_iconst (v := kz (-1)) hx hb dX12_joins_127 rfl ?_
              exact W.iret (v := kz (-1)) hx hb hr (fun t9 ht hW => ⟨⟨kz (-1), (zi, zl), rfl, ⟨hz, rfl⟩, va_K.moved hW.alike hK, by rw [ht]; exact ⟨hI, hO⟩⟩, hS.F ht⟩) hS.2.2 dX12_joins_128
          · refine iz_eqz (tgt := 127) hx hb dX12_joins_69 (by decide) (by unfold rg2; omega) (fun _ => ?_) (fun q9 => absurd q9 (by decide))
            refine lv_iconst (v := kz (-1)) hx hb dX12_joins_127 rfl ?_
            exact W.iret (v := kz (-1)) hx hb hr (fun t9 ht hW => ⟨⟨kz (-1), (zi, zl), rfl, ⟨hz, rfl⟩, va_K.moved hW.alike hK, by rw [ht]; exact ⟨hI, hO⟩⟩, hS.F ht⟩) hS.2.2 dX12_joins_128
        · refine lv_aload_n hx hb dX12_joins_43 rfl (lv_at hl 1 rfl) ?_
          refine lv_iload_n hx hb dX12_joins_44 rfl (lv_at hl 0 rfl) ?_
          refine lv_iload_n hx hb dX12_joins_45 rfl (lv_at hl 2 rfl) ?_
          refine lv_aload_n hx hb dX12_joins_46 rfl (lv_at hl 1 rfl) ?_
          refine iz_get (D := (dC, dI)) (ci := 12) (v := .int (kz (zi 21))) (C := RX12) (T := TX12) (N := 49) hx hb hts hin hown hK hO rfl 21 (by decide) hL158 (fun _ h9 => h9) rfl dX12_joins_47 ?_
          refine vp_callSi (va_Run.run (va_runV (As := [.int (kz v_10), .int (kz f), .int (kz (zi 21))]) (rest := []) ⟨hx, hb, hml, hown, hts⟩ (m_fits l dC dI ca A X o am zi zl hM hz v_10 f (zi 21) (by omega) (by omega) (by omega)) (cwV 3 hts gX12_joins_X12_fits rfl rfl rfl (by decide +kernel) ⟨Nat.le_of_ble_eq_true rfl, Nat.le_of_ble_eq_true rfl⟩) ⟨fun a U g mk q => by obtain ⟨q0, qK, qI⟩ := q; exact ⟨q0, va_K.moved (u := U) (U := U.calling g mk a) (Vm.Alike.refl U.vm) qK, qI⟩, va_recv hK (at_P hO) (ci := 12) (q0 := 0) rfl rfl, fun U hU hW => ⟨rfl, va_K.moved hW.alike hK, by rw [hU]; exact ⟨hI, hO⟩⟩⟩ rfl rfl hl.1 rfl (lv_room (Nat.le_of_ble_eq_true rfl)) dX12_joins_50 ⟨Nat.le_of_ble_eq_true rfl, Nat.le_of_ble_eq_true rfl⟩)) (fun r_32 hw_31 => ?_)
          obtain ⟨z_33, rfl, z_33h⟩ := hw_31
          refine iz_lez (tgt := 129) hx hb dX12_joins_53 (by decide) (by unfold rg2; omega) (fun br_34 => ?_) (fun br_34 => ?_)
          · refine lv_aload_n hx hb dX12_joins_129 rfl (lv_at hl 1 rfl) ?_
            refine iz_get (D := (dC, dI)) (ci := 12) (v := .ref (am 23)) (C := RX12) (T := TX12) (N := 49) hx hb hts hin hown hK hO rfl 23 (by decide) hL67 (fun _ h9 => h9) rfl dX12_joins_130 ?_
            refine lv_aload_n hx hb dX12_joins_133 rfl (lv_at hl 1 rfl) ?_
            refine iz_get (D := (dC, dI)) (ci := 12) (v := .int (kz (zi 22))) (C := RX12) (T := TX12) (N := 49) hx hb hts hin hown hK hO rfl 22 (by decide) hL155 (fun _ h9 => h9) rfl dX12_joins_134 ?_
            refine lv_iload_n hx hb dX12_joins_137 rfl (lv_at hl 2 rfl) ?_
            refine iz_iast hx hb hK 0 c_f23_9 hS (iv_A hI g23 (by decide)) rfl (by omega) (by decide) dX12_joins_138 (fun H locs c9 oq hS => ?_)
            have hI := iv_s20 hI g23 k_f23_9 c9 oq (by omega) (by omega) (by decide) (by omega)
            have hO := hO.kept (oq _ (iv_ne0 g23 hM.2.1 (by decide)).symm)
            clear oq c9
            refine lv_aload_n hx hb dX12_joins_139 rfl (lv_at hl 1 rfl) ?_
            refine iz_get (D := (dC, dI)) (ci := 12) (v := .ref (am 24)) (C := RX12) (T := TX12) (N := 49) hx hb hts hin hown hK hO rfl 24 (by decide) hL70 (fun _ h9 => h9) rfl dX12_joins_140 ?_
            refine lv_aload_n hx hb dX12_joins_143 rfl (lv_at hl 1 rfl) ?_
            refine iz_get (D := (dC, dI)) (ci := 12) (v := .int (kz (zi 22))) (C := RX12) (T := TX12) (N := 49) hx hb hts hin hown hK hO rfl 22 (by decide) hL155 (fun _ h9 => h9) rfl dX12_joins_144 ?_
            refine lv_aload_n hx hb dX12_joins_147 rfl (lv_at hl 1 rfl) ?_
            refine iz_get (D := (dC, dI)) (ci := 12) (v := .int (kz (zi 22))) (C := RX12) (T := TX12) (N := 49) hx hb hts hin hown hK hO rfl 22 (by decide) hL155 (fun _ h9 => h9) rfl dX12_joins_148 ?_
            refine iz_nez (tgt := 158) hx hb dX12_joins_151 (by decide) (by unfold rg2; omega) (fun br_35 => ?_) (fun br_35 => ?_)
            · refine lv_iload_n hx hb dX12_joins_158 rfl (lv_at hl 3 rfl) ?_
              obtain ⟨f24_36, c_f24_36, k_f24_36⟩ := iv_o20 hI g24
              refine iz_iast hx hb hK 0 c_f24_36 hS (iv_A hI g24 (by decide)) rfl (by omega) (by decide) dX12_joins_159 (fun H locs c9 oq hS => ?_)
              have hI := iv_s20 hI g24 k_f24_36 c9 oq (by omega) (by omega) (by decide) (by omega)
              have hO := hO.kept (oq _ (iv_ne0 g24 hM.2.1 (by decide)).symm)
              clear oq c9
              refine lv_aload_n hx hb dX12_joins_160 rfl (lv_at hl 1 rfl) ?_
              refine lv_dup hx hb dX12_joins_161 rfl ?_
              refine iz_get (D := (dC, dI)) (ci := 12) (v := .int (kz (zi 22))) (C := RX12) (T := TX12) (N := 49) hx hb hts hin hown hK hO rfl 22 (by decide) hL155 (fun _ h9 => h9) rfl dX12_joins_162 ?_
              refine lv_iconst (v := kz 1) hx hb dX12_joins_165 rfl ?_
              refine iz_iadd hx hb dX12_joins_166 ?_
              refine iz_put (D := (dC, dI)) (ci := 12) (v := .int (kz (zi 22 + 1))) (ty := .int) (C := RX12) (T := TX12) (N := 49) hx hb hts hin tyX12 tyX12_ok nmX12 hown hK hO hS hM.2.2.1 rfl 22 (by decide) hL155 (fun _ h9 => h9) rfl (by decide +kernel) rfl rfl (Nat.le_of_ble_eq_true rfl) dX12_joins_167 (fun H locs hO oq hS => ?_)
              rw [mM_22] at hO
              have hI := iv_skip hI hM.2.1 oq
              have hO : va_at (dC, dI) vwCl (o, .inr (12, mM am (fup zi 22 (zi 22 + 1)) zl)) H := hO
              clear oq
              refine lv_aload_n hx hb dX12_joins_170 rfl (lv_at hl 1 rfl) ?_
              refine iz_get (D := (dC, dI)) (ci := 12) (v := .int (kz (zi 22 + 1))) (C := RX12) (T := TX12) (N := 49) hx hb hts hin hown hK hO rfl 22 (by decide) hL155 (fun _ h9 => h9) rfl dX12_joins_171 ?_
              exact W.iret (v := kz (zi 22 + 1)) hx hb hr (fun t9 ht hW => ⟨⟨kz (zi 22 + 1), ((fup zi 22 (zi 22 + 1)), zl), rfl, ⟨⟨⟨z1a, z1b⟩, ⟨z2a, z2b⟩, ⟨z9a, z9b⟩, ⟨z20a, z20b⟩, ⟨z21a, z21b⟩, ⟨by show (0 : Int) ≤ (zi 22 + 1); omega, by show (zi 22 + 1) ≤ (40 : Int); omega⟩, ⟨z26a, z26b⟩, ⟨z28a, z28b⟩, ⟨z34a, z34b⟩, ⟨z35a, z35b⟩, ⟨z38a, z38b⟩, ⟨z39a, z39b⟩, ⟨z46a, z46b⟩, by show zi 2 ≤ (X.2 (am 4) : Int); omega, by show zi 39 ≤ (X.2 (am 41) : Int); omega⟩, rfl⟩, va_K.moved hW.alike hK, by rw [ht]; exact ⟨hI, hO⟩⟩, hS.F ht⟩) hS.2.2 dX12_joins_174
            · refine lv_iconst (v := kz (-1)) hx hb dX12_joins_154 rfl ?_
              refine lv_goto (tgt := 159) hx hb dX12_joins_155 (by decide) ?_
              obtain ⟨f24_37, c_f24_37, k_f24_37⟩ := iv_o20 hI g24
              refine iz_iast hx hb hK 0 c_f24_37 hS (iv_A hI g24 (by decide)) rfl (by omega) (by decide) dX12_joins_159 (fun H locs c9 oq hS => ?_)
              have hI := iv_s20 hI g24 k_f24_37 c9 oq (by omega) (by omega) (by decide) (by omega)
              have hO := hO.kept (oq _ (iv_ne0 g24 hM.2.1 (by decide)).symm)
              clear oq c9
              refine lv_aload_n hx hb dX12_joins_160 rfl (lv_at hl 1 rfl) ?_
              refine lv_dup hx hb dX12_joins_161 rfl ?_
              refine iz_get (D := (dC, dI)) (ci := 12) (v := .int (kz (zi 22))) (C := RX12) (T := TX12) (N := 49) hx hb hts hin hown hK hO rfl 22 (by decide) hL155 (fun _ h9 => h9) rfl dX12_joins_162 ?_
              refine lv_iconst (v := kz 1) hx hb dX12_joins_165 rfl ?_
              refine iz_iadd hx hb dX12_joins_166 ?_
              refine iz_put (D := (dC, dI)) (ci := 12) (v := .int (kz (zi 22 + 1))) (ty := .int) (C := RX12) (T := TX12) (N := 49) hx hb hts hin tyX12 tyX12_ok nmX12 hown hK hO hS hM.2.2.1 rfl 22 (by decide) hL155 (fun _ h9 => h9) rfl (by decide +kernel) rfl rfl (Nat.le_of_ble_eq_true rfl) dX12_joins_167 (fun H locs hO oq hS => ?_)
              rw [mM_22] at hO
              have hI := iv_skip hI hM.2.1 oq
              have hO : va_at (dC, dI) vwCl (o, .inr (12, mM am (fup zi 22 (zi 22 + 1)) zl)) H := hO
              clear oq
              refine lv_aload_n hx hb dX12_joins_170 rfl (lv_at hl 1 rfl) ?_
              refine iz_get (D := (dC, dI)) (ci := 12) (v := .int (kz (zi 22 + 1))) (C := RX12) (T := TX12) (N := 49) hx hb hts hin hown hK hO rfl 22 (by decide) hL155 (fun _ h9 => h9) rfl dX12_joins_171 ?_
              exact W.iret (v := kz (zi 22 + 1)) hx hb hr (fun t9 ht hW => ⟨⟨kz (zi 22 + 1), ((fup zi 22 (zi 22 + 1)), zl), rfl, ⟨⟨⟨z1a, z1b⟩, ⟨z2a, z2b⟩, ⟨z9a, z9b⟩, ⟨z20a, z20b⟩, ⟨z21a, z21b⟩, ⟨by show (0 : Int) ≤ (zi 22 + 1); omega, by show (zi 22 + 1) ≤ (40 : Int); omega⟩, ⟨z26a, z26b⟩, ⟨z28a, z28b⟩, ⟨z34a, z34b⟩, ⟨z35a, z35b⟩, ⟨z38a, z38b⟩, ⟨z39a, z39b⟩, ⟨z46a, z46b⟩, by show zi 2 ≤ (X.2 (am 4) : Int); omega, by show zi 39 ≤ (X.2 (am 41) : Int); omega⟩, rfl⟩, va_K.moved hW.alike hK, by rw [ht]; exact ⟨hI, hO⟩⟩, hS.F ht⟩) hS.2.2 dX12_joins_174
          · refine lv_iconst (v := kz (-1)) hx hb dX12_joins_56 rfl ?_
            exact W.iret (v := kz (-1)) hx hb hr (fun t9 ht hW => ⟨⟨kz (-1), (zi, zl), rfl, ⟨hz, rfl⟩, va_K.moved hW.alike hK, by rw [ht]; exact ⟨hI, hO⟩⟩, hS.F ht⟩) hS.2.2 dX12_joins_57
    · refine iz_nez (tgt := 19) hx hb dX12_joins_14 (by decide) (by unfold rg2; omega) (fun q9 => absurd q9 (by decide)) (fun _ => ?_)
      refine lv_iconst (v := kz (-1)) hx hb dX12_joins_17 rfl ?_
      exact W.iret (v := kz (-1)) hx hb hr (fun t9 ht hW => ⟨⟨kz (-1), (zi, zl), rfl, ⟨hz, rfl⟩, va_K.moved hW.alike hK, by rw [ht]; exact ⟨hI, hO⟩⟩, hS.F ht⟩) hS.2.2 dX12_joins_18
set_option maxHeartbeats 4000000 in
set_option maxRecDepth 100000 in
/-- X12_puts -/
theorem m_puts (l : Launch) (dC : Nat → ClassId) (dI : Nat → Nat → Nat) (ca : Nat → ClassId) (A : Nat → Prop) (X : kGh) (o : Nat) (am : Nat → Nat) (zi : Nat → Int) (zl : Nat → Int64) (hM : mS X A o am) (hz : mZ X am zi) (c1 : Int) (h1 : zi 26 ≤ 479) : Met l yX12_puts wsX12_puts ({ frames := 0, cells := 0, slots := 0, locals := 0 }) (va_Pc [.ref o, .int (kz c1)] (fun U => va_K (dC, dI) vwCl (k_tys ca) U ∧ mI (dC, dI) ca A X o am zi zl U.heap)) (va_Qv (fun (u : (Nat → Int) × (Nat → Int64)) => ∃ t : Int, t = zi 26 + 1 ∧ u.1 = fup zi 26 t ∧ u.2 = zl) (fun u U => va_K (dC, dI) vwCl (k_tys ca) U ∧ mI (dC, dI) ca A X o am u.1 u.2 U.heap) A) 0 0 A := by
  refine Met.ofW (cc := cX12_puts) (maxL := 2) (ret := none) (by decide) rfl ?_
  intro p e s m args below meth c s₁ B hml hv
  obtain ⟨rfl, hK, hI, hO⟩ := hv
  have hx := B.exec
  have hb := B.bytes
  have hr := B.returns
  have hts := atoms_spec (ws := wsX12_puts) B.pre
  have hown : s.vm.findClass RX12 = some m.cls := findClass_of_methodNamed B.named
  have hin : ∀ w ∈ u_ws RX12 TX12 49, w ∈ wsX12_puts := by decide +kernel
  have hL73 := hts (.fieldLink RX12 73 "JoinBenchModel" "out" "[B") (by decide +kernel)
  have hL169 := hts (.fieldLink RX12 169 "JoinBenchModel" "outMany" "I") (by decide +kernel)
  have g25 : X.1 (am 25) = (125, 21, 480, 0, 0) := hM.1 25 _ rfl (by decide)
  obtain ⟨⟨z1a, z1b⟩, ⟨z2a, z2b⟩, ⟨z9a, z9b⟩, ⟨z20a, z20b⟩, ⟨z21a, z21b⟩, ⟨z22a, z22b⟩, ⟨z26a, z26b⟩, ⟨z28a, z28b⟩, ⟨z34a, z34b⟩, ⟨z35a, z35b⟩, ⟨z38a, z38b⟩, ⟨z39a, z39b⟩, ⟨z46a, z46b⟩, hzA, hzB⟩ := id hz
  obtain ⟨H, hH⟩ : ∃ H : Heap, H = s.heap := ⟨_, rfl⟩
  have hS : va_S A s.heap H [] := by rw [hH]; exact va_S.rf
  rw [← hH] at hI hO ⊢
  clear hH
  have hl := lv_entry ([.ref o, .int (kz c1)]) (n := 2) (Nat.le_of_ble_eq_true rfl)
  rw [lg_entry_eq]
  generalize (lg_sl ([.ref o, .int (kz c1)]) ++ List.replicate (2 - (lg_sl ([.ref o, .int (kz c1)])).length) Slot.unset).toArray = ls at hl ⊢
  have hl : lv_has ls 2 [(0, .ref o), (1, .int (kz c1))] := hl
  refine lv_aload_n hx hb dX12_puts_0 rfl (lv_at hl 0 rfl) ?_
  refine iz_get (D := (dC, dI)) (ci := 12) (v := .ref (am 25)) (C := RX12) (T := TX12) (N := 49) hx hb hts hin hown hK hO rfl 25 (by decide) hL73 (fun _ h9 => h9) rfl dX12_puts_1 ?_
  refine lv_aload_n hx hb dX12_puts_4 rfl (lv_at hl 0 rfl) ?_
  refine iz_get (D := (dC, dI)) (ci := 12) (v := .int (kz (zi 26))) (C := RX12) (T := TX12) (N := 49) hx hb hts hin hown hK hO rfl 26 (by decide) hL169 (fun _ h9 => h9) rfl dX12_puts_5 ?_
  refine lv_iload_n hx hb dX12_puts_8 rfl (lv_at hl 1 rfl) ?_
  refine lv_i2b (v := (kz c1).toInt8.toInt32) hx hb dX12_puts_9 rfl ?_
  refine iz_any (fun z_1 z_1a z_1b z_1e => ?_)
  obtain ⟨f25_2, c_f25_2⟩ := iv_o21 hI g25
  refine iz_bast hx hb hK 1 c_f25_2 hS (iv_A hI g25 (by decide)) rfl (by omega) (by decide) dX12_puts_10 (fun H locs c9 oq hS => ?_)
  have hI := iv_s21 hI g25 c9 oq
  have hO := hO.kept (oq _ (iv_ne0 g25 hM.2.1 (by decide)).symm)
  clear oq c9
  refine lv_aload_n hx hb dX12_puts_11 rfl (lv_at hl 0 rfl) ?_
  refine lv_dup hx hb dX12_puts_12 rfl ?_
  refine iz_get (D := (dC, dI)) (ci := 12) (v := .int (kz (zi 26))) (C := RX12) (T := TX12) (N := 49) hx hb hts hin hown hK hO rfl 26 (by decide) hL169 (fun _ h9 => h9) rfl dX12_puts_13 ?_
  refine lv_iconst (v := kz 1) hx hb dX12_puts_16 rfl ?_
  refine iz_iadd hx hb dX12_puts_17 ?_
  refine iz_put (D := (dC, dI)) (ci := 12) (v := .int (kz (zi 26 + 1))) (ty := .int) (C := RX12) (T := TX12) (N := 49) hx hb hts hin tyX12 tyX12_ok nmX12 hown hK hO hS hM.2.2.1 rfl 26 (by decide) hL169 (fun _ h9 => h9) rfl (by decide +kernel) rfl rfl (Nat.le_of_ble_eq_true rfl) dX12_puts_18 (fun H locs hO oq hS => ?_)
  rw [mM_26] at hO
  have hI := iv_skip hI hM.2.1 oq
  have hO : va_at (dC, dI) vwCl (o, .inr (12, mM am (fup zi 26 (zi 26 + 1)) zl)) H := hO
  clear oq
  exact W.vret hx hb hr (fun t9 ht hW => ⟨⟨((fup zi 26 (zi 26 + 1)), zl), rfl, ⟨(zi 26 + 1), by omega, rfl, rfl⟩, va_K.moved hW.alike hK, by rw [ht]; exact ⟨hI, hO⟩⟩, hS.F ht⟩) hS.2.2 dX12_puts_21
set_option maxHeartbeats 4000000 in
set_option maxRecDepth 100000 in
/-- X12_joined -/
theorem m_joined (l : Launch) (dC : Nat → ClassId) (dI : Nat → Nat → Nat) (ca : Nat → ClassId) (A : Nat → Prop) (X : kGh) (o : Nat) (am : Nat → Nat) (zi : Nat → Int) (zl : Nat → Int64) (hM : mS X A o am) (hz : mZ X am zi) : Met l yX12_joined wsX12_joined ({ frames := 1, cells := 0, slots := 0, locals := 21 }) (va_Pc [.ref o] (fun U => va_K (dC, dI) vwCl (k_tys ca) U ∧ mI (dC, dI) ca A X o am zi zl U.heap)) (va_Qi (fun (r : Int32) (u : (Nat → Int) × (Nat → Int64)) => mZ X am u.1 ∧ u.1 20 = zi 20) (fun u U => va_K (dC, dI) vwCl (k_tys ca) U ∧ mI (dC, dI) ca A X o am u.1 u.2 U.heap) A) 0 0 A := by
  refine Met.ofW (cc := cX12_joined) (maxL := 6) (ret := (some .int)) (by decide) rfl ?_
  intro p e s m args below meth c s₁ B hml hv
  obtain ⟨rfl, hK, hI, hO⟩ := hv
  have hx := B.exec
  have hb := B.bytes
  have hr := B.returns
  have hts := atoms_spec (ws := wsX12_joined) B.pre
  have hown : s.vm.findClass RX12 = some m.cls := findClass_of_methodNamed B.named
  have hin : ∀ w ∈ u_ws RX12 TX12 49, w ∈ wsX12_joined := by decide +kernel
  have hL169 := hts (.fieldLink RX12 169 "JoinBenchModel" "outMany" "I") (by decide +kernel)
  have hL155 := hts (.fieldLink RX12 155 "JoinBenchModel" "rowMany" "I") (by decide +kernel)
  have hL67 := hts (.fieldLink RX12 67 "JoinBenchModel" "rowForm" "[I") (by decide +kernel)
  have hL70 := hts (.fieldLink RX12 70 "JoinBenchModel" "rowRule" "[I") (by decide +kernel)
  have hL42 := hts (.fieldLink RX12 42 "JoinBenchModel" "comes" "[I") (by decide +kernel)
  have hL33 := hts (.fieldLink RX12 33 "JoinBenchModel" "ruleText" "[B") (by decide +kernel)
  have hL36 := hts (.fieldLink RX12 36 "JoinBenchModel" "ends" "[I") (by decide +kernel)
  have hL39 := hts (.fieldLink RX12 39 "JoinBenchModel" "begins" "[I") (by decide +kernel)
  have hL16 := hts (.fieldLink RX12 16 "JoinBenchModel" "size" "[I") (by decide +kernel)
  have hL13 := hts (.fieldLink RX12 13 "JoinBenchModel" "letters" "[B") (by decide +kernel)
  have g23 : X.1 (am 23) = (123, 20, 40, 0, 39) := hM.1 23 _ rfl (by decide)
  have w23 : X.2 (am 23) = 0 := hM.2.2.2 23 _ rfl (by decide) (by decide) (by decide)
  have g24 : X.1 (am 24) = (124, 20, 40, -1, 23) := hM.1 24 _ rfl (by decide)
  have w24 : X.2 (am 24) = 0 := hM.2.2.2 24 _ rfl (by decide) (by decide) (by decide)
  have g13 : X.1 (am 13) = (113, 20, 24, 0, 4) := hM.1 13 _ rfl (by decide)
  have w13 : X.2 (am 13) = 0 := hM.2.2.2 13 _ rfl (by decide) (by decide) (by decide)
  have g10 : X.1 (am 10) = (110, 21, 240, 0, 0) := hM.1 10 _ rfl (by decide)
  have g11 : X.1 (am 11) = (111, 20, 24, 0, 3) := hM.1 11 _ rfl (by decide)
  have w11 : X.2 (am 11) = 0 := hM.2.2.2 11 _ rfl (by decide) (by decide) (by decide)
  have g12 : X.1 (am 12) = (112, 20, 24, 0, 3) := hM.1 12 _ rfl (by decide)
  have w12 : X.2 (am 12) = 0 := hM.2.2.2 12 _ rfl (by decide) (by decide) (by decide)
  have g4 : X.1 (am 4) = (104, 20, 40, 0, 8) := hM.1 4 _ rfl (by decide)
  have g3 : X.1 (am 3) = (103, 21, 320, 0, 0) := hM.1 3 _ rfl (by decide)
  obtain ⟨⟨z1a, z1b⟩, ⟨z2a, z2b⟩, ⟨z9a, z9b⟩, ⟨z20a, z20b⟩, ⟨z21a, z21b⟩, ⟨z22a, z22b⟩, ⟨z26a, z26b⟩, ⟨z28a, z28b⟩, ⟨z34a, z34b⟩, ⟨z35a, z35b⟩, ⟨z38a, z38b⟩, ⟨z39a, z39b⟩, ⟨z46a, z46b⟩, hzA, hzB⟩ := id hz
  obtain ⟨H, hH⟩ : ∃ H : Heap, H = s.heap := ⟨_, rfl⟩
  have hS : va_S A s.heap H [] := by rw [hH]; exact va_S.rf
  rw [← hH] at hI hO ⊢
  clear hH
  have hl := lv_entry ([.ref o]) (n := 6) (Nat.le_of_ble_eq_true rfl)
  rw [lg_entry_eq]
  generalize (lg_sl ([.ref o]) ++ List.replicate (6 - (lg_sl ([.ref o])).length) Slot.unset).toArray = ls at hl ⊢
  have hl : lv_has ls 6 [(0, .ref o)] := hl
  refine lv_aload_n hx hb dX12_joined_0 rfl (lv_at hl 0 rfl) ?_
  refine lv_iconst (v := kz 0) hx hb dX12_joined_1 rfl ?_
  refine iz_put (D := (dC, dI)) (ci := 12) (v := .int (kz 0)) (ty := .int) (C := RX12) (T := TX12) (N := 49) hx hb hts hin tyX12 tyX12_ok nmX12 hown hK hO hS hM.2.2.1 rfl 26 (by decide) hL169 (fun _ h9 => h9) rfl (by decide +kernel) rfl rfl (Nat.le_of_ble_eq_true rfl) dX12_joined_2 (fun H locs hO oq hS => ?_)
  rw [mM_26] at hO
  have hI := iv_skip hI hM.2.1 oq
  have hO : va_at (dC, dI) vwCl (o, .inr (12, mM am (fup zi 26 0) zl)) H := hO
  clear oq
  refine lv_iconst (v := kz 0) hx hb dX12_joined_5 rfl ?_
  refine lv_istore_n (lv' := [(1, .int (kz 0)), (0, .ref o)]) hx hb dX12_joined_6 rfl hl (by decide) rfl (fun ls hl => ?_)
  refine iz_loop2 (P := fun N9 k t H locs ls => 0 ≤ k ∧ k ≤ 40 ∧ 0 ≤ t ∧ t ≤ 12 * k ∧ 40 - k ≤ (N9 : Int) ∧ lv_has ls 6 [(1, .int (kz k)), (0, .ref o)] ∧ iv (dC, dI) ca A X H ∧ va_at (dC, dI) vwCl (o, .inr (12, mM am (fup zi 26 t) zl)) H ∧ va_S A s.heap H locs) 100000 (x0 := 0) (x1 := 0) ?_ ⟨by omega, by omega, by omega, by omega, by omega, lv_sub hl [0, 1] rfl, hI, hO, hS⟩
  intro n_1 k t H locs ls ⟨n_1f0, n_1f1, n_1f2, n_1f3, n_1f4, hl, hI, hO, hS⟩ ihn_1
  refine lv_iload_n hx hb dX12_joined_7 rfl (lv_at hl 0 rfl) ?_
  refine lv_aload_n hx hb dX12_joined_8 rfl (lv_at hl 1 rfl) ?_
  refine iz_get (D := (dC, dI)) (ci := 12) (v := .int (kz (zi 22))) (C := RX12) (T := TX12) (N := 49) hx hb hts hin hown hK hO rfl 22 (by decide) hL155 (fun _ h9 => h9) rfl dX12_joined_9 ?_
  refine iz_ge (tgt := 172) hx hb dX12_joined_12 (by decide) (by unfold rg2; omega) (fun br_2 => ?_) (fun br_2 => ?_)
  · refine lv_aload_n hx hb dX12_joined_172 rfl (lv_at hl 1 rfl) ?_
    refine iz_get (D := (dC, dI)) (ci := 12) (v := .int (kz t)) (C := RX12) (T := TX12) (N := 49) hx hb hts hin hown hK hO rfl 26 (by decide) hL169 (fun _ h9 => h9) rfl dX12_joined_173 ?_
    exact W.iret (v := kz t) hx hb hr (fun t9 ht hW => ⟨⟨kz t, ((fup zi 26 t), zl), rfl, ⟨⟨⟨z1a, z1b⟩, ⟨z2a, z2b⟩, ⟨z9a, z9b⟩, ⟨z20a, z20b⟩, ⟨z21a, z21b⟩, ⟨z22a, z22b⟩, ⟨by show (0 : Int) ≤ t; omega, by show t ≤ (480 : Int); omega⟩, ⟨z28a, z28b⟩, ⟨z34a, z34b⟩, ⟨z35a, z35b⟩, ⟨z38a, z38b⟩, ⟨z39a, z39b⟩, ⟨z46a, z46b⟩, by show zi 2 ≤ (X.2 (am 4) : Int); omega, by show zi 39 ≤ (X.2 (am 41) : Int); omega⟩, rfl⟩, va_K.moved hW.alike hK, by rw [ht]; exact ⟨hI, hO⟩⟩, hS.F ht⟩) hS.2.2 dX12_joined_176
  · refine lv_aload_n hx hb dX12_joined_15 rfl (lv_at hl 1 rfl) ?_
    refine iz_get (D := (dC, dI)) (ci := 12) (v := .ref (am 23)) (C := RX12) (T := TX12) (N := 49) hx hb hts hin hown hK hO rfl 23 (by decide) hL67 (fun _ h9 => h9) rfl dX12_joined_16 ?_
    refine lv_iload_n hx hb dX12_joined_19 rfl (lv_at hl 0 rfl) ?_
    obtain ⟨f23_3, c_f23_3, k_f23_3⟩ := iv_o20 hI g23
    refine iz_iald hx hb hK 0 c_f23_3 rfl (by omega) (by decide) dX12_joined_20 ?_
    obtain ⟨v_4a, v_4b, v_4c⟩ := k_f23_3 k (by omega)
    clear v_4c
    obtain ⟨v_4, ev_4⟩ : ∃ z9 : Int, ge1 f23_3 k = z9 := ⟨_, rfl⟩
    rw [ev_4] at v_4a v_4b ⊢
    refine lv_istore_n (lv' := [(2, .int (kz v_4)), (1, .int (kz k)), (0, .ref o)]) hx hb dX12_joined_21 rfl hl (by decide) rfl (fun ls hl => ?_)
    refine lv_aload_n hx hb dX12_joined_22 rfl (lv_at hl 2 rfl) ?_
    refine iz_get (D := (dC, dI)) (ci := 12) (v := .ref (am 24)) (C := RX12) (T := TX12) (N := 49) hx hb hts hin hown hK hO rfl 24 (by decide) hL70 (fun _ h9 => h9) rfl dX12_joined_23 ?_
    refine lv_iload_n hx hb dX12_joined_26 rfl (lv_at hl 1 rfl) ?_
    obtain ⟨f24_5, c_f24_5, k_f24_5⟩ := iv_o20 hI g24
    refine iz_iald hx hb hK 0 c_f24_5 rfl (by omega) (by decide) dX12_joined_27 ?_
    obtain ⟨v_6a, v_6b, v_6c⟩ := k_f24_5 k (by omega)
    clear v_6c
    obtain ⟨v_6, ev_6⟩ : ∃ z9 : Int, ge1 f24_5 k = z9 := ⟨_, rfl⟩
    rw [ev_6] at v_6a v_6b ⊢
    refine lv_istore_n (lv' := [(3, .int (kz v_6)), (2, .int (kz v_4)), (1, .int (kz k)), (0, .ref o)]) hx hb dX12_joined_28 rfl hl (by decide) rfl (fun ls hl => ?_)
    refine lv_iload_n hx hb dX12_joined_29 rfl (lv_at hl 0 rfl) ?_
    refine iz_ltz (tgt := 83) hx hb dX12_joined_30 (by decide) (by unfold rg2; omega) (fun br_7 => ?_) (fun br_7 => ?_)
    · refine lv_aload_n hx hb dX12_joined_83 rfl (lv_at hl 3 rfl) ?_
      refine iz_get (D := (dC, dI)) (ci := 12) (v := .ref (am 4)) (C := RX12) (T := TX12) (N := 49) hx hb hts hin hown hK hO rfl 4 (by decide) hL16 (fun _ h9 => h9) rfl dX12_joined_84 ?_
      refine lv_iload_n hx hb dX12_joined_87 rfl (lv_at hl 1 rfl) ?_
      obtain ⟨f4_8, c_f4_8, k_f4_8⟩ := iv_o20 hI g4
      refine iz_iald hx hb hK 0 c_f4_8 rfl (by omega) (by decide) dX12_joined_88 ?_
      obtain ⟨v_9a, v_9b, v_9c⟩ := k_f4_8 v_4 (by omega)
      obtain ⟨v_9, ev_9⟩ : ∃ z9 : Int, ge1 f4_8 v_4 = z9 := ⟨_, rfl⟩
      rw [ev_9] at v_9a v_9b v_9c ⊢
      refine lv_iload_n hx hb dX12_joined_89 rfl (lv_at hl 2 rfl) ?_
      refine lv_iconst (v := kz 1) hx hb dX12_joined_90 rfl ?_
      refine iz_iadd hx hb dX12_joined_91 ?_
      refine lv_aload_n hx hb dX12_joined_92 rfl (lv_at hl 3 rfl) ?_
      refine iz_get (D := (dC, dI)) (ci := 12) (v := .int (kz (zi 22))) (C := RX12) (T := TX12) (N := 49) hx hb hts hin hown hK hO rfl 22 (by decide) hL155 (fun _ h9 => h9) rfl dX12_joined_93 ?_
      refine iz_ge (tgt := 126) hx hb dX12_joined_96 (by decide) (by unfold rg2; omega) (fun br_10 => ?_) (fun br_10 => ?_)
      · refine lv_iconst (v := kz 0) hx hb dX12_joined_126 rfl ?_
        refine iz_isub hx hb dX12_joined_127 ?_
        refine lv_istore (lv' := [(4, .int (kz (v_9 - 0))), (3, .int (kz v_6)), (2, .int (kz v_4)), (1, .int (kz k)), (0, .ref o)]) hx hb dX12_joined_128 hl (by decide) rfl (fun ls hl => ?_)
        refine lv_aload_n hx hb dX12_joined_130 rfl (lv_at hl 4 rfl) ?_
        refine lv_iload_n hx hb dX12_joined_131 rfl (lv_at hl 3 rfl) ?_
        refine vp_callSi (va_Run.run (va_runV (As := [.int (kz k)]) (rest := []) ⟨hx, hb, hml, hown, hts⟩ (m_cutOf l dC dI ca A X o am (fup zi 26 t) zl hM ⟨⟨z1a, z1b⟩, ⟨z2a, z2b⟩, ⟨z9a, z9b⟩, ⟨z20a, z20b⟩, ⟨z21a, z21b⟩, ⟨z22a, z22b⟩, ⟨by show (0 : Int) ≤ t; omega, by show t ≤ (480 : Int); omega⟩, ⟨z28a, z28b⟩, ⟨z34a, z34b⟩, ⟨z35a, z35b⟩, ⟨z38a, z38b⟩, ⟨z39a, z39b⟩, ⟨z46a, z46b⟩, by show zi 2 ≤ (X.2 (am 4) : Int); omega, by show zi 39 ≤ (X.2 (am 41) : Int); omega⟩ k (by omega)) (cwV 1 hts gX12_joined_X12_cutOf rfl rfl rfl (by decide +kernel) ⟨Nat.le_of_ble_eq_true rfl, Nat.le_of_ble_eq_true rfl⟩) ⟨fun a U g mk q => by obtain ⟨q0, qK, qI⟩ := q; exact ⟨q0, va_K.moved (u := U) (U := U.calling g mk a) (Vm.Alike.refl U.vm) qK, qI⟩, va_recv hK (at_P hO) (ci := 12) (q0 := 0) rfl rfl, fun U hU hW => ⟨rfl, va_K.moved hW.alike hK, by rw [hU]; exact ⟨hI, hO⟩⟩⟩ rfl rfl hl.1 rfl (lv_room (Nat.le_of_ble_eq_true rfl)) dX12_joined_132 ⟨Nat.le_of_ble_eq_true rfl, Nat.le_of_ble_eq_true rfl⟩)) (fun r_12 hw_11 => ?_)
        obtain ⟨z_13, rfl, z_13h⟩ := hw_11
        refine lv_istore (lv' := [(5, .int (kz z_13)), (4, .int (kz (v_9 - 0))), (3, .int (kz v_6)), (2, .int (kz v_4)), (1, .int (kz k)), (0, .ref o)]) hx hb dX12_joined_135 hl (by decide) rfl (fun ls hl => ?_)
        refine iz_loop2 (P := fun N9 i t H locs ls => 0 ≤ i ∧ i ≤ 8 ∧ 0 ≤ t ∧ t ≤ 12 * k + 4 + i ∧ 8 - i ≤ (N9 : Int) ∧ lv_has ls 6 [(5, .int (kz i)), (4, .int (kz (v_9 - 0))), (3, .int (kz v_6)), (2, .int (kz v_4)), (1, .int (kz k)), (0, .ref o)] ∧ iv (dC, dI) ca A X H ∧ va_at (dC, dI) vwCl (o, .inr (12, mM am (fup zi 26 t) zl)) H ∧ va_S A s.heap H locs) 100000 (x0 := z_13) (x1 := t) ?_ ⟨by omega, by omega, by omega, by omega, by omega, lv_sub hl [0, 1, 2, 3, 4, 5] rfl, hI, hO, hS⟩
        intro n_14 i t H locs ls ⟨n_14f0, n_14f1, n_14f2, n_14f3, n_14f4, hl, hI, hO, hS⟩ ihn_14
        refine lv_iload hx hb dX12_joined_137 (lv_at hl 0 rfl) ?_
        refine lv_iload hx hb dX12_joined_139 (lv_at hl 1 rfl) ?_
        refine iz_ge (tgt := 166) hx hb dX12_joined_141 (by decide) (by unfold rg2; omega) (fun br_15 => ?_) (fun br_15 => ?_)
        · refine lv_iinc (v := kz (k + 1)) (lv' := [(1, .int (kz (k + 1))), (5, .int (kz i)), (4, .int (kz (v_9 - 0))), (3, .int (kz v_6)), (2, .int (kz v_4)), (0, .ref o)]) hx hb dX12_joined_166 hl (k := 4) rfl (kz_add k 1) (by decide) rfl (fun ls hl => ?_)
          refine lv_goto (tgt := 7) hx hb dX12_joined_169 (by decide) ?_
          exact ihn_1 (n_1 - 1) (by omega) (k + 1) t _ _ _ ⟨by omega, by omega, by omega, by omega, by omega, lv_sub hl [0, 5] rfl, hI, hO, hS⟩
        · refine lv_aload_n hx hb dX12_joined_144 rfl (lv_at hl 5 rfl) ?_
          refine lv_aload_n hx hb dX12_joined_145 rfl (lv_at hl 5 rfl) ?_
          refine iz_get (D := (dC, dI)) (ci := 12) (v := .ref (am 3)) (C := RX12) (T := TX12) (N := 49) hx hb hts hin hown hK hO rfl 3 (by decide) hL13 (fun _ h9 => h9) rfl dX12_joined_146 ?_
          refine lv_bipush (v := kz 8) hx hb dX12_joined_149 (by decide) ?_
          refine lv_iload_n hx hb dX12_joined_151 rfl (lv_at hl 3 rfl) ?_
          refine iz_imul hx hb dX12_joined_152 ?_
          refine lv_iload hx hb dX12_joined_153 (lv_at hl 0 rfl) ?_
          refine iz_iadd hx hb dX12_joined_155 ?_
          obtain ⟨f3_16, c_f3_16⟩ := iv_o21 hI g3
          refine iz_bald hx hb hK 1 c_f3_16 rfl (by omega) (by decide) dX12_joined_156 ?_
          have v_17a := kz_lo (f3_16 (Int.toNat ((8 * v_4) + i)))
          have v_17b := kz_hi (f3_16 (Int.toNat ((8 * v_4) + i)))
          change _ ≤ ge1 f3_16 ((8 * v_4) + i) at v_17a
          change ge1 f3_16 ((8 * v_4) + i) ≤ _ at v_17b
          obtain ⟨v_17, ev_17⟩ : ∃ z9 : Int, ge1 f3_16 ((8 * v_4) + i) = z9 := ⟨_, rfl⟩
          rw [ev_17] at v_17a v_17b ⊢
          refine va_callv (va_runV (As := [.int (kz v_17)]) (rest := []) ⟨hx, hb, hml, hown, hts⟩ (m_puts l dC dI ca A X o am (fup zi 26 t) zl hM ⟨⟨z1a, z1b⟩, ⟨z2a, z2b⟩, ⟨z9a, z9b⟩, ⟨z20a, z20b⟩, ⟨z21a, z21b⟩, ⟨z22a, z22b⟩, ⟨by show (0 : Int) ≤ t; omega, by show t ≤ (480 : Int); omega⟩, ⟨z28a, z28b⟩, ⟨z34a, z34b⟩, ⟨z35a, z35b⟩, ⟨z38a, z38b⟩, ⟨z39a, z39b⟩, ⟨z46a, z46b⟩, by show zi 2 ≤ (X.2 (am 4) : Int); omega, by show zi 39 ≤ (X.2 (am 41) : Int); omega⟩ v_17 (by show t ≤ 479; omega)) (cwV 1 hts gX12_joined_X12_puts rfl rfl rfl (by decide +kernel) ⟨Nat.le_of_ble_eq_true rfl, Nat.le_of_ble_eq_true rfl⟩) ⟨fun a U g mk q => by obtain ⟨q0, qK, qI⟩ := q; exact ⟨q0, va_K.moved (u := U) (U := U.calling g mk a) (Vm.Alike.refl U.vm) qK, qI⟩, va_recv hK (at_P hO) (ci := 12) (q0 := 0) rfl rfl, fun U hU hW => ⟨rfl, va_K.moved hW.alike hK, by rw [hU]; exact ⟨hI, hO⟩⟩⟩ rfl rfl hl.1 rfl (lv_room (Nat.le_of_ble_eq_true rfl)) dX12_joined_157 ⟨Nat.le_of_ble_eq_true rfl, Nat.le_of_ble_eq_true rfl⟩) hS (fun q _ h => h) (fun q h => h) (fun u t9 H locs ht hvm hw_18 hB hz1 hk1 hS => ?_)
          obtain ⟨-, hI, hO⟩ := hB
          rw [ht] at hI hO
          clear ht hvm hz1 hk1
          obtain ⟨u1, u2⟩ := u
          obtain ⟨t_20, h9, e1, e2⟩ := hw_18
          have ht_20 : t_20 = t + 1 := h9
          clear h9
          have hO : va_at (dC, dI) vwCl (o, .inr (12, mM am u1 u2)) H := hO
          rw [show u1 = fup (fup zi 26 t) 26 t_20 from e1, show u2 = zl from e2] at hO
          clear e1 e2
          have hO : va_at (dC, dI) vwCl (o, .inr (12, mM am (fup zi 26 t_20) zl)) H := hO
          refine lv_iinc (v := kz (i + 1)) (lv' := [(5, .int (kz (i + 1))), (4, .int (kz (v_9 - 0))), (3, .int (kz v_6)), (2, .int (kz v_4)), (1, .int (kz k)), (0, .ref o)]) hx hb dX12_joined_160 hl (k := 0) rfl (kz_add i 1) (by decide) rfl (fun ls hl => ?_)
          refine lv_goto (tgt := 137) hx hb dX12_joined_163 (by decide) ?_
          exact ihn_14 (n_14 - 1) (by omega) (i + 1) t_20 _ _ _ ⟨by omega, by omega, by omega, by omega, by omega, lv_sub hl [0, 1, 2, 3, 4, 5] rfl, hI, hO, hS⟩
      · refine lv_aload_n hx hb dX12_joined_99 rfl (lv_at hl 3 rfl) ?_
        refine iz_get (D := (dC, dI)) (ci := 12) (v := .ref (am 24)) (C := RX12) (T := TX12) (N := 49) hx hb hts hin hown hK hO rfl 24 (by decide) hL70 (fun _ h9 => h9) rfl dX12_joined_100 ?_
        refine lv_iload_n hx hb dX12_joined_103 rfl (lv_at hl 2 rfl) ?_
        refine lv_iconst (v := kz 1) hx hb dX12_joined_104 rfl ?_
        refine iz_iadd hx hb dX12_joined_105 ?_
        refine iz_iald hx hb hK 0 c_f24_5 rfl (by omega) (by decide) dX12_joined_106 ?_
        obtain ⟨v_21a, v_21b, v_21c⟩ := k_f24_5 (k + 1) (by omega)
        clear v_21c
        obtain ⟨v_21, ev_21⟩ : ∃ z9 : Int, ge1 f24_5 (k + 1) = z9 := ⟨_, rfl⟩
        rw [ev_21] at v_21a v_21b ⊢
        refine iz_ltz (tgt := 126) hx hb dX12_joined_107 (by decide) (by unfold rg2; omega) (fun br_22 => ?_) (fun br_22 => ?_)
        · refine lv_iconst (v := kz 0) hx hb dX12_joined_126 rfl ?_
          refine iz_isub hx hb dX12_joined_127 ?_
          refine lv_istore (lv' := [(4, .int (kz (v_9 - 0))), (3, .int (kz v_6)), (2, .int (kz v_4)), (1, .int (kz k)), (0, .ref o)]) hx hb dX12_joined_128 hl (by decide) rfl (fun ls hl => ?_)
          refine lv_aload_n hx hb dX12_joined_130 rfl (lv_at hl 4 rfl) ?_
          refine lv_iload_n hx hb dX12_joined_131 rfl (lv_at hl 3 rfl) ?_
          refine vp_callSi (va_Run.run (va_runV (As := [.int (kz k)]) (rest := []) ⟨hx, hb, hml, hown, hts⟩ (m_cutOf l dC dI ca A X o am (fup zi 26 t) zl hM ⟨⟨z1a, z1b⟩, ⟨z2a, z2b⟩, ⟨z9a, z9b⟩, ⟨z20a, z20b⟩, ⟨z21a, z21b⟩, ⟨z22a, z22b⟩, ⟨by show (0 : Int) ≤ t; omega, by show t ≤ (480 : Int); omega⟩, ⟨z28a, z28b⟩, ⟨z34a, z34b⟩, ⟨z35a, z35b⟩, ⟨z38a, z38b⟩, ⟨z39a, z39b⟩, ⟨z46a, z46b⟩, by show zi 2 ≤ (X.2 (am 4) : Int); omega, by show zi 39 ≤ (X.2 (am 41) : Int); omega⟩ k (by omega)) (cwV 1 hts gX12_joined_X12_cutOf rfl rfl rfl (by decide +kernel) ⟨Nat.le_of_ble_eq_true rfl, Nat.le_of_ble_eq_true rfl⟩) ⟨fun a U g mk q => by obtain ⟨q0, qK, qI⟩ := q; exact ⟨q0, va_K.moved (u := U) (U := U.calling g mk a) (Vm.Alike.refl U.vm) qK, qI⟩, va_recv hK (at_P hO) (ci := 12) (q0 := 0) rfl rfl, fun U hU hW => ⟨rfl, va_K.moved hW.alike hK, by rw [hU]; exact ⟨hI, hO⟩⟩⟩ rfl rfl hl.1 rfl (lv_room (Nat.le_of_ble_eq_true rfl)) dX12_joined_132 ⟨Nat.le_of_ble_eq_true rfl, Nat.le_of_ble_eq_true rfl⟩)) (fun r_24 hw_23 => ?_)
          obtain ⟨z_25, rfl, z_25h⟩ := hw_23
          refine lv_istore (lv' := [(5, .int (kz z_25)), (4, .int (kz (v_9 - 0))), (3, .int (kz v_6)), (2, .int (kz v_4)), (1, .int (kz k)), (0, .ref o)]) hx hb dX12_joined_135 hl (by decide) rfl (fun ls hl => ?_)
          refine iz_loop2 (P := fun N9 i t H locs ls => 0 ≤ i ∧ i ≤ 8 ∧ 0 ≤ t ∧ t ≤ 12 * k + 4 + i ∧ 8 - i ≤ (N9 : Int) ∧ lv_has ls 6 [(5, .int (kz i)), (4, .int (kz (v_9 - 0))), (3, .int (kz v_6)), (2, .int (kz v_4)), (1, .int (kz k)), (0, .ref o)] ∧ iv (dC, dI) ca A X H ∧ va_at (dC, dI) vwCl (o, .inr (12, mM am (fup zi 26 t) zl)) H ∧ va_S A s.heap H locs) 100000 (x0 := z_25) (x1 := t) ?_ ⟨by omega, by omega, by omega, by omega, by omega, lv_sub hl [0, 1, 2, 3, 4, 5] rfl, hI, hO, hS⟩
          intro n_26 i t H locs ls ⟨n_26f0, n_26f1, n_26f2, n_26f3, n_26f4, hl, hI, hO, hS⟩ ihn_26
          refine lv_iload hx hb dX12_joined_137 (lv_at hl 0 rfl) ?_
          refine lv_iload hx hb dX12_joined_139 (lv_at hl 1 rfl) ?_
          refine iz_ge (tgt := 166) hx hb dX12_joined_141 (by decide) (by unfold rg2; omega) (fun br_27 => ?_) (fun br_27 => ?_)
          · refine lv_iinc (v := kz (k + 1)) (lv' := [(1, .int (kz (k + 1))), (5, .int (kz i)), (4, .int (kz (v_9 - 0))), (3, .int (kz v_6)), (2, .int (kz v_4)), (0, .ref o)]) hx hb dX12_joined_166 hl (k := 4) rfl (kz_add k 1) (by decide) rfl (fun ls hl => ?_)
            refine lv_goto (tgt := 7) hx hb dX12_joined_169 (by decide) ?_
            exact ihn_1 (n_1 - 1) (by omega) (k + 1) t _ _ _ ⟨by omega, by omega, by omega, by omega, by omega, lv_sub hl [0, 5] rfl, hI, hO, hS⟩
          · refine lv_aload_n hx hb dX12_joined_144 rfl (lv_at hl 5 rfl) ?_
            refine lv_aload_n hx hb dX12_joined_145 rfl (lv_at hl 5 rfl) ?_
            refine iz_get (D := (dC, dI)) (ci := 12) (v := .ref (am 3)) (C := RX12) (T := TX12) (N := 49) hx hb hts hin hown hK hO rfl 3 (by decide) hL13 (fun _ h9 => h9) rfl dX12_joined_146 ?_
            refine lv_bipush (v := kz 8) hx hb dX12_joined_149 (by decide) ?_
            refine lv_iload_n hx hb dX12_joined_151 rfl (lv_at hl 3 rfl) ?_
            refine iz_imul hx hb dX12_joined_152 ?_
            refine lv_iload hx hb dX12_joined_153 (lv_at hl 0 rfl) ?_
            refine iz_iadd hx hb dX12_joined_155 ?_
            obtain ⟨f3_28, c_f3_28⟩ := iv_o21 hI g3
            refine iz_bald hx hb hK 1 c_f3_28 rfl (by omega) (by decide) dX12_joined_156 ?_
            have v_29a := kz_lo (f3_28 (Int.toNat ((8 * v_4) + i)))
            have v_29b := kz_hi (f3_28 (Int.toNat ((8 * v_4) + i)))
            change _ ≤ ge1 f3_28 ((8 * v_4) + i) at v_29a
            change ge1 f3_28 ((8 * v_4) + i) ≤ _ at v_29b
            obtain ⟨v_29, ev_29⟩ : ∃ z9 : Int, ge1 f3_28 ((8 * v_4) + i) = z9 := ⟨_, rfl⟩
            rw [ev_29] at v_29a v_29b ⊢
            refine va_callv (va_runV (As := [.int (kz v_29)]) (rest := []) ⟨hx, hb, hml, hown, hts⟩ (m_puts l dC dI ca A X o am (fup zi 26 t) zl hM ⟨⟨z1a, z1b⟩, ⟨z2a, z2b⟩, ⟨z9a, z9b⟩, ⟨z20a, z20b⟩, ⟨z21a, z21b⟩, ⟨z22a, z22b⟩, ⟨by show (0 : Int) ≤ t; omega, by show t ≤ (480 : Int); omega⟩, ⟨z28a, z28b⟩, ⟨z34a, z34b⟩, ⟨z35a, z35b⟩, ⟨z38a, z38b⟩, ⟨z39a, z39b⟩, ⟨z46a, z46b⟩, by show zi 2 ≤ (X.2 (am 4) : Int); omega, by show zi 39 ≤ (X.2 (am 41) : Int); omega⟩ v_29 (by show t ≤ 479; omega)) (cwV 1 hts gX12_joined_X12_puts rfl rfl rfl (by decide +kernel) ⟨Nat.le_of_ble_eq_true rfl, Nat.le_of_ble_eq_true rfl⟩) ⟨fun a U g mk q => by obtain ⟨q0, qK, qI⟩ := q; exact ⟨q0, va_K.moved (u := U) (U := U.calling g mk a) (Vm.Alike.refl U.vm) qK, qI⟩, va_recv hK (at_P hO) (ci := 12) (q0 := 0) rfl rfl, fun U hU hW => ⟨rfl, va_K.moved hW.alike hK, by rw [hU]; exact ⟨hI, hO⟩⟩⟩ rfl rfl hl.1 rfl (lv_room (Nat.le_of_ble_eq_true rfl)) dX12_joined_157 ⟨Nat.le_of_ble_eq_true rfl, Nat.le_of_ble_eq_true rfl⟩) hS (fun q _ h => h) (fun q h => h) (fun u t9 H locs ht hvm hw_30 hB hz1 hk1 hS => ?_)
            obtain ⟨-, hI, hO⟩ := hB
            rw [ht] at hI hO
            clear ht hvm hz1 hk1
            obtain ⟨u1, u2⟩ := u
            obtain ⟨t_32, h9, e1, e2⟩ := hw_30
            have ht_32 : t_32 = t + 1 := h9
            clear h9
            have hO : va_at (dC, dI) vwCl (o, .inr (12, mM am u1 u2)) H := hO
            rw [show u1 = fup (fup zi 26 t) 26 t_32 from e1, show u2 = zl from e2] at hO
            clear e1 e2
            have hO : va_at (dC, dI) vwCl (o, .inr (12, mM am (fup zi 26 t_32) zl)) H := hO
            refine lv_iinc (v := kz (i + 1)) (lv' := [(5, .int (kz (i + 1))), (4, .int (kz (v_9 - 0))), (3, .int (kz v_6)), (2, .int (kz v_4)), (1, .int (kz k)), (0, .ref o)]) hx hb dX12_joined_160 hl (k := 0) rfl (kz_add i 1) (by decide) rfl (fun ls hl => ?_)
            refine lv_goto (tgt := 137) hx hb dX12_joined_163 (by decide) ?_
            exact ihn_26 (n_26 - 1) (by omega) (i + 1) t_32 _ _ _ ⟨by omega, by omega, by omega, by omega, by omega, lv_sub hl [0, 1, 2, 3, 4, 5] rfl, hI, hO, hS⟩
        · refine lv_aload_n hx hb dX12_joined_110 rfl (lv_at hl 3 rfl) ?_
          refine iz_get (D := (dC, dI)) (ci := 12) (v := .ref (am 11)) (C := RX12) (T := TX12) (N := 49) hx hb hts hin hown hK hO rfl 11 (by decide) hL36 (fun _ h9 => h9) rfl dX12_joined_111 ?_
          refine lv_aload_n hx hb dX12_joined_114 rfl (lv_at hl 3 rfl) ?_
          refine iz_get (D := (dC, dI)) (ci := 12) (v := .ref (am 24)) (C := RX12) (T := TX12) (N := 49) hx hb hts hin hown hK hO rfl 24 (by decide) hL70 (fun _ h9 => h9) rfl dX12_joined_115 ?_
          refine lv_iload_n hx hb dX12_joined_118 rfl (lv_at hl 2 rfl) ?_
          refine lv_iconst (v := kz 1) hx hb dX12_joined_119 rfl ?_
          refine iz_iadd hx hb dX12_joined_120 ?_
          refine iz_iald hx hb hK 0 c_f24_5 rfl (by omega) (by decide) dX12_joined_121 ?_
          rw [ev_21]
          obtain ⟨f11_33, c_f11_33, k_f11_33⟩ := iv_o20 hI g11
          refine iz_iald hx hb hK 0 c_f11_33 rfl (by omega) (by decide) dX12_joined_122 ?_
          obtain ⟨v_34a, v_34b, v_34c⟩ := k_f11_33 v_21 (by omega)
          clear v_34c
          obtain ⟨v_34, ev_34⟩ : ∃ z9 : Int, ge1 f11_33 v_21 = z9 := ⟨_, rfl⟩
          rw [ev_34] at v_34a v_34b ⊢
          refine lv_goto (tgt := 127) hx hb dX12_joined_123 (by decide) ?_
          refine iz_isub hx hb dX12_joined_127 ?_
          refine lv_istore (lv' := [(4, .int (kz (v_9 - v_34))), (3, .int (kz v_6)), (2, .int (kz v_4)), (1, .int (kz k)), (0, .ref o)]) hx hb dX12_joined_128 hl (by decide) rfl (fun ls hl => ?_)
          refine lv_aload_n hx hb dX12_joined_130 rfl (lv_at hl 4 rfl) ?_
          refine lv_iload_n hx hb dX12_joined_131 rfl (lv_at hl 3 rfl) ?_
          refine vp_callSi (va_Run.run (va_runV (As := [.int (kz k)]) (rest := []) ⟨hx, hb, hml, hown, hts⟩ (m_cutOf l dC dI ca A X o am (fup zi 26 t) zl hM ⟨⟨z1a, z1b⟩, ⟨z2a, z2b⟩, ⟨z9a, z9b⟩, ⟨z20a, z20b⟩, ⟨z21a, z21b⟩, ⟨z22a, z22b⟩, ⟨by show (0 : Int) ≤ t; omega, by show t ≤ (480 : Int); omega⟩, ⟨z28a, z28b⟩, ⟨z34a, z34b⟩, ⟨z35a, z35b⟩, ⟨z38a, z38b⟩, ⟨z39a, z39b⟩, ⟨z46a, z46b⟩, by show zi 2 ≤ (X.2 (am 4) : Int); omega, by show zi 39 ≤ (X.2 (am 41) : Int); omega⟩ k (by omega)) (cwV 1 hts gX12_joined_X12_cutOf rfl rfl rfl (by decide +kernel) ⟨Nat.le_of_ble_eq_true rfl, Nat.le_of_ble_eq_true rfl⟩) ⟨fun a U g mk q => by obtain ⟨q0, qK, qI⟩ := q; exact ⟨q0, va_K.moved (u := U) (U := U.calling g mk a) (Vm.Alike.refl U.vm) qK, qI⟩, va_recv hK (at_P hO) (ci := 12) (q0 := 0) rfl rfl, fun U hU hW => ⟨rfl, va_K.moved hW.alike hK, by rw [hU]; exact ⟨hI, hO⟩⟩⟩ rfl rfl hl.1 rfl (lv_room (Nat.le_of_ble_eq_true rfl)) dX12_joined_132 ⟨Nat.le_of_ble_eq_true rfl, Nat.le_of_ble_eq_true rfl⟩)) (fun r_36 hw_35 => ?_)
          obtain ⟨z_37, rfl, z_37h⟩ := hw_35
          refine lv_istore (lv' := [(5, .int (kz z_37)), (4, .int (kz (v_9 - v_34))), (3, .int (kz v_6)), (2, .int (kz v_4)), (1, .int (kz k)), (0, .ref o)]) hx hb dX12_joined_135 hl (by decide) rfl (fun ls hl => ?_)
          refine iz_loop2 (P := fun N9 i t H locs ls => 0 ≤ i ∧ i ≤ 8 ∧ 0 ≤ t ∧ t ≤ 12 * k + 4 + i ∧ 8 - i ≤ (N9 : Int) ∧ lv_has ls 6 [(5, .int (kz i)), (4, .int (kz (v_9 - v_34))), (3, .int (kz v_6)), (2, .int (kz v_4)), (1, .int (kz k)), (0, .ref o)] ∧ iv (dC, dI) ca A X H ∧ va_at (dC, dI) vwCl (o, .inr (12, mM am (fup zi 26 t) zl)) H ∧ va_S A s.heap H locs) 100000 (x0 := z_37) (x1 := t) ?_ ⟨by omega, by omega, by omega, by omega, by omega, lv_sub hl [0, 1, 2, 3, 4, 5] rfl, hI, hO, hS⟩
          intro n_38 i t H locs ls ⟨n_38f0, n_38f1, n_38f2, n_38f3, n_38f4, hl, hI, hO, hS⟩ ihn_38
          refine lv_iload hx hb dX12_joined_137 (lv_at hl 0 rfl) ?_
          refine lv_iload hx hb dX12_joined_139 (lv_at hl 1 rfl) ?_
          refine iz_ge (tgt := 166) hx hb dX12_joined_141 (by decide) (by unfold rg2; omega) (fun br_39 => ?_) (fun br_39 => ?_)
          · refine lv_iinc (v := kz (k + 1)) (lv' := [(1, .int (kz (k + 1))), (5, .int (kz i)), (4, .int (kz (v_9 - v_34))), (3, .int (kz v_6)), (2, .int (kz v_4)), (0, .ref o)]) hx hb dX12_joined_166 hl (k := 4) rfl (kz_add k 1) (by decide) rfl (fun ls hl => ?_)
            refine lv_goto (tgt := 7) hx hb dX12_joined_169 (by decide) ?_
            exact ihn_1 (n_1 - 1) (by omega) (k + 1) t _ _ _ ⟨by omega, by omega, by omega, by omega, by omega, lv_sub hl [0, 5] rfl, hI, hO, hS⟩
          · refine lv_aload_n hx hb dX12_joined_144 rfl (lv_at hl 5 rfl) ?_
            refine lv_aload_n hx hb dX12_joined_145 rfl (lv_at hl 5 rfl) ?_
            refine iz_get (D := (dC, dI)) (ci := 12) (v := .ref (am 3)) (C := RX12) (T := TX12) (N := 49) hx hb hts hin hown hK hO rfl 3 (by decide) hL13 (fun _ h9 => h9) rfl dX12_joined_146 ?_
            refine lv_bipush (v := kz 8) hx hb dX12_joined_149 (by decide) ?_
            refine lv_iload_n hx hb dX12_joined_151 rfl (lv_at hl 3 rfl) ?_
            refine iz_imul hx hb dX12_joined_152 ?_
            refine lv_iload hx hb dX12_joined_153 (lv_at hl 0 rfl) ?_
            refine iz_iadd hx hb dX12_joined_155 ?_
            obtain ⟨f3_40, c_f3_40⟩ := iv_o21 hI g3
            refine iz_bald hx hb hK 1 c_f3_40 rfl (by omega) (by decide) dX12_joined_156 ?_
            have v_41a := kz_lo (f3_40 (Int.toNat ((8 * v_4) + i)))
            have v_41b := kz_hi (f3_40 (Int.toNat ((8 * v_4) + i)))
            change _ ≤ ge1 f3_40 ((8 * v_4) + i) at v_41a
            change ge1 f3_40 ((8 * v_4) + i) ≤ _ at v_41b
            obtain ⟨v_41, ev_41⟩ : ∃ z9 : Int, ge1 f3_40 ((8 * v_4) + i) = z9 := ⟨_, rfl⟩
            rw [ev_41] at v_41a v_41b ⊢
            refine va_callv (va_runV (As := [.int (kz v_41)]) (rest := []) ⟨hx, hb, hml, hown, hts⟩ (m_puts l dC dI ca A X o am (fup zi 26 t) zl hM ⟨⟨z1a, z1b⟩, ⟨z2a, z2b⟩, ⟨z9a, z9b⟩, ⟨z20a, z20b⟩, ⟨z21a, z21b⟩, ⟨z22a, z22b⟩, ⟨by show (0 : Int) ≤ t; omega, by show t ≤ (480 : Int); omega⟩, ⟨z28a, z28b⟩, ⟨z34a, z34b⟩, ⟨z35a, z35b⟩, ⟨z38a, z38b⟩, ⟨z39a, z39b⟩, ⟨z46a, z46b⟩, by show zi 2 ≤ (X.2 (am 4) : Int); omega, by show zi 39 ≤ (X.2 (am 41) : Int); omega⟩ v_41 (by show t ≤ 479; omega)) (cwV 1 hts gX12_joined_X12_puts rfl rfl rfl (by decide +kernel) ⟨Nat.le_of_ble_eq_true rfl, Nat.le_of_ble_eq_true rfl⟩) ⟨fun a U g mk q => by obtain ⟨q0, qK, qI⟩ := q; exact ⟨q0, va_K.moved (u := U) (U := U.calling g mk a) (Vm.Alike.refl U.vm) qK, qI⟩, va_recv hK (at_P hO) (ci := 12) (q0 := 0) rfl rfl, fun U hU hW => ⟨rfl, va_K.moved hW.alike hK, by rw [hU]; exact ⟨hI, hO⟩⟩⟩ rfl rfl hl.1 rfl (lv_room (Nat.le_of_ble_eq_true rfl)) dX12_joined_157 ⟨Nat.le_of_ble_eq_true rfl, Nat.le_of_ble_eq_true rfl⟩) hS (fun q _ h => h) (fun q h => h) (fun u t9 H locs ht hvm hw_42 hB hz1 hk1 hS => ?_)
            obtain ⟨-, hI, hO⟩ := hB
            rw [ht] at hI hO
            clear ht hvm hz1 hk1
            obtain ⟨u1, u2⟩ := u
            obtain ⟨t_44, h9, e1, e2⟩ := hw_42
            have ht_44 : t_44 = t + 1 := h9
            clear h9
            have hO : va_at (dC, dI) vwCl (o, .inr (12, mM am u1 u2)) H := hO
            rw [show u1 = fup (fup zi 26 t) 26 t_44 from e1, show u2 = zl from e2] at hO
            clear e1 e2
            have hO : va_at (dC, dI) vwCl (o, .inr (12, mM am (fup zi 26 t_44) zl)) H := hO
            refine lv_iinc (v := kz (i + 1)) (lv' := [(5, .int (kz (i + 1))), (4, .int (kz (v_9 - v_34))), (3, .int (kz v_6)), (2, .int (kz v_4)), (1, .int (kz k)), (0, .ref o)]) hx hb dX12_joined_160 hl (k := 0) rfl (kz_add i 1) (by decide) rfl (fun ls hl => ?_)
            refine lv_goto (tgt := 137) hx hb dX12_joined_163 (by decide) ?_
            exact ihn_38 (n_38 - 1) (by omega) (i + 1) t_44 _ _ _ ⟨by omega, by omega, by omega, by omega, by omega, lv_sub hl [0, 1, 2, 3, 4, 5] rfl, hI, hO, hS⟩
    · refine lv_iconst (v := kz 0) hx hb dX12_joined_33 rfl ?_
      refine lv_istore (lv' := [(4, .int (kz 0)), (3, .int (kz v_6)), (2, .int (kz v_4)), (1, .int (kz k)), (0, .ref o)]) hx hb dX12_joined_34 hl (by decide) rfl (fun ls hl => ?_)
      refine iz_loop2 (P := fun N9 i t H locs ls => 0 ≤ i ∧ i ≤ 4 ∧ 0 ≤ t ∧ t ≤ 12 * k + i ∧ 4 - i ≤ (N9 : Int) ∧ lv_has ls 6 [(4, .int (kz i)), (3, .int (kz v_6)), (2, .int (kz v_4)), (1, .int (kz k)), (0, .ref o)] ∧ iv (dC, dI) ca A X H ∧ va_at (dC, dI) vwCl (o, .inr (12, mM am (fup zi 26 t) zl)) H ∧ va_S A s.heap H locs) 100000 (x0 := 0) (x1 := t) ?_ ⟨by omega, by omega, by omega, by omega, by omega, lv_sub hl [0, 1, 2, 3, 4] rfl, hI, hO, hS⟩
      intro n_45 i t H locs ls ⟨n_45f0, n_45f1, n_45f2, n_45f3, n_45f4, hl, hI, hO, hS⟩ ihn_45
      refine lv_iload hx hb dX12_joined_36 (lv_at hl 0 rfl) ?_
      refine lv_aload_n hx hb dX12_joined_38 rfl (lv_at hl 4 rfl) ?_
      refine iz_get (D := (dC, dI)) (ci := 12) (v := .ref (am 13)) (C := RX12) (T := TX12) (N := 49) hx hb hts hin hown hK hO rfl 13 (by decide) hL42 (fun _ h9 => h9) rfl dX12_joined_39 ?_
      refine lv_iload_n hx hb dX12_joined_42 rfl (lv_at hl 1 rfl) ?_
      obtain ⟨f13_46, c_f13_46, k_f13_46⟩ := iv_o20 hI g13
      refine iz_iald hx hb hK 0 c_f13_46 rfl (by omega) (by decide) dX12_joined_43 ?_
      obtain ⟨v_47a, v_47b, v_47c⟩ := k_f13_46 v_6 (by omega)
      clear v_47c
      obtain ⟨v_47, ev_47⟩ : ∃ z9 : Int, ge1 f13_46 v_6 = z9 := ⟨_, rfl⟩
      rw [ev_47] at v_47a v_47b ⊢
      refine iz_ge (tgt := 83) hx hb dX12_joined_44 (by decide) (by unfold rg2; omega) (fun br_48 => ?_) (fun br_48 => ?_)
      · refine lv_aload_n hx hb dX12_joined_83 rfl (lv_at hl 4 rfl) ?_
        refine iz_get (D := (dC, dI)) (ci := 12) (v := .ref (am 4)) (C := RX12) (T := TX12) (N := 49) hx hb hts hin hown hK hO rfl 4 (by decide) hL16 (fun _ h9 => h9) rfl dX12_joined_84 ?_
        refine lv_iload_n hx hb dX12_joined_87 rfl (lv_at hl 2 rfl) ?_
        obtain ⟨f4_49, c_f4_49, k_f4_49⟩ := iv_o20 hI g4
        refine iz_iald hx hb hK 0 c_f4_49 rfl (by omega) (by decide) dX12_joined_88 ?_
        obtain ⟨v_50a, v_50b, v_50c⟩ := k_f4_49 v_4 (by omega)
        obtain ⟨v_50, ev_50⟩ : ∃ z9 : Int, ge1 f4_49 v_4 = z9 := ⟨_, rfl⟩
        rw [ev_50] at v_50a v_50b v_50c ⊢
        refine lv_iload_n hx hb dX12_joined_89 rfl (lv_at hl 3 rfl) ?_
        refine lv_iconst (v := kz 1) hx hb dX12_joined_90 rfl ?_
        refine iz_iadd hx hb dX12_joined_91 ?_
        refine lv_aload_n hx hb dX12_joined_92 rfl (lv_at hl 4 rfl) ?_
        refine iz_get (D := (dC, dI)) (ci := 12) (v := .int (kz (zi 22))) (C := RX12) (T := TX12) (N := 49) hx hb hts hin hown hK hO rfl 22 (by decide) hL155 (fun _ h9 => h9) rfl dX12_joined_93 ?_
        refine iz_ge (tgt := 126) hx hb dX12_joined_96 (by decide) (by unfold rg2; omega) (fun br_51 => ?_) (fun br_51 => ?_)
        · refine lv_iconst (v := kz 0) hx hb dX12_joined_126 rfl ?_
          refine iz_isub hx hb dX12_joined_127 ?_
          refine lv_istore (lv' := [(4, .int (kz (v_50 - 0))), (3, .int (kz v_6)), (2, .int (kz v_4)), (1, .int (kz k)), (0, .ref o)]) hx hb dX12_joined_128 hl (by decide) rfl (fun ls hl => ?_)
          refine lv_aload_n hx hb dX12_joined_130 rfl (lv_at hl 4 rfl) ?_
          refine lv_iload_n hx hb dX12_joined_131 rfl (lv_at hl 3 rfl) ?_
          refine vp_callSi (va_Run.run (va_runV (As := [.int (kz k)]) (rest := []) ⟨hx, hb, hml, hown, hts⟩ (m_cutOf l dC dI ca A X o am (fup zi 26 t) zl hM ⟨⟨z1a, z1b⟩, ⟨z2a, z2b⟩, ⟨z9a, z9b⟩, ⟨z20a, z20b⟩, ⟨z21a, z21b⟩, ⟨z22a, z22b⟩, ⟨by show (0 : Int) ≤ t; omega, by show t ≤ (480 : Int); omega⟩, ⟨z28a, z28b⟩, ⟨z34a, z34b⟩, ⟨z35a, z35b⟩, ⟨z38a, z38b⟩, ⟨z39a, z39b⟩, ⟨z46a, z46b⟩, by show zi 2 ≤ (X.2 (am 4) : Int); omega, by show zi 39 ≤ (X.2 (am 41) : Int); omega⟩ k (by omega)) (cwV 1 hts gX12_joined_X12_cutOf rfl rfl rfl (by decide +kernel) ⟨Nat.le_of_ble_eq_true rfl, Nat.le_of_ble_eq_true rfl⟩) ⟨fun a U g mk q => by obtain ⟨q0, qK, qI⟩ := q; exact ⟨q0, va_K.moved (u := U) (U := U.calling g mk a) (Vm.Alike.refl U.vm) qK, qI⟩, va_recv hK (at_P hO) (ci := 12) (q0 := 0) rfl rfl, fun U hU hW => ⟨rfl, va_K.moved hW.alike hK, by rw [hU]; exact ⟨hI, hO⟩⟩⟩ rfl rfl hl.1 rfl (lv_room (Nat.le_of_ble_eq_true rfl)) dX12_joined_132 ⟨Nat.le_of_ble_eq_true rfl, Nat.le_of_ble_eq_true rfl⟩)) (fun r_53 hw_52 => ?_)
          obtain ⟨z_54, rfl, z_54h⟩ := hw_52
          refine lv_istore (lv' := [(5, .int (kz z_54)), (4, .int (kz (v_50 - 0))), (3, .int (kz v_6)), (2, .int (kz v_4)), (1, .int (kz k)), (0, .ref o)]) hx hb dX12_joined_135 hl (by decide) rfl (fun ls hl => ?_)
          refine iz_loop2 (P := fun N9 i t H locs ls => 0 ≤ i ∧ i ≤ 8 ∧ 0 ≤ t ∧ t ≤ 12 * k + 4 + i ∧ 8 - i ≤ (N9 : Int) ∧ lv_has ls 6 [(5, .int (kz i)), (4, .int (kz (v_50 - 0))), (3, .int (kz v_6)), (2, .int (kz v_4)), (1, .int (kz k)), (0, .ref o)] ∧ iv (dC, dI) ca A X H ∧ va_at (dC, dI) vwCl (o, .inr (12, mM am (fup zi 26 t) zl)) H ∧ va_S A s.heap H locs) 100000 (x0 := z_54) (x1 := t) ?_ ⟨by omega, by omega, by omega, by omega, by omega, lv_sub hl [0, 1, 2, 3, 4, 5] rfl, hI, hO, hS⟩
          intro n_55 i t H locs ls ⟨n_55f0, n_55f1, n_55f2, n_55f3, n_55f4, hl, hI, hO, hS⟩ ihn_55
          refine lv_iload hx hb dX12_joined_137 (lv_at hl 0 rfl) ?_
          refine lv_iload hx hb dX12_joined_139 (lv_at hl 1 rfl) ?_
          refine iz_ge (tgt := 166) hx hb dX12_joined_141 (by decide) (by unfold rg2; omega) (fun br_56 => ?_) (fun br_56 => ?_)
          · refine lv_iinc (v := kz (k + 1)) (lv' := [(1, .int (kz (k + 1))), (5, .int (kz i)), (4, .int (kz (v_50 - 0))), (3, .int (kz v_6)), (2, .int (kz v_4)), (0, .ref o)]) hx hb dX12_joined_166 hl (k := 4) rfl (kz_add k 1) (by decide) rfl (fun ls hl => ?_)
            refine lv_goto (tgt := 7) hx hb dX12_joined_169 (by decide) ?_
            exact ihn_1 (n_1 - 1) (by omega) (k + 1) t _ _ _ ⟨by omega, by omega, by omega, by omega, by omega, lv_sub hl [0, 5] rfl, hI, hO, hS⟩
          · refine lv_aload_n hx hb dX12_joined_144 rfl (lv_at hl 5 rfl) ?_
            refine lv_aload_n hx hb dX12_joined_145 rfl (lv_at hl 5 rfl) ?_
            refine iz_get (D := (dC, dI)) (ci := 12) (v := .ref (am 3)) (C := RX12) (T := TX12) (N := 49) hx hb hts hin hown hK hO rfl 3 (by decide) hL13 (fun _ h9 => h9) rfl dX12_joined_146 ?_
            refine lv_bipush (v := kz 8) hx hb dX12_joined_149 (by decide) ?_
            refine lv_iload_n hx hb dX12_joined_151 rfl (lv_at hl 3 rfl) ?_
            refine iz_imul hx hb dX12_joined_152 ?_
            refine lv_iload hx hb dX12_joined_153 (lv_at hl 0 rfl) ?_
            refine iz_iadd hx hb dX12_joined_155 ?_
            obtain ⟨f3_57, c_f3_57⟩ := iv_o21 hI g3
            refine iz_bald hx hb hK 1 c_f3_57 rfl (by omega) (by decide) dX12_joined_156 ?_
            have v_58a := kz_lo (f3_57 (Int.toNat ((8 * v_4) + i)))
            have v_58b := kz_hi (f3_57 (Int.toNat ((8 * v_4) + i)))
            change _ ≤ ge1 f3_57 ((8 * v_4) + i) at v_58a
            change ge1 f3_57 ((8 * v_4) + i) ≤ _ at v_58b
            obtain ⟨v_58, ev_58⟩ : ∃ z9 : Int, ge1 f3_57 ((8 * v_4) + i) = z9 := ⟨_, rfl⟩
            rw [ev_58] at v_58a v_58b ⊢
            refine va_callv (va_runV (As := [.int (kz v_58)]) (rest := []) ⟨hx, hb, hml, hown, hts⟩ (m_puts l dC dI ca A X o am (fup zi 26 t) zl hM ⟨⟨z1a, z1b⟩, ⟨z2a, z2b⟩, ⟨z9a, z9b⟩, ⟨z20a, z20b⟩, ⟨z21a, z21b⟩, ⟨z22a, z22b⟩, ⟨by show (0 : Int) ≤ t; omega, by show t ≤ (480 : Int); omega⟩, ⟨z28a, z28b⟩, ⟨z34a, z34b⟩, ⟨z35a, z35b⟩, ⟨z38a, z38b⟩, ⟨z39a, z39b⟩, ⟨z46a, z46b⟩, by show zi 2 ≤ (X.2 (am 4) : Int); omega, by show zi 39 ≤ (X.2 (am 41) : Int); omega⟩ v_58 (by show t ≤ 479; omega)) (cwV 1 hts gX12_joined_X12_puts rfl rfl rfl (by decide +kernel) ⟨Nat.le_of_ble_eq_true rfl, Nat.le_of_ble_eq_true rfl⟩) ⟨fun a U g mk q => by obtain ⟨q0, qK, qI⟩ := q; exact ⟨q0, va_K.moved (u := U) (U := U.calling g mk a) (Vm.Alike.refl U.vm) qK, qI⟩, va_recv hK (at_P hO) (ci := 12) (q0 := 0) rfl rfl, fun U hU hW => ⟨rfl, va_K.moved hW.alike hK, by rw [hU]; exact ⟨hI, hO⟩⟩⟩ rfl rfl hl.1 rfl (lv_room (Nat.le_of_ble_eq_true rfl)) dX12_joined_157 ⟨Nat.le_of_ble_eq_true rfl, Nat.le_of_ble_eq_true rfl⟩) hS (fun q _ h => h) (fun q h => h) (fun u t9 H locs ht hvm hw_59 hB hz1 hk1 hS => ?_)
            obtain ⟨-, hI, hO⟩ := hB
            rw [ht] at hI hO
            clear ht hvm hz1 hk1
            obtain ⟨u1, u2⟩ := u
            obtain ⟨t_61, h9, e1, e2⟩ := hw_59
            have ht_61 : t_61 = t + 1 := h9
            clear h9
            have hO : va_at (dC, dI) vwCl (o, .inr (12, mM am u1 u2)) H := hO
            rw [show u1 = fup (fup zi 26 t) 26 t_61 from e1, show u2 = zl from e2] at hO
            clear e1 e2
            have hO : va_at (dC, dI) vwCl (o, .inr (12, mM am (fup zi 26 t_61) zl)) H := hO
            refine lv_iinc (v := kz (i + 1)) (lv' := [(5, .int (kz (i + 1))), (4, .int (kz (v_50 - 0))), (3, .int (kz v_6)), (2, .int (kz v_4)), (1, .int (kz k)), (0, .ref o)]) hx hb dX12_joined_160 hl (k := 0) rfl (kz_add i 1) (by decide) rfl (fun ls hl => ?_)
            refine lv_goto (tgt := 137) hx hb dX12_joined_163 (by decide) ?_
            exact ihn_55 (n_55 - 1) (by omega) (i + 1) t_61 _ _ _ ⟨by omega, by omega, by omega, by omega, by omega, lv_sub hl [0, 1, 2, 3, 4, 5] rfl, hI, hO, hS⟩
        · refine lv_aload_n hx hb dX12_joined_99 rfl (lv_at hl 4 rfl) ?_
          refine iz_get (D := (dC, dI)) (ci := 12) (v := .ref (am 24)) (C := RX12) (T := TX12) (N := 49) hx hb hts hin hown hK hO rfl 24 (by decide) hL70 (fun _ h9 => h9) rfl dX12_joined_100 ?_
          refine lv_iload_n hx hb dX12_joined_103 rfl (lv_at hl 3 rfl) ?_
          refine lv_iconst (v := kz 1) hx hb dX12_joined_104 rfl ?_
          refine iz_iadd hx hb dX12_joined_105 ?_
          obtain ⟨f24_62, c_f24_62, k_f24_62⟩ := iv_o20 hI g24
          refine iz_iald hx hb hK 0 c_f24_62 rfl (by omega) (by decide) dX12_joined_106 ?_
          obtain ⟨v_63a, v_63b, v_63c⟩ := k_f24_62 (k + 1) (by omega)
          clear v_63c
          obtain ⟨v_63, ev_63⟩ : ∃ z9 : Int, ge1 f24_62 (k + 1) = z9 := ⟨_, rfl⟩
          rw [ev_63] at v_63a v_63b ⊢
          refine iz_ltz (tgt := 126) hx hb dX12_joined_107 (by decide) (by unfold rg2; omega) (fun br_64 => ?_) (fun br_64 => ?_)
          · refine lv_iconst (v := kz 0) hx hb dX12_joined_126 rfl ?_
            refine iz_isub hx hb dX12_joined_127 ?_
            refine lv_istore (lv' := [(4, .int (kz (v_50 - 0))), (3, .int (kz v_6)), (2, .int (kz v_4)), (1, .int (kz k)), (0, .ref o)]) hx hb dX12_joined_128 hl (by decide) rfl (fun ls hl => ?_)
            refine lv_aload_n hx hb dX12_joined_130 rfl (lv_at hl 4 rfl) ?_
            refine lv_iload_n hx hb dX12_joined_131 rfl (lv_at hl 3 rfl) ?_
            refine vp_callSi (va_Run.run (va_runV (As := [.int (kz k)]) (rest := []) ⟨hx, hb, hml, hown, hts⟩ (m_cutOf l dC dI ca A X o am (fup zi 26 t) zl hM ⟨⟨z1a, z1b⟩, ⟨z2a, z2b⟩, ⟨z9a, z9b⟩, ⟨z20a, z20b⟩, ⟨z21a, z21b⟩, ⟨z22a, z22b⟩, ⟨by show (0 : Int) ≤ t; omega, by show t ≤ (480 : Int); omega⟩, ⟨z28a, z28b⟩, ⟨z34a, z34b⟩, ⟨z35a, z35b⟩, ⟨z38a, z38b⟩, ⟨z39a, z39b⟩, ⟨z46a, z46b⟩, by show zi 2 ≤ (X.2 (am 4) : Int); omega, by show zi 39 ≤ (X.2 (am 41) : Int); omega⟩ k (by omega)) (cwV 1 hts gX12_joined_X12_cutOf rfl rfl rfl (by decide +kernel) ⟨Nat.le_of_ble_eq_true rfl, Nat.le_of_ble_eq_true rfl⟩) ⟨fun a U g mk q => by obtain ⟨q0, qK, qI⟩ := q; exact ⟨q0, va_K.moved (u := U) (U := U.calling g mk a) (Vm.Alike.refl U.vm) qK, qI⟩, va_recv hK (at_P hO) (ci := 12) (q0 := 0) rfl rfl, fun U hU hW => ⟨rfl, va_K.moved hW.alike hK, by rw [hU]; exact ⟨hI, hO⟩⟩⟩ rfl rfl hl.1 rfl (lv_room (Nat.le_of_ble_eq_true rfl)) dX12_joined_132 ⟨Nat.le_of_ble_eq_true rfl, Nat.le_of_ble_eq_true rfl⟩)) (fun r_66 hw_65 => ?_)
            obtain ⟨z_67, rfl, z_67h⟩ := hw_65
            refine lv_istore (lv' := [(5, .int (kz z_67)), (4, .int (kz (v_50 - 0))), (3, .int (kz v_6)), (2, .int (kz v_4)), (1, .int (kz k)), (0, .ref o)]) hx hb dX12_joined_135 hl (by decide) rfl (fun ls hl => ?_)
            refine iz_loop2 (P := fun N9 i t H locs ls => 0 ≤ i ∧ i ≤ 8 ∧ 0 ≤ t ∧ t ≤ 12 * k + 4 + i ∧ 8 - i ≤ (N9 : Int) ∧ lv_has ls 6 [(5, .int (kz i)), (4, .int (kz (v_50 - 0))), (3, .int (kz v_6)), (2, .int (kz v_4)), (1, .int (kz k)), (0, .ref o)] ∧ iv (dC, dI) ca A X H ∧ va_at (dC, dI) vwCl (o, .inr (12, mM am (fup zi 26 t) zl)) H ∧ va_S A s.heap H locs) 100000 (x0 := z_67) (x1 := t) ?_ ⟨by omega, by omega, by omega, by omega, by omega, lv_sub hl [0, 1, 2, 3, 4, 5] rfl, hI, hO, hS⟩
            intro n_68 i t H locs ls ⟨n_68f0, n_68f1, n_68f2, n_68f3, n_68f4, hl, hI, hO, hS⟩ ihn_68
            refine lv_iload hx hb dX12_joined_137 (lv_at hl 0 rfl) ?_
            refine lv_iload hx hb dX12_joined_139 (lv_at hl 1 rfl) ?_
            refine iz_ge (tgt := 166) hx hb dX12_joined_141 (by decide) (by unfold rg2; omega) (fun br_69 => ?_) (fun br_69 => ?_)
            · refine lv_iinc (v := kz (k + 1)) (lv' := [(1, .int (kz (k + 1))), (5, .int (kz i)), (4, .int (kz (v_50 - 0))), (3, .int (kz v_6)), (2, .int (kz v_4)), (0, .ref o)]) hx hb dX12_joined_166 hl (k := 4) rfl (kz_add k 1) (by decide) rfl (fun ls hl => ?_)
              refine lv_goto (tgt := 7) hx hb dX12_joined_169 (by decide) ?_
              exact ihn_1 (n_1 - 1) (by omega) (k + 1) t _ _ _ ⟨by omega, by omega, by omega, by omega, by omega, lv_sub hl [0, 5] rfl, hI, hO, hS⟩
            · refine lv_aload_n hx hb dX12_joined_144 rfl (lv_at hl 5 rfl) ?_
              refine lv_aload_n hx hb dX12_joined_145 rfl (lv_at hl 5 rfl) ?_
              refine iz_get (D := (dC, dI)) (ci := 12) (v := .ref (am 3)) (C := RX12) (T := TX12) (N := 49) hx hb hts hin hown hK hO rfl 3 (by decide) hL13 (fun _ h9 => h9) rfl dX12_joined_146 ?_
              refine lv_bipush (v := kz 8) hx hb dX12_joined_149 (by decide) ?_
              refine lv_iload_n hx hb dX12_joined_151 rfl (lv_at hl 3 rfl) ?_
              refine iz_imul hx hb dX12_joined_152 ?_
              refine lv_iload hx hb dX12_joined_153 (lv_at hl 0 rfl) ?_
              refine iz_iadd hx hb dX12_joined_155 ?_
              obtain ⟨f3_70, c_f3_70⟩ := iv_o21 hI g3
              refine iz_bald hx hb hK 1 c_f3_70 rfl (by omega) (by decide) dX12_joined_156 ?_
              have v_71a := kz_lo (f3_70 (Int.toNat ((8 * v_4) + i)))
              have v_71b := kz_hi (f3_70 (Int.toNat ((8 * v_4) + i)))
              change _ ≤ ge1 f3_70 ((8 * v_4) + i) at v_71a
              change ge1 f3_70 ((8 * v_4) + i) ≤ _ at v_71b
              obtain ⟨v_71, ev_71⟩ : ∃ z9 : Int, ge1 f3_70 ((8 * v_4) + i) = z9 := ⟨_, rfl⟩
              rw [ev_71] at v_71a v_71b ⊢
              refine va_callv (va_runV (As := [.int (kz v_71)]) (rest := []) ⟨hx, hb, hml, hown, hts⟩ (m_puts l dC dI ca A X o am (fup zi 26 t) zl hM ⟨⟨z1a, z1b⟩, ⟨z2a, z2b⟩, ⟨z9a, z9b⟩, ⟨z20a, z20b⟩, ⟨z21a, z21b⟩, ⟨z22a, z22b⟩, ⟨by show (0 : Int) ≤ t; omega, by show t ≤ (480 : Int); omega⟩, ⟨z28a, z28b⟩, ⟨z34a, z34b⟩, ⟨z35a, z35b⟩, ⟨z38a, z38b⟩, ⟨z39a, z39b⟩, ⟨z46a, z46b⟩, by show zi 2 ≤ (X.2 (am 4) : Int); omega, by show zi 39 ≤ (X.2 (am 41) : Int); omega⟩ v_71 (by show t ≤ 479; omega)) (cwV 1 hts gX12_joined_X12_puts rfl rfl rfl (by decide +kernel) ⟨Nat.le_of_ble_eq_true rfl, Nat.le_of_ble_eq_true rfl⟩) ⟨fun a U g mk q => by obtain ⟨q0, qK, qI⟩ := q; exact ⟨q0, va_K.moved (u := U) (U := U.calling g mk a) (Vm.Alike.refl U.vm) qK, qI⟩, va_recv hK (at_P hO) (ci := 12) (q0 := 0) rfl rfl, fun U hU hW => ⟨rfl, va_K.moved hW.alike hK, by rw [hU]; exact ⟨hI, hO⟩⟩⟩ rfl rfl hl.1 rfl (lv_room (Nat.le_of_ble_eq_true rfl)) dX12_joined_157 ⟨Nat.le_of_ble_eq_true rfl, Nat.le_of_ble_eq_true rfl⟩) hS (fun q _ h => h) (fun q h => h) (fun u t9 H locs ht hvm hw_72 hB hz1 hk1 hS => ?_)
              obtain ⟨-, hI, hO⟩ := hB
              rw [ht] at hI hO
              clear ht hvm hz1 hk1
              obtain ⟨u1, u2⟩ := u
              obtain ⟨t_74, h9, e1, e2⟩ := hw_72
              have ht_74 : t_74 = t + 1 := h9
              clear h9
              have hO : va_at (dC, dI) vwCl (o, .inr (12, mM am u1 u2)) H := hO
              rw [show u1 = fup (fup zi 26 t) 26 t_74 from e1, show u2 = zl from e2] at hO
              clear e1 e2
              have hO : va_at (dC, dI) vwCl (o, .inr (12, mM am (fup zi 26 t_74) zl)) H := hO
              refine lv_iinc (v := kz (i + 1)) (lv' := [(5, .int (kz (i + 1))), (4, .int (kz (v_50 - 0))), (3, .int (kz v_6)), (2, .int (kz v_4)), (1, .int (kz k)), (0, .ref o)]) hx hb dX12_joined_160 hl (k := 0) rfl (kz_add i 1) (by decide) rfl (fun ls hl => ?_)
              refine lv_goto (tgt := 137) hx hb dX12_joined_163 (by decide) ?_
              exact ihn_68 (n_68 - 1) (by omega) (i + 1) t_74 _ _ _ ⟨by omega, by omega, by omega, by omega, by omega, lv_sub hl [0, 1, 2, 3, 4, 5] rfl, hI, hO, hS⟩
          · refine lv_aload_n hx hb dX12_joined_110 rfl (lv_at hl 4 rfl) ?_
            refine iz_get (D := (dC, dI)) (ci := 12) (v := .ref (am 11)) (C := RX12) (T := TX12) (N := 49) hx hb hts hin hown hK hO rfl 11 (by decide) hL36 (fun _ h9 => h9) rfl dX12_joined_111 ?_
            refine lv_aload_n hx hb dX12_joined_114 rfl (lv_at hl 4 rfl) ?_
            refine iz_get (D := (dC, dI)) (ci := 12) (v := .ref (am 24)) (C := RX12) (T := TX12) (N := 49) hx hb hts hin hown hK hO rfl 24 (by decide) hL70 (fun _ h9 => h9) rfl dX12_joined_115 ?_
            refine lv_iload_n hx hb dX12_joined_118 rfl (lv_at hl 3 rfl) ?_
            refine lv_iconst (v := kz 1) hx hb dX12_joined_119 rfl ?_
            refine iz_iadd hx hb dX12_joined_120 ?_
            refine iz_iald hx hb hK 0 c_f24_62 rfl (by omega) (by decide) dX12_joined_121 ?_
            rw [ev_63]
            obtain ⟨f11_75, c_f11_75, k_f11_75⟩ := iv_o20 hI g11
            refine iz_iald hx hb hK 0 c_f11_75 rfl (by omega) (by decide) dX12_joined_122 ?_
            obtain ⟨v_76a, v_76b, v_76c⟩ := k_f11_75 v_63 (by omega)
            clear v_76c
            obtain ⟨v_76, ev_76⟩ : ∃ z9 : Int, ge1 f11_75 v_63 = z9 := ⟨_, rfl⟩
            rw [ev_76] at v_76a v_76b ⊢
            refine lv_goto (tgt := 127) hx hb dX12_joined_123 (by decide) ?_
            refine iz_isub hx hb dX12_joined_127 ?_
            refine lv_istore (lv' := [(4, .int (kz (v_50 - v_76))), (3, .int (kz v_6)), (2, .int (kz v_4)), (1, .int (kz k)), (0, .ref o)]) hx hb dX12_joined_128 hl (by decide) rfl (fun ls hl => ?_)
            refine lv_aload_n hx hb dX12_joined_130 rfl (lv_at hl 4 rfl) ?_
            refine lv_iload_n hx hb dX12_joined_131 rfl (lv_at hl 3 rfl) ?_
            refine vp_callSi (va_Run.run (va_runV (As := [.int (kz k)]) (rest := []) ⟨hx, hb, hml, hown, hts⟩ (m_cutOf l dC dI ca A X o am (fup zi 26 t) zl hM ⟨⟨z1a, z1b⟩, ⟨z2a, z2b⟩, ⟨z9a, z9b⟩, ⟨z20a, z20b⟩, ⟨z21a, z21b⟩, ⟨z22a, z22b⟩, ⟨by show (0 : Int) ≤ t; omega, by show t ≤ (480 : Int); omega⟩, ⟨z28a, z28b⟩, ⟨z34a, z34b⟩, ⟨z35a, z35b⟩, ⟨z38a, z38b⟩, ⟨z39a, z39b⟩, ⟨z46a, z46b⟩, by show zi 2 ≤ (X.2 (am 4) : Int); omega, by show zi 39 ≤ (X.2 (am 41) : Int); omega⟩ k (by omega)) (cwV 1 hts gX12_joined_X12_cutOf rfl rfl rfl (by decide +kernel) ⟨Nat.le_of_ble_eq_true rfl, Nat.le_of_ble_eq_true rfl⟩) ⟨fun a U g mk q => by obtain ⟨q0, qK, qI⟩ := q; exact ⟨q0, va_K.moved (u := U) (U := U.calling g mk a) (Vm.Alike.refl U.vm) qK, qI⟩, va_recv hK (at_P hO) (ci := 12) (q0 := 0) rfl rfl, fun U hU hW => ⟨rfl, va_K.moved hW.alike hK, by rw [hU]; exact ⟨hI, hO⟩⟩⟩ rfl rfl hl.1 rfl (lv_room (Nat.le_of_ble_eq_true rfl)) dX12_joined_132 ⟨Nat.le_of_ble_eq_true rfl, Nat.le_of_ble_eq_true rfl⟩)) (fun r_78 hw_77 => ?_)
            obtain ⟨z_79, rfl, z_79h⟩ := hw_77
            refine lv_istore (lv' := [(5, .int (kz z_79)), (4, .int (kz (v_50 - v_76))), (3, .int (kz v_6)), (2, .int (kz v_4)), (1, .int (kz k)), (0, .ref o)]) hx hb dX12_joined_135 hl (by decide) rfl (fun ls hl => ?_)
            refine iz_loop2 (P := fun N9 i t H locs ls => 0 ≤ i ∧ i ≤ 8 ∧ 0 ≤ t ∧ t ≤ 12 * k + 4 + i ∧ 8 - i ≤ (N9 : Int) ∧ lv_has ls 6 [(5, .int (kz i)), (4, .int (kz (v_50 - v_76))), (3, .int (kz v_6)), (2, .int (kz v_4)), (1, .int (kz k)), (0, .ref o)] ∧ iv (dC, dI) ca A X H ∧ va_at (dC, dI) vwCl (o, .inr (12, mM am (fup zi 26 t) zl)) H ∧ va_S A s.heap H locs) 100000 (x0 := z_79) (x1 := t) ?_ ⟨by omega, by omega, by omega, by omega, by omega, lv_sub hl [0, 1, 2, 3, 4, 5] rfl, hI, hO, hS⟩
            intro n_80 i t H locs ls ⟨n_80f0, n_80f1, n_80f2, n_80f3, n_80f4, hl, hI, hO, hS⟩ ihn_80
            refine lv_iload hx hb dX12_joined_137 (lv_at hl 0 rfl) ?_
            refine lv_iload hx hb dX12_joined_139 (lv_at hl 1 rfl) ?_
            refine iz_ge (tgt := 166) hx hb dX12_joined_141 (by decide) (by unfold rg2; omega) (fun br_81 => ?_) (fun br_81 => ?_)
            · refine lv_iinc (v := kz (k + 1)) (lv' := [(1, .int (kz (k + 1))), (5, .int (kz i)), (4, .int (kz (v_50 - v_76))), (3, .int (kz v_6)), (2, .int (kz v_4)), (0, .ref o)]) hx hb dX12_joined_166 hl (k := 4) rfl (kz_add k 1) (by decide) rfl (fun ls hl => ?_)
              refine lv_goto (tgt := 7) hx hb dX12_joined_169 (by decide) ?_
              exact ihn_1 (n_1 - 1) (by omega) (k + 1) t _ _ _ ⟨by omega, by omega, by omega, by omega, by omega, lv_sub hl [0, 5] rfl, hI, hO, hS⟩
            · refine lv_aload_n hx hb dX12_joined_144 rfl (lv_at hl 5 rfl) ?_
              refine lv_aload_n hx hb dX12_joined_145 rfl (lv_at hl 5 rfl) ?_
              refine iz_get (D := (dC, dI)) (ci := 12) (v := .ref (am 3)) (C := RX12) (T := TX12) (N := 49) hx hb hts hin hown hK hO rfl 3 (by decide) hL13 (fun _ h9 => h9) rfl dX12_joined_146 ?_
              refine lv_bipush (v := kz 8) hx hb dX12_joined_149 (by decide) ?_
              refine lv_iload_n hx hb dX12_joined_151 rfl (lv_at hl 3 rfl) ?_
              refine iz_imul hx hb dX12_joined_152 ?_
              refine lv_iload hx hb dX12_joined_153 (lv_at hl 0 rfl) ?_
              refine iz_iadd hx hb dX12_joined_155 ?_
              obtain ⟨f3_82, c_f3_82⟩ := iv_o21 hI g3
              refine iz_bald hx hb hK 1 c_f3_82 rfl (by omega) (by decide) dX12_joined_156 ?_
              have v_83a := kz_lo (f3_82 (Int.toNat ((8 * v_4) + i)))
              have v_83b := kz_hi (f3_82 (Int.toNat ((8 * v_4) + i)))
              change _ ≤ ge1 f3_82 ((8 * v_4) + i) at v_83a
              change ge1 f3_82 ((8 * v_4) + i) ≤ _ at v_83b
              obtain ⟨v_83, ev_83⟩ : ∃ z9 : Int, ge1 f3_82 ((8 * v_4) + i) = z9 := ⟨_, rfl⟩
              rw [ev_83] at v_83a v_83b ⊢
              refine va_callv (va_runV (As := [.int (kz v_83)]) (rest := []) ⟨hx, hb, hml, hown, hts⟩ (m_puts l dC dI ca A X o am (fup zi 26 t) zl hM ⟨⟨z1a, z1b⟩, ⟨z2a, z2b⟩, ⟨z9a, z9b⟩, ⟨z20a, z20b⟩, ⟨z21a, z21b⟩, ⟨z22a, z22b⟩, ⟨by show (0 : Int) ≤ t; omega, by show t ≤ (480 : Int); omega⟩, ⟨z28a, z28b⟩, ⟨z34a, z34b⟩, ⟨z35a, z35b⟩, ⟨z38a, z38b⟩, ⟨z39a, z39b⟩, ⟨z46a, z46b⟩, by show zi 2 ≤ (X.2 (am 4) : Int); omega, by show zi 39 ≤ (X.2 (am 41) : Int); omega⟩ v_83 (by show t ≤ 479; omega)) (cwV 1 hts gX12_joined_X12_puts rfl rfl rfl (by decide +kernel) ⟨Nat.le_of_ble_eq_true rfl, Nat.le_of_ble_eq_true rfl⟩) ⟨fun a U g mk q => by obtain ⟨q0, qK, qI⟩ := q; exact ⟨q0, va_K.moved (u := U) (U := U.calling g mk a) (Vm.Alike.refl U.vm) qK, qI⟩, va_recv hK (at_P hO) (ci := 12) (q0 := 0) rfl rfl, fun U hU hW => ⟨rfl, va_K.moved hW.alike hK, by rw [hU]; exact ⟨hI, hO⟩⟩⟩ rfl rfl hl.1 rfl (lv_room (Nat.le_of_ble_eq_true rfl)) dX12_joined_157 ⟨Nat.le_of_ble_eq_true rfl, Nat.le_of_ble_eq_true rfl⟩) hS (fun q _ h => h) (fun q h => h) (fun u t9 H locs ht hvm hw_84 hB hz1 hk1 hS => ?_)
              obtain ⟨-, hI, hO⟩ := hB
              rw [ht] at hI hO
              clear ht hvm hz1 hk1
              obtain ⟨u1, u2⟩ := u
              obtain ⟨t_86, h9, e1, e2⟩ := hw_84
              have ht_86 : t_86 = t + 1 := h9
              clear h9
              have hO : va_at (dC, dI) vwCl (o, .inr (12, mM am u1 u2)) H := hO
              rw [show u1 = fup (fup zi 26 t) 26 t_86 from e1, show u2 = zl from e2] at hO
              clear e1 e2
              have hO : va_at (dC, dI) vwCl (o, .inr (12, mM am (fup zi 26 t_86) zl)) H := hO
              refine lv_iinc (v := kz (i + 1)) (lv' := [(5, .int (kz (i + 1))), (4, .int (kz (v_50 - v_76))), (3, .int (kz v_6)), (2, .int (kz v_4)), (1, .int (kz k)), (0, .ref o)]) hx hb dX12_joined_160 hl (k := 0) rfl (kz_add i 1) (by decide) rfl (fun ls hl => ?_)
              refine lv_goto (tgt := 137) hx hb dX12_joined_163 (by decide) ?_
              exact ihn_80 (n_80 - 1) (by omega) (i + 1) t_86 _ _ _ ⟨by omega, by omega, by omega, by omega, by omega, lv_sub hl [0, 1, 2, 3, 4, 5] rfl, hI, hO, hS⟩
      · refine lv_aload_n hx hb dX12_joined_47 rfl (lv_at hl 4 rfl) ?_
        refine lv_aload_n hx hb dX12_joined_48 rfl (lv_at hl 4 rfl) ?_
        refine iz_get (D := (dC, dI)) (ci := 12) (v := .ref (am 10)) (C := RX12) (T := TX12) (N := 49) hx hb hts hin hown hK hO rfl 10 (by decide) hL33 (fun _ h9 => h9) rfl dX12_joined_49 ?_
        refine lv_bipush (v := kz 10) hx hb dX12_joined_52 (by decide) ?_
        refine lv_iload_n hx hb dX12_joined_54 rfl (lv_at hl 1 rfl) ?_
        refine iz_imul hx hb dX12_joined_55 ?_
        refine lv_aload_n hx hb dX12_joined_56 rfl (lv_at hl 4 rfl) ?_
        refine iz_get (D := (dC, dI)) (ci := 12) (v := .ref (am 11)) (C := RX12) (T := TX12) (N := 49) hx hb hts hin hown hK hO rfl 11 (by decide) hL36 (fun _ h9 => h9) rfl dX12_joined_57 ?_
        refine lv_iload_n hx hb dX12_joined_60 rfl (lv_at hl 1 rfl) ?_
        obtain ⟨f11_87, c_f11_87, k_f11_87⟩ := iv_o20 hI g11
        refine iz_iald hx hb hK 0 c_f11_87 rfl (by omega) (by decide) dX12_joined_61 ?_
        obtain ⟨v_88a, v_88b, v_88c⟩ := k_f11_87 v_6 (by omega)
        clear v_88c
        obtain ⟨v_88, ev_88⟩ : ∃ z9 : Int, ge1 f11_87 v_6 = z9 := ⟨_, rfl⟩
        rw [ev_88] at v_88a v_88b ⊢
        refine iz_iadd hx hb dX12_joined_62 ?_
        refine lv_aload_n hx hb dX12_joined_63 rfl (lv_at hl 4 rfl) ?_
        refine iz_get (D := (dC, dI)) (ci := 12) (v := .ref (am 12)) (C := RX12) (T := TX12) (N := 49) hx hb hts hin hown hK hO rfl 12 (by decide) hL39 (fun _ h9 => h9) rfl dX12_joined_64 ?_
        refine lv_iload_n hx hb dX12_joined_67 rfl (lv_at hl 1 rfl) ?_
        obtain ⟨f12_89, c_f12_89, k_f12_89⟩ := iv_o20 hI g12
        refine iz_iald hx hb hK 0 c_f12_89 rfl (by omega) (by decide) dX12_joined_68 ?_
        obtain ⟨v_90a, v_90b, v_90c⟩ := k_f12_89 v_6 (by omega)
        clear v_90c
        obtain ⟨v_90, ev_90⟩ : ∃ z9 : Int, ge1 f12_89 v_6 = z9 := ⟨_, rfl⟩
        rw [ev_90] at v_90a v_90b ⊢
        refine iz_iadd hx hb dX12_joined_69 ?_
        refine lv_iload hx hb dX12_joined_70 (lv_at hl 0 rfl) ?_
        refine iz_iadd hx hb dX12_joined_72 ?_
        obtain ⟨f10_91, c_f10_91⟩ := iv_o21 hI g10
        refine iz_bald hx hb hK 1 c_f10_91 rfl (by omega) (by decide) dX12_joined_73 ?_
        have v_92a := kz_lo (f10_91 (Int.toNat ((((10 * v_6) + v_88) + v_90) + i)))
        have v_92b := kz_hi (f10_91 (Int.toNat ((((10 * v_6) + v_88) + v_90) + i)))
        change _ ≤ ge1 f10_91 ((((10 * v_6) + v_88) + v_90) + i) at v_92a
        change ge1 f10_91 ((((10 * v_6) + v_88) + v_90) + i) ≤ _ at v_92b
        obtain ⟨v_92, ev_92⟩ : ∃ z9 : Int, ge1 f10_91 ((((10 * v_6) + v_88) + v_90) + i) = z9 := ⟨_, rfl⟩
        rw [ev_92] at v_92a v_92b ⊢
        refine va_callv (va_runV (As := [.int (kz v_92)]) (rest := []) ⟨hx, hb, hml, hown, hts⟩ (m_puts l dC dI ca A X o am (fup zi 26 t) zl hM ⟨⟨z1a, z1b⟩, ⟨z2a, z2b⟩, ⟨z9a, z9b⟩, ⟨z20a, z20b⟩, ⟨z21a, z21b⟩, ⟨z22a, z22b⟩, ⟨by show (0 : Int) ≤ t; omega, by show t ≤ (480 : Int); omega⟩, ⟨z28a, z28b⟩, ⟨z34a, z34b⟩, ⟨z35a, z35b⟩, ⟨z38a, z38b⟩, ⟨z39a, z39b⟩, ⟨z46a, z46b⟩, by show zi 2 ≤ (X.2 (am 4) : Int); omega, by show zi 39 ≤ (X.2 (am 41) : Int); omega⟩ v_92 (by show t ≤ 479; omega)) (cwV 1 hts gX12_joined_X12_puts rfl rfl rfl (by decide +kernel) ⟨Nat.le_of_ble_eq_true rfl, Nat.le_of_ble_eq_true rfl⟩) ⟨fun a U g mk q => by obtain ⟨q0, qK, qI⟩ := q; exact ⟨q0, va_K.moved (u := U) (U := U.calling g mk a) (Vm.Alike.refl U.vm) qK, qI⟩, va_recv hK (at_P hO) (ci := 12) (q0 := 0) rfl rfl, fun U hU hW => ⟨rfl, va_K.moved hW.alike hK, by rw [hU]; exact ⟨hI, hO⟩⟩⟩ rfl rfl hl.1 rfl (lv_room (Nat.le_of_ble_eq_true rfl)) dX12_joined_74 ⟨Nat.le_of_ble_eq_true rfl, Nat.le_of_ble_eq_true rfl⟩) hS (fun q _ h => h) (fun q h => h) (fun u t9 H locs ht hvm hw_93 hB hz1 hk1 hS => ?_)
        obtain ⟨-, hI, hO⟩ := hB
        rw [ht] at hI hO
        clear ht hvm hz1 hk1
        obtain ⟨u1, u2⟩ := u
        obtain ⟨t_95, h9, e1, e2⟩ := hw_93
        have ht_95 : t_95 = t + 1 := h9
        clear h9
        have hO : va_at (dC, dI) vwCl (o, .inr (12, mM am u1 u2)) H := hO
        rw [show u1 = fup (fup zi 26 t) 26 t_95 from e1, show u2 = zl from e2] at hO
        clear e1 e2
        have hO : va_at (dC, dI) vwCl (o, .inr (12, mM am (fup zi 26 t_95) zl)) H := hO
        refine lv_iinc (v := kz (i + 1)) (lv' := [(4, .int (kz (i + 1))), (3, .int (kz v_6)), (2, .int (kz v_4)), (1, .int (kz k)), (0, .ref o)]) hx hb dX12_joined_77 hl (k := 0) rfl (kz_add i 1) (by decide) rfl (fun ls hl => ?_)
        refine lv_goto (tgt := 36) hx hb dX12_joined_80 (by decide) ?_
        exact ihn_45 (n_45 - 1) (by omega) (i + 1) t_95 _ _ _ ⟨by omega, by omega, by omega, by omega, by omega, lv_sub hl [0, 1, 2, 3, 4] rfl, hI, hO, hS⟩
set_option maxHeartbeats 4000000 in
set_option maxRecDepth 100000 in
/-- X12_letter -/
theorem m_letter (l : Launch) (dC : Nat → ClassId) (dI : Nat → Nat → Nat) (ca : Nat → ClassId) (A : Nat → Prop) (X : kGh) (o : Nat) (am : Nat → Nat) (zi : Nat → Int) (zl : Nat → Int64) (hM : mS X A o am) (hz : mZ X am zi) (i1 : Int) (i1r : -2147483648 ≤ i1 ∧ i1 ≤ 2147483647) : Met l yX12_letter wsX12_letter ({ frames := 1, cells := 0, slots := 0, locals := 22 }) (va_Pc [.ref o, .int (kz i1)] (fun U => va_K (dC, dI) vwCl (k_tys ca) U ∧ mI (dC, dI) ca A X o am zi zl U.heap)) (vp_Si (fun r => True)) 0 0 (fun _ => False) := by
  refine Met.ofW (cc := cX12_letter) (maxL := 2) (ret := (some .int)) (by decide) rfl ?_
  intro p e s m args below meth c s₁ B hml hv
  obtain ⟨rfl, hK, hI, hO⟩ := hv
  have hx := B.exec
  have hb := B.bytes
  have hr := B.returns
  have hts := atoms_spec (ws := wsX12_letter) B.pre
  have hown : s.vm.findClass RX12 = some m.cls := findClass_of_methodNamed B.named
  have hin : ∀ w ∈ u_ws RX12 TX12 49, w ∈ wsX12_letter := by decide +kernel
  have hL169 := hts (.fieldLink RX12 169 "JoinBenchModel" "outMany" "I") (by decide +kernel)
  have hL73 := hts (.fieldLink RX12 73 "JoinBenchModel" "out" "[B") (by decide +kernel)
  have g25 : X.1 (am 25) = (125, 21, 480, 0, 0) := hM.1 25 _ rfl (by decide)
  obtain ⟨⟨z1a, z1b⟩, ⟨z2a, z2b⟩, ⟨z9a, z9b⟩, ⟨z20a, z20b⟩, ⟨z21a, z21b⟩, ⟨z22a, z22b⟩, ⟨z26a, z26b⟩, ⟨z28a, z28b⟩, ⟨z34a, z34b⟩, ⟨z35a, z35b⟩, ⟨z38a, z38b⟩, ⟨z39a, z39b⟩, ⟨z46a, z46b⟩, hzA, hzB⟩ := id hz
  have hl := lv_entry ([.ref o, .int (kz i1)]) (n := 2) (Nat.le_of_ble_eq_true rfl)
  rw [lg_entry_eq]
  generalize (lg_sl ([.ref o, .int (kz i1)]) ++ List.replicate (2 - (lg_sl ([.ref o, .int (kz i1)])).length) Slot.unset).toArray = ls at hl ⊢
  have hl : lv_has ls 2 [(0, .ref o), (1, .int (kz i1))] := hl
  refine lv_iload_n hx hb dX12_letter_0 rfl (lv_at hl 1 rfl) ?_
  refine lv_iconst (v := kz 0) hx hb dX12_letter_1 rfl ?_
  refine lv_aload_n hx hb dX12_letter_2 rfl (lv_at hl 0 rfl) ?_
  refine iz_get (D := (dC, dI)) (ci := 12) (v := .int (kz (zi 26))) (C := RX12) (T := TX12) (N := 49) hx hb hts hin hown hK hO rfl 26 (by decide) hL169 (fun _ h9 => h9) rfl dX12_letter_3 ?_
  refine lv_iconst (v := kz 1) hx hb dX12_letter_6 rfl ?_
  refine iz_isub hx hb dX12_letter_7 ?_
  refine vp_callSi (va_Run.run (va_runS (As := [.int (kz i1), .int (kz 0), .int (kz (zi 26 - 1))]) (rest := []) ⟨hx, hb, hml, hown, hts⟩ (m_in l i1 0 (zi 26 - 1) (by omega) (by omega) (by omega)) (va_cwS 3 hts gX12_letter_X12_in rfl rfl rfl (by decide +kernel) ⟨Nat.le_of_ble_eq_true rfl, Nat.le_of_ble_eq_true rfl⟩) ⟨fun a U g mk q => q, fun U hU hW => ⟨rfl, trivial⟩⟩ rfl rfl hl.1 rfl (lv_room (Nat.le_of_ble_eq_true rfl)) dX12_letter_8 ⟨Nat.le_of_ble_eq_true rfl, Nat.le_of_ble_eq_true rfl⟩)) (fun r_2 hw_1 => ?_)
  rcases hw_1 with ⟨rfl, hw_1⟩ | ⟨rfl, hw_1⟩
  · refine iz_eqz (tgt := 23) hx hb dX12_letter_11 (by decide) (by unfold rg2; omega) (fun q9 => absurd q9 (by decide)) (fun _ => ?_)
    refine lv_aload_n hx hb dX12_letter_14 rfl (lv_at hl 0 rfl) ?_
    refine iz_get (D := (dC, dI)) (ci := 12) (v := .ref (am 25)) (C := RX12) (T := TX12) (N := 49) hx hb hts hin hown hK hO rfl 25 (by decide) hL73 (fun _ h9 => h9) rfl dX12_letter_15 ?_
    refine lv_iload_n hx hb dX12_letter_18 rfl (lv_at hl 1 rfl) ?_
    obtain ⟨f25_3, c_f25_3⟩ := iv_o21 hI g25
    refine iz_bald hx hb hK 1 c_f25_3 rfl (by omega) (by decide) dX12_letter_19 ?_
    have v_4a := kz_lo (f25_3 (Int.toNat i1))
    have v_4b := kz_hi (f25_3 (Int.toNat i1))
    change _ ≤ ge1 f25_3 i1 at v_4a
    change ge1 f25_3 i1 ≤ _ at v_4b
    obtain ⟨v_4, ev_4⟩ : ∃ z9 : Int, ge1 f25_3 i1 = z9 := ⟨_, rfl⟩
    rw [ev_4] at v_4a v_4b ⊢
    refine lv_goto (tgt := 24) hx hb dX12_letter_20 (by decide) ?_
    exact W.iret (v := kz v_4) hx hb hr (fun t9 ht hW => ⟨kz v_4, rfl, trivial, ht⟩) (fun q h => absurd h List.not_mem_nil) dX12_letter_24
  · refine iz_eqz (tgt := 23) hx hb dX12_letter_11 (by decide) (by unfold rg2; omega) (fun _ => ?_) (fun q9 => absurd q9 (by decide))
    refine lv_iconst (v := kz (-1)) hx hb dX12_letter_23 rfl ?_
    exact W.iret (v := kz (-1)) hx hb hr (fun t9 ht hW => ⟨kz (-1), rfl, trivial, ht⟩) (fun q h => absurd h List.not_mem_nil) dX12_letter_24
set_option maxHeartbeats 4000000 in
set_option maxRecDepth 100000 in
/-- X12_back -/
theorem m_back (l : Launch) (dC : Nat → ClassId) (dI : Nat → Nat → Nat) (ca : Nat → ClassId) (A : Nat → Prop) (X : kGh) (o : Nat) (am : Nat → Nat) (zi : Nat → Int) (zl : Nat → Int64) (hM : mS X A o am) (hz : mZ X am zi) : Met l yX12_back wsX12_back ({ frames := 0, cells := 0, slots := 0, locals := 0 }) (va_Pc [.ref o] (fun U => va_K (dC, dI) vwCl (k_tys ca) U ∧ mI (dC, dI) ca A X o am zi zl U.heap)) (va_Qi (fun (r : Int32) (u : (Nat → Int) × (Nat → Int64)) => mZ X am u.1 ∧ u.1 20 = zi 20) (fun u U => va_K (dC, dI) vwCl (k_tys ca) U ∧ mI (dC, dI) ca A X o am u.1 u.2 U.heap) A) 0 0 A := by
  refine Met.ofW (cc := cX12_back) (maxL := 2) (ret := (some .int)) (by decide) rfl ?_
  intro p e s m args below meth c s₁ B hml hv
  obtain ⟨rfl, hK, hI, hO⟩ := hv
  have hx := B.exec
  have hb := B.bytes
  have hr := B.returns
  have hts := atoms_spec (ws := wsX12_back) B.pre
  have hown : s.vm.findClass RX12 = some m.cls := findClass_of_methodNamed B.named
  have hin : ∀ w ∈ u_ws RX12 TX12 49, w ∈ wsX12_back := by decide +kernel
  have hL120 := hts (.fieldLink RX12 120 "JoinBenchModel" "taped" "I") (by decide +kernel)
  have hL169 := hts (.fieldLink RX12 169 "JoinBenchModel" "outMany" "I") (by decide +kernel)
  have hL7 := hts (.fieldLink RX12 7 "JoinBenchModel" "tape" "[B") (by decide +kernel)
  have hL73 := hts (.fieldLink RX12 73 "JoinBenchModel" "out" "[B") (by decide +kernel)
  have g0 : X.1 (am 0) = (100, 21, 60, 0, 0) := hM.1 0 _ rfl (by decide)
  have g25 : X.1 (am 25) = (125, 21, 480, 0, 0) := hM.1 25 _ rfl (by decide)
  obtain ⟨⟨z1a, z1b⟩, ⟨z2a, z2b⟩, ⟨z9a, z9b⟩, ⟨z20a, z20b⟩, ⟨z21a, z21b⟩, ⟨z22a, z22b⟩, ⟨z26a, z26b⟩, ⟨z28a, z28b⟩, ⟨z34a, z34b⟩, ⟨z35a, z35b⟩, ⟨z38a, z38b⟩, ⟨z39a, z39b⟩, ⟨z46a, z46b⟩, hzA, hzB⟩ := id hz
  obtain ⟨H, hH⟩ : ∃ H : Heap, H = s.heap := ⟨_, rfl⟩
  have hS : va_S A s.heap H [] := by rw [hH]; exact va_S.rf
  rw [← hH] at hI hO ⊢
  clear hH
  have hl := lv_entry ([.ref o]) (n := 2) (Nat.le_of_ble_eq_true rfl)
  rw [lg_entry_eq]
  generalize (lg_sl ([.ref o]) ++ List.replicate (2 - (lg_sl ([.ref o])).length) Slot.unset).toArray = ls at hl ⊢
  have hl : lv_has ls 2 [(0, .ref o)] := hl
  refine lv_aload_n hx hb dX12_back_0 rfl (lv_at hl 0 rfl) ?_
  refine iz_get (D := (dC, dI)) (ci := 12) (v := .int (kz (zi 1))) (C := RX12) (T := TX12) (N := 49) hx hb hts hin hown hK hO rfl 1 (by decide) hL120 (fun _ h9 => h9) rfl dX12_back_1 ?_
  refine lv_aload_n hx hb dX12_back_4 rfl (lv_at hl 0 rfl) ?_
  refine iz_get (D := (dC, dI)) (ci := 12) (v := .int (kz (zi 26))) (C := RX12) (T := TX12) (N := 49) hx hb hts hin hown hK hO rfl 26 (by decide) hL169 (fun _ h9 => h9) rfl dX12_back_5 ?_
  refine iz_iadd hx hb dX12_back_8 ?_
  refine lv_bipush (v := kz 60) hx hb dX12_back_9 (by decide) ?_
  refine iz_le (tgt := 16) hx hb dX12_back_11 (by decide) (by unfold rg2; omega) (fun br_1 => ?_) (fun br_1 => ?_)
  · refine lv_iconst (v := kz 0) hx hb dX12_back_16 rfl ?_
    refine lv_istore_n (lv' := [(1, .int (kz 0)), (0, .ref o)]) hx hb dX12_back_17 rfl hl (by decide) rfl (fun ls hl => ?_)
    refine iz_loop1 (P := fun N9 k H locs ls => 0 ≤ k ∧ k ≤ 60 ∧ 60 - k ≤ (N9 : Int) ∧ lv_has ls 2 [(1, .int (kz k)), (0, .ref o)] ∧ iv (dC, dI) ca A X H ∧ va_at (dC, dI) vwCl (o, .inr (12, mM am zi zl)) H ∧ va_S A s.heap H locs) 100000 (x0 := 0) ?_ ⟨by omega, by omega, by omega, lv_sub hl [0, 1] rfl, hI, hO, hS⟩
    intro n_2 k H locs ls ⟨n_2f0, n_2f1, n_2f2, hl, hI, hO, hS⟩ ihn_2
    refine lv_iload_n hx hb dX12_back_18 rfl (lv_at hl 0 rfl) ?_
    refine lv_aload_n hx hb dX12_back_19 rfl (lv_at hl 1 rfl) ?_
    refine iz_get (D := (dC, dI)) (ci := 12) (v := .int (kz (zi 26))) (C := RX12) (T := TX12) (N := 49) hx hb hts hin hown hK hO rfl 26 (by decide) hL169 (fun _ h9 => h9) rfl dX12_back_20 ?_
    refine iz_ge (tgt := 49) hx hb dX12_back_23 (by decide) (by unfold rg2; omega) (fun br_3 => ?_) (fun br_3 => ?_)
    · refine lv_aload_n hx hb dX12_back_49 rfl (lv_at hl 1 rfl) ?_
      refine lv_dup hx hb dX12_back_50 rfl ?_
      refine iz_get (D := (dC, dI)) (ci := 12) (v := .int (kz (zi 1))) (C := RX12) (T := TX12) (N := 49) hx hb hts hin hown hK hO rfl 1 (by decide) hL120 (fun _ h9 => h9) rfl dX12_back_51 ?_
      refine lv_aload_n hx hb dX12_back_54 rfl (lv_at hl 1 rfl) ?_
      refine iz_get (D := (dC, dI)) (ci := 12) (v := .int (kz (zi 26))) (C := RX12) (T := TX12) (N := 49) hx hb hts hin hown hK hO rfl 26 (by decide) hL169 (fun _ h9 => h9) rfl dX12_back_55 ?_
      refine iz_iadd hx hb dX12_back_58 ?_
      refine iz_put (D := (dC, dI)) (ci := 12) (v := .int (kz (zi 1 + zi 26))) (ty := .int) (C := RX12) (T := TX12) (N := 49) hx hb hts hin tyX12 tyX12_ok nmX12 hown hK hO hS hM.2.2.1 rfl 1 (by decide) hL120 (fun _ h9 => h9) rfl (by decide +kernel) rfl rfl (Nat.le_of_ble_eq_true rfl) dX12_back_59 (fun H locs hO oq hS => ?_)
      rw [mM_1] at hO
      have hI := iv_skip hI hM.2.1 oq
      have hO : va_at (dC, dI) vwCl (o, .inr (12, mM am (fup zi 1 (zi 1 + zi 26)) zl)) H := hO
      clear oq
      refine lv_aload_n hx hb dX12_back_62 rfl (lv_at hl 1 rfl) ?_
      refine lv_iconst (v := kz 0) hx hb dX12_back_63 rfl ?_
      refine iz_put (D := (dC, dI)) (ci := 12) (v := .int (kz 0)) (ty := .int) (C := RX12) (T := TX12) (N := 49) hx hb hts hin tyX12 tyX12_ok nmX12 hown hK hO hS hM.2.2.1 rfl 26 (by decide) hL169 (fun _ h9 => h9) rfl (by decide +kernel) rfl rfl (Nat.le_of_ble_eq_true rfl) dX12_back_64 (fun H locs hO oq hS => ?_)
      rw [mM_26] at hO
      have hI := iv_skip hI hM.2.1 oq
      have hO : va_at (dC, dI) vwCl (o, .inr (12, mM am (fup (fup zi 1 (zi 1 + zi 26)) 26 0) zl)) H := hO
      clear oq
      refine lv_aload_n hx hb dX12_back_67 rfl (lv_at hl 1 rfl) ?_
      refine iz_get (D := (dC, dI)) (ci := 12) (v := .int (kz (zi 1 + zi 26))) (C := RX12) (T := TX12) (N := 49) hx hb hts hin hown hK hO rfl 1 (by decide) hL120 (fun _ h9 => h9) rfl dX12_back_68 ?_
      exact W.iret (v := kz (zi 1 + zi 26)) hx hb hr (fun t9 ht hW => ⟨⟨kz (zi 1 + zi 26), ((fup (fup zi 1 (zi 1 + zi 26)) 26 0), zl), rfl, ⟨⟨⟨by show (0 : Int) ≤ (zi 1 + zi 26); omega, by show (zi 1 + zi 26) ≤ (60 : Int); omega⟩, ⟨z2a, z2b⟩, ⟨z9a, z9b⟩, ⟨z20a, z20b⟩, ⟨z21a, z21b⟩, ⟨z22a, z22b⟩, ⟨by show (0 : Int) ≤ 0; omega, by show 0 ≤ (480 : Int); omega⟩, ⟨z28a, z28b⟩, ⟨z34a, z34b⟩, ⟨z35a, z35b⟩, ⟨z38a, z38b⟩, ⟨z39a, z39b⟩, ⟨z46a, z46b⟩, by show zi 2 ≤ (X.2 (am 4) : Int); omega, by show zi 39 ≤ (X.2 (am 41) : Int); omega⟩, rfl⟩, va_K.moved hW.alike hK, by rw [ht]; exact ⟨hI, hO⟩⟩, hS.F ht⟩) hS.2.2 dX12_back_71
    · refine lv_aload_n hx hb dX12_back_26 rfl (lv_at hl 1 rfl) ?_
      refine iz_get (D := (dC, dI)) (ci := 12) (v := .ref (am 0)) (C := RX12) (T := TX12) (N := 49) hx hb hts hin hown hK hO rfl 0 (by decide) hL7 (fun _ h9 => h9) rfl dX12_back_27 ?_
      refine lv_aload_n hx hb dX12_back_30 rfl (lv_at hl 1 rfl) ?_
      refine iz_get (D := (dC, dI)) (ci := 12) (v := .int (kz (zi 1))) (C := RX12) (T := TX12) (N := 49) hx hb hts hin hown hK hO rfl 1 (by decide) hL120 (fun _ h9 => h9) rfl dX12_back_31 ?_
      refine lv_iload_n hx hb dX12_back_34 rfl (lv_at hl 0 rfl) ?_
      refine iz_iadd hx hb dX12_back_35 ?_
      refine lv_aload_n hx hb dX12_back_36 rfl (lv_at hl 1 rfl) ?_
      refine iz_get (D := (dC, dI)) (ci := 12) (v := .ref (am 25)) (C := RX12) (T := TX12) (N := 49) hx hb hts hin hown hK hO rfl 25 (by decide) hL73 (fun _ h9 => h9) rfl dX12_back_37 ?_
      refine lv_iload_n hx hb dX12_back_40 rfl (lv_at hl 0 rfl) ?_
      obtain ⟨f25_4, c_f25_4⟩ := iv_o21 hI g25
      refine iz_bald hx hb hK 1 c_f25_4 rfl (by omega) (by decide) dX12_back_41 ?_
      have v_5a := kz_lo (f25_4 (Int.toNat k))
      have v_5b := kz_hi (f25_4 (Int.toNat k))
      change _ ≤ ge1 f25_4 k at v_5a
      change ge1 f25_4 k ≤ _ at v_5b
      obtain ⟨v_5, ev_5⟩ : ∃ z9 : Int, ge1 f25_4 k = z9 := ⟨_, rfl⟩
      rw [ev_5] at v_5a v_5b ⊢
      obtain ⟨f0_6, c_f0_6⟩ := iv_o21 hI g0
      refine iz_bast hx hb hK 1 c_f0_6 hS (iv_A hI g0 (by decide)) rfl (by omega) (by decide) dX12_back_42 (fun H locs c9 oq hS => ?_)
      have hI := iv_s21 hI g0 c9 oq
      have hO := hO.kept (oq _ (iv_ne0 g0 hM.2.1 (by decide)).symm)
      have c_f25_4 := c_f25_4.kept (oq _ (iv_ne g25 g0 (by decide)))
      clear oq c9
      refine lv_iinc (v := kz (k + 1)) (lv' := [(1, .int (kz (k + 1))), (0, .ref o)]) hx hb dX12_back_43 hl (k := 0) rfl (kz_add k 1) (by decide) rfl (fun ls hl => ?_)
      refine lv_goto (tgt := 18) hx hb dX12_back_46 (by decide) ?_
      exact ihn_2 (n_2 - 1) (by omega) (k + 1) _ _ _ ⟨by omega, by omega, by omega, lv_sub hl [0, 1] rfl, hI, hO, hS⟩
  · refine lv_iconst (v := kz (-1)) hx hb dX12_back_14 rfl ?_
    exact W.iret (v := kz (-1)) hx hb hr (fun t9 ht hW => ⟨⟨kz (-1), (zi, zl), rfl, ⟨hz, rfl⟩, va_K.moved hW.alike hK, by rw [ht]; exact ⟨hI, hO⟩⟩, hS.F ht⟩) hS.2.2 dX12_back_15
set_option maxHeartbeats 4000000 in
set_option maxRecDepth 100000 in
/-- X12_rule -/
theorem m_rule (l : Launch) (dC : Nat → ClassId) (dI : Nat → Nat → Nat) (ca : Nat → ClassId) (A : Nat → Prop) (X : kGh) (o : Nat) (am : Nat → Nat) (zi : Nat → Int) (zl : Nat → Int64) (hM : mS X A o am) (hz : mZ X am zi) (e1 : Int) (b1 : Int) (c1 : Int) (d1 : Int) (d2 : Int) (e1r : -2147483648 ≤ e1 ∧ e1 ≤ 2147483647) (b1r : -2147483648 ≤ b1 ∧ b1 ≤ 2147483647) (c1r : -2147483648 ≤ c1 ∧ c1 ≤ 2147483647) (d1r : -2147483648 ≤ d1 ∧ d1 ≤ 2147483647) (d2r : -2147483648 ≤ d2 ∧ d2 ≤ 2147483647) : Met l yX12_rule wsX12_rule ({ frames := 1, cells := 0, slots := 0, locals := 22 }) (va_Pc [.ref o, .int (kz e1), .int (kz b1), .int (kz c1), .int (kz d1), .int (kz d2)] (fun U => va_K (dC, dI) vwCl (k_tys ca) U ∧ mI (dC, dI) ca A X o am zi zl U.heap)) (va_Qi (fun (r : Int32) (u : (Nat → Int) × (Nat → Int64)) => mZ X am u.1 ∧ u.1 20 = zi 20) (fun u U => va_K (dC, dI) vwCl (k_tys ca) U ∧ mI (dC, dI) ca A X o am u.1 u.2 U.heap) A) 0 0 A := by
  refine Met.ofW (cc := cX12_rule) (maxL := 9) (ret := (some .int)) (by decide) rfl ?_
  intro p e s m args below meth c s₁ B hml hv
  obtain ⟨rfl, hK, hI, hO⟩ := hv
  have hx := B.exec
  have hb := B.bytes
  have hr := B.returns
  have hts := atoms_spec (ws := wsX12_rule) B.pre
  have hown : s.vm.findClass RX12 = some m.cls := findClass_of_methodNamed B.named
  have hin : ∀ w ∈ u_ws RX12 TX12 49, w ∈ wsX12_rule := by decide +kernel
  have hL120 := hts (.fieldLink RX12 120 "JoinBenchModel" "taped" "I") (by decide +kernel)
  have hL138 := hts (.fieldLink RX12 138 "JoinBenchModel" "rules" "I") (by decide +kernel)
  have hL33 := hts (.fieldLink RX12 33 "JoinBenchModel" "ruleText" "[B") (by decide +kernel)
  have hL7 := hts (.fieldLink RX12 7 "JoinBenchModel" "tape" "[B") (by decide +kernel)
  have hL36 := hts (.fieldLink RX12 36 "JoinBenchModel" "ends" "[I") (by decide +kernel)
  have hL39 := hts (.fieldLink RX12 39 "JoinBenchModel" "begins" "[I") (by decide +kernel)
  have hL42 := hts (.fieldLink RX12 42 "JoinBenchModel" "comes" "[I") (by decide +kernel)
  have hL45 := hts (.fieldLink RX12 45 "JoinBenchModel" "ruleCost" "[I") (by decide +kernel)
  have hL48 := hts (.fieldLink RX12 48 "JoinBenchModel" "ruleFirst" "[I") (by decide +kernel)
  have hL51 := hts (.fieldLink RX12 51 "JoinBenchModel" "ruleLast" "[I") (by decide +kernel)
  have g10 : X.1 (am 10) = (110, 21, 240, 0, 0) := hM.1 10 _ rfl (by decide)
  have g0 : X.1 (am 0) = (100, 21, 60, 0, 0) := hM.1 0 _ rfl (by decide)
  have g11 : X.1 (am 11) = (111, 20, 24, 0, 3) := hM.1 11 _ rfl (by decide)
  have w11 : X.2 (am 11) = 0 := hM.2.2.2 11 _ rfl (by decide) (by decide) (by decide)
  have g12 : X.1 (am 12) = (112, 20, 24, 0, 3) := hM.1 12 _ rfl (by decide)
  have w12 : X.2 (am 12) = 0 := hM.2.2.2 12 _ rfl (by decide) (by decide) (by decide)
  have g13 : X.1 (am 13) = (113, 20, 24, 0, 4) := hM.1 13 _ rfl (by decide)
  have w13 : X.2 (am 13) = 0 := hM.2.2.2 13 _ rfl (by decide) (by decide) (by decide)
  have g14 : X.1 (am 14) = (114, 20, 24, -2147483648, 2147483647) := hM.1 14 _ rfl (by decide)
  have w14 : X.2 (am 14) = 0 := hM.2.2.2 14 _ rfl (by decide) (by decide) (by decide)
  have g15 : X.1 (am 15) = (115, 20, 24, -2147483648, 2147483647) := hM.1 15 _ rfl (by decide)
  have w15 : X.2 (am 15) = 0 := hM.2.2.2 15 _ rfl (by decide) (by decide) (by decide)
  have g16 : X.1 (am 16) = (116, 20, 24, -2147483648, 2147483647) := hM.1 16 _ rfl (by decide)
  have w16 : X.2 (am 16) = 0 := hM.2.2.2 16 _ rfl (by decide) (by decide) (by decide)
  obtain ⟨⟨z1a, z1b⟩, ⟨z2a, z2b⟩, ⟨z9a, z9b⟩, ⟨z20a, z20b⟩, ⟨z21a, z21b⟩, ⟨z22a, z22b⟩, ⟨z26a, z26b⟩, ⟨z28a, z28b⟩, ⟨z34a, z34b⟩, ⟨z35a, z35b⟩, ⟨z38a, z38b⟩, ⟨z39a, z39b⟩, ⟨z46a, z46b⟩, hzA, hzB⟩ := id hz
  obtain ⟨H, hH⟩ : ∃ H : Heap, H = s.heap := ⟨_, rfl⟩
  have hS : va_S A s.heap H [] := by rw [hH]; exact va_S.rf
  rw [← hH] at hI hO ⊢
  clear hH
  have hl := lv_entry ([.ref o, .int (kz e1), .int (kz b1), .int (kz c1), .int (kz d1), .int (kz d2)]) (n := 9) (Nat.le_of_ble_eq_true rfl)
  rw [lg_entry_eq]
  generalize (lg_sl ([.ref o, .int (kz e1), .int (kz b1), .int (kz c1), .int (kz d1), .int (kz d2)]) ++ List.replicate (9 - (lg_sl ([.ref o, .int (kz e1), .int (kz b1), .int (kz c1), .int (kz d1), .int (kz d2)])).length) Slot.unset).toArray = ls at hl ⊢
  have hl : lv_has ls 9 [(0, .ref o), (1, .int (kz e1)), (2, .int (kz b1)), (3, .int (kz c1)), (4, .int (kz d1)), (5, .int (kz d2))] := hl
  refine lv_aload_n hx hb dX12_rule_0 rfl (lv_at hl 0 rfl) ?_
  refine iz_get (D := (dC, dI)) (ci := 12) (v := .int (kz (zi 1))) (C := RX12) (T := TX12) (N := 49) hx hb hts hin hown hK hO rfl 1 (by decide) hL120 (fun _ h9 => h9) rfl dX12_rule_1 ?_
  refine lv_istore (lv' := [(6, .int (kz (zi 1))), (0, .ref o), (1, .int (kz e1)), (2, .int (kz b1)), (3, .int (kz c1)), (4, .int (kz d1)), (5, .int (kz d2))]) hx hb dX12_rule_4 hl (by decide) rfl (fun ls hl => ?_)
  refine lv_aload_n hx hb dX12_rule_6 rfl (lv_at hl 1 rfl) ?_
  refine vp_callSi (va_Run.run (va_runV (As := []) (rest := []) ⟨hx, hb, hml, hown, hts⟩ (m_isText l dC dI ca A X o am zi zl hM hz) (cwV 0 hts gX12_rule_X12_isText rfl rfl rfl (by decide +kernel) ⟨Nat.le_of_ble_eq_true rfl, Nat.le_of_ble_eq_true rfl⟩) ⟨fun a U g mk q => by obtain ⟨q0, qK, qI⟩ := q; exact ⟨q0, va_K.moved (u := U) (U := U.calling g mk a) (Vm.Alike.refl U.vm) qK, qI⟩, va_recv hK (at_P hO) (ci := 12) (q0 := 0) rfl rfl, fun U hU hW => ⟨rfl, va_K.moved hW.alike hK, by rw [hU]; exact ⟨hI, hO⟩⟩⟩ rfl rfl hl.1 rfl (lv_room (Nat.le_of_ble_eq_true rfl)) dX12_rule_7 ⟨Nat.le_of_ble_eq_true rfl, Nat.le_of_ble_eq_true rfl⟩)) (fun r_2 hw_1 => ?_)
  rcases hw_1 with rfl | rfl
  · refine iz_eqz (tgt := 97) hx hb dX12_rule_10 (by decide) (by unfold rg2; omega) (fun q9 => absurd q9 (by decide)) (fun _ => ?_)
    refine lv_aload_n hx hb dX12_rule_13 rfl (lv_at hl 1 rfl) ?_
    refine iz_get (D := (dC, dI)) (ci := 12) (v := .int (kz (zi 9))) (C := RX12) (T := TX12) (N := 49) hx hb hts hin hown hK hO rfl 9 (by decide) hL138 (fun _ h9 => h9) rfl dX12_rule_14 ?_
    refine lv_bipush (v := kz 24) hx hb dX12_rule_17 (by decide) ?_
    refine iz_ge (tgt := 97) hx hb dX12_rule_19 (by decide) (by unfold rg2; omega) (fun br_3 => ?_) (fun br_3 => ?_)
    · refine lv_iconst (v := kz 0) hx hb dX12_rule_97 rfl ?_
      refine lv_istore (lv' := [(7, .int (kz 0)), (6, .int (kz (zi 1))), (0, .ref o), (1, .int (kz e1)), (2, .int (kz b1)), (3, .int (kz c1)), (4, .int (kz d1)), (5, .int (kz d2))]) hx hb dX12_rule_98 hl (by decide) rfl (fun ls hl => ?_)
      refine lv_aload_n hx hb dX12_rule_100 rfl (lv_at hl 2 rfl) ?_
      refine lv_iconst (v := kz 0) hx hb dX12_rule_101 rfl ?_
      refine iz_put (D := (dC, dI)) (ci := 12) (v := .int (kz 0)) (ty := .int) (C := RX12) (T := TX12) (N := 49) hx hb hts hin tyX12 tyX12_ok nmX12 hown hK hO hS hM.2.2.1 rfl 1 (by decide) hL120 (fun _ h9 => h9) rfl (by decide +kernel) rfl rfl (Nat.le_of_ble_eq_true rfl) dX12_rule_102 (fun H locs hO oq hS => ?_)
      rw [mM_1] at hO
      have hI := iv_skip hI hM.2.1 oq
      have hO : va_at (dC, dI) vwCl (o, .inr (12, mM am (fup zi 1 0) zl)) H := hO
      clear oq
      refine lv_iload hx hb dX12_rule_105 (lv_at hl 0 rfl) ?_
      refine iz_nez (tgt := 112) hx hb dX12_rule_107 (by decide) (by unfold rg2; omega) (fun q9 => absurd q9 (by decide)) (fun _ => ?_)
      refine lv_iconst (v := kz (-1)) hx hb dX12_rule_110 rfl ?_
      exact W.iret (v := kz (-1)) hx hb hr (fun t9 ht hW => ⟨⟨kz (-1), ((fup zi 1 0), zl), rfl, ⟨⟨⟨by show (0 : Int) ≤ 0; omega, by show 0 ≤ (60 : Int); omega⟩, ⟨z2a, z2b⟩, ⟨z9a, z9b⟩, ⟨z20a, z20b⟩, ⟨z21a, z21b⟩, ⟨z22a, z22b⟩, ⟨z26a, z26b⟩, ⟨z28a, z28b⟩, ⟨z34a, z34b⟩, ⟨z35a, z35b⟩, ⟨z38a, z38b⟩, ⟨z39a, z39b⟩, ⟨z46a, z46b⟩, by show zi 2 ≤ (X.2 (am 4) : Int); omega, by show zi 39 ≤ (X.2 (am 41) : Int); omega⟩, rfl⟩, va_K.moved hW.alike hK, by rw [ht]; exact ⟨hI, hO⟩⟩, hS.F ht⟩) hS.2.2 dX12_rule_111
    · refine lv_iload_n hx hb dX12_rule_22 rfl (lv_at hl 2 rfl) ?_
      refine lv_iconst (v := kz 0) hx hb dX12_rule_23 rfl ?_
      refine lv_iconst (v := kz 3) hx hb dX12_rule_24 rfl ?_
      refine vp_callSi (va_Run.run (va_runS (As := [.int (kz e1), .int (kz 0), .int (kz 3)]) (rest := []) ⟨hx, hb, hml, hown, hts⟩ (m_in l e1 0 3 (by omega) (by omega) (by omega)) (va_cwS 3 hts gX12_rule_X12_in rfl rfl rfl (by decide +kernel) ⟨Nat.le_of_ble_eq_true rfl, Nat.le_of_ble_eq_true rfl⟩) ⟨fun a U g mk q => q, fun U hU hW => ⟨rfl, trivial⟩⟩ rfl rfl hl.1 rfl (lv_room (Nat.le_of_ble_eq_true rfl)) dX12_rule_25 ⟨Nat.le_of_ble_eq_true rfl, Nat.le_of_ble_eq_true rfl⟩)) (fun r_5 hw_4 => ?_)
      rcases hw_4 with ⟨rfl, hw_4⟩ | ⟨rfl, hw_4⟩
      · refine iz_eqz (tgt := 97) hx hb dX12_rule_28 (by decide) (by unfold rg2; omega) (fun q9 => absurd q9 (by decide)) (fun _ => ?_)
        refine lv_iload_n hx hb dX12_rule_31 rfl (lv_at hl 3 rfl) ?_
        refine lv_iconst (v := kz 0) hx hb dX12_rule_32 rfl ?_
        refine lv_iconst (v := kz 3) hx hb dX12_rule_33 rfl ?_
        refine vp_callSi (va_Run.run (va_runS (As := [.int (kz b1), .int (kz 0), .int (kz 3)]) (rest := []) ⟨hx, hb, hml, hown, hts⟩ (m_in l b1 0 3 (by omega) (by omega) (by omega)) (va_cwS 3 hts gX12_rule_X12_in rfl rfl rfl (by decide +kernel) ⟨Nat.le_of_ble_eq_true rfl, Nat.le_of_ble_eq_true rfl⟩) ⟨fun a U g mk q => q, fun U hU hW => ⟨rfl, trivial⟩⟩ rfl rfl hl.1 rfl (lv_room (Nat.le_of_ble_eq_true rfl)) dX12_rule_34 ⟨Nat.le_of_ble_eq_true rfl, Nat.le_of_ble_eq_true rfl⟩)) (fun r_7 hw_6 => ?_)
        rcases hw_6 with ⟨rfl, hw_6⟩ | ⟨rfl, hw_6⟩
        · refine iz_eqz (tgt := 97) hx hb dX12_rule_37 (by decide) (by unfold rg2; omega) (fun q9 => absurd q9 (by decide)) (fun _ => ?_)
          refine lv_iload_n hx hb dX12_rule_40 rfl (lv_at hl 2 rfl) ?_
          refine lv_iload_n hx hb dX12_rule_41 rfl (lv_at hl 3 rfl) ?_
          refine iz_iadd hx hb dX12_rule_42 ?_
          refine iz_lez (tgt := 97) hx hb dX12_rule_43 (by decide) (by unfold rg2; omega) (fun br_8 => ?_) (fun br_8 => ?_)
          · refine lv_iconst (v := kz 0) hx hb dX12_rule_97 rfl ?_
            refine lv_istore (lv' := [(7, .int (kz 0)), (6, .int (kz (zi 1))), (0, .ref o), (1, .int (kz e1)), (2, .int (kz b1)), (3, .int (kz c1)), (4, .int (kz d1)), (5, .int (kz d2))]) hx hb dX12_rule_98 hl (by decide) rfl (fun ls hl => ?_)
            refine lv_aload_n hx hb dX12_rule_100 rfl (lv_at hl 2 rfl) ?_
            refine lv_iconst (v := kz 0) hx hb dX12_rule_101 rfl ?_
            refine iz_put (D := (dC, dI)) (ci := 12) (v := .int (kz 0)) (ty := .int) (C := RX12) (T := TX12) (N := 49) hx hb hts hin tyX12 tyX12_ok nmX12 hown hK hO hS hM.2.2.1 rfl 1 (by decide) hL120 (fun _ h9 => h9) rfl (by decide +kernel) rfl rfl (Nat.le_of_ble_eq_true rfl) dX12_rule_102 (fun H locs hO oq hS => ?_)
            rw [mM_1] at hO
            have hI := iv_skip hI hM.2.1 oq
            have hO : va_at (dC, dI) vwCl (o, .inr (12, mM am (fup zi 1 0) zl)) H := hO
            clear oq
            refine lv_iload hx hb dX12_rule_105 (lv_at hl 0 rfl) ?_
            refine iz_nez (tgt := 112) hx hb dX12_rule_107 (by decide) (by unfold rg2; omega) (fun q9 => absurd q9 (by decide)) (fun _ => ?_)
            refine lv_iconst (v := kz (-1)) hx hb dX12_rule_110 rfl ?_
            exact W.iret (v := kz (-1)) hx hb hr (fun t9 ht hW => ⟨⟨kz (-1), ((fup zi 1 0), zl), rfl, ⟨⟨⟨by show (0 : Int) ≤ 0; omega, by show 0 ≤ (60 : Int); omega⟩, ⟨z2a, z2b⟩, ⟨z9a, z9b⟩, ⟨z20a, z20b⟩, ⟨z21a, z21b⟩, ⟨z22a, z22b⟩, ⟨z26a, z26b⟩, ⟨z28a, z28b⟩, ⟨z34a, z34b⟩, ⟨z35a, z35b⟩, ⟨z38a, z38b⟩, ⟨z39a, z39b⟩, ⟨z46a, z46b⟩, by show zi 2 ≤ (X.2 (am 4) : Int); omega, by show zi 39 ≤ (X.2 (am 41) : Int); omega⟩, rfl⟩, va_K.moved hW.alike hK, by rw [ht]; exact ⟨hI, hO⟩⟩, hS.F ht⟩) hS.2.2 dX12_rule_111
          · refine lv_iload hx hb dX12_rule_46 (lv_at hl 0 rfl) ?_
            refine lv_iload_n hx hb dX12_rule_48 rfl (lv_at hl 2 rfl) ?_
            refine iz_isub hx hb dX12_rule_49 ?_
            refine lv_iload_n hx hb dX12_rule_50 rfl (lv_at hl 3 rfl) ?_
            refine iz_isub hx hb dX12_rule_51 ?_
            refine lv_iconst (v := kz 0) hx hb dX12_rule_52 rfl ?_
            refine lv_iconst (v := kz 4) hx hb dX12_rule_53 rfl ?_
            refine vp_callSi (va_Run.run (va_runS (As := [.int (kz ((zi 1 - e1) - b1)), .int (kz 0), .int (kz 4)]) (rest := []) ⟨hx, hb, hml, hown, hts⟩ (m_in l ((zi 1 - e1) - b1) 0 4 (by omega) (by omega) (by omega)) (va_cwS 3 hts gX12_rule_X12_in rfl rfl rfl (by decide +kernel) ⟨Nat.le_of_ble_eq_true rfl, Nat.le_of_ble_eq_true rfl⟩) ⟨fun a U g mk q => q, fun U hU hW => ⟨rfl, trivial⟩⟩ rfl rfl hl.1 rfl (lv_room (Nat.le_of_ble_eq_true rfl)) dX12_rule_54 ⟨Nat.le_of_ble_eq_true rfl, Nat.le_of_ble_eq_true rfl⟩)) (fun r_10 hw_9 => ?_)
            rcases hw_9 with ⟨rfl, hw_9⟩ | ⟨rfl, hw_9⟩
            · refine iz_eqz (tgt := 97) hx hb dX12_rule_57 (by decide) (by unfold rg2; omega) (fun q9 => absurd q9 (by decide)) (fun _ => ?_)
              refine lv_iload_n hx hb dX12_rule_60 rfl (lv_at hl 4 rfl) ?_
              refine lv_iconst (v := kz 0) hx hb dX12_rule_61 rfl ?_
              refine lv_bipush (v := kz 99) hx hb dX12_rule_62 (by decide) ?_
              refine vp_callSi (va_Run.run (va_runS (As := [.int (kz c1), .int (kz 0), .int (kz 99)]) (rest := []) ⟨hx, hb, hml, hown, hts⟩ (m_in l c1 0 99 (by omega) (by omega) (by omega)) (va_cwS 3 hts gX12_rule_X12_in rfl rfl rfl (by decide +kernel) ⟨Nat.le_of_ble_eq_true rfl, Nat.le_of_ble_eq_true rfl⟩) ⟨fun a U g mk q => q, fun U hU hW => ⟨rfl, trivial⟩⟩ rfl rfl hl.1 rfl (lv_room (Nat.le_of_ble_eq_true rfl)) dX12_rule_64 ⟨Nat.le_of_ble_eq_true rfl, Nat.le_of_ble_eq_true rfl⟩)) (fun r_12 hw_11 => ?_)
              rcases hw_11 with ⟨rfl, hw_11⟩ | ⟨rfl, hw_11⟩
              · refine iz_eqz (tgt := 97) hx hb dX12_rule_67 (by decide) (by unfold rg2; omega) (fun q9 => absurd q9 (by decide)) (fun _ => ?_)
                refine lv_iload hx hb dX12_rule_70 (lv_at hl 5 rfl) ?_
                refine lv_iconst (v := kz 0) hx hb dX12_rule_72 rfl ?_
                refine lv_iload hx hb dX12_rule_73 (lv_at hl 6 rfl) ?_
                refine vp_callSi (va_Run.run (va_runS (As := [.int (kz d1), .int (kz 0), .int (kz d2)]) (rest := []) ⟨hx, hb, hml, hown, hts⟩ (m_in l d1 0 d2 (by omega) (by omega) (by omega)) (va_cwS 3 hts gX12_rule_X12_in rfl rfl rfl (by decide +kernel) ⟨Nat.le_of_ble_eq_true rfl, Nat.le_of_ble_eq_true rfl⟩) ⟨fun a U g mk q => q, fun U hU hW => ⟨rfl, trivial⟩⟩ rfl rfl hl.1 rfl (lv_room (Nat.le_of_ble_eq_true rfl)) dX12_rule_75 ⟨Nat.le_of_ble_eq_true rfl, Nat.le_of_ble_eq_true rfl⟩)) (fun r_14 hw_13 => ?_)
                rcases hw_13 with ⟨rfl, hw_13⟩ | ⟨rfl, hw_13⟩
                · refine iz_eqz (tgt := 97) hx hb dX12_rule_78 (by decide) (by unfold rg2; omega) (fun q9 => absurd q9 (by decide)) (fun _ => ?_)
                  refine lv_iload hx hb dX12_rule_81 (lv_at hl 6 rfl) ?_
                  refine lv_iconst (v := kz 0) hx hb dX12_rule_83 rfl ?_
                  refine lv_sipush (v := kz 999) hx hb dX12_rule_84 (by decide) ?_
                  refine vp_callSi (va_Run.run (va_runS (As := [.int (kz d2), .int (kz 0), .int (kz 999)]) (rest := []) ⟨hx, hb, hml, hown, hts⟩ (m_in l d2 0 999 (by omega) (by omega) (by omega)) (va_cwS 3 hts gX12_rule_X12_in rfl rfl rfl (by decide +kernel) ⟨Nat.le_of_ble_eq_true rfl, Nat.le_of_ble_eq_true rfl⟩) ⟨fun a U g mk q => q, fun U hU hW => ⟨rfl, trivial⟩⟩ rfl rfl hl.1 rfl (lv_room (Nat.le_of_ble_eq_true rfl)) dX12_rule_87 ⟨Nat.le_of_ble_eq_true rfl, Nat.le_of_ble_eq_true rfl⟩)) (fun r_16 hw_15 => ?_)
                  rcases hw_15 with ⟨rfl, hw_15⟩ | ⟨rfl, hw_15⟩
                  · refine iz_eqz (tgt := 97) hx hb dX12_rule_90 (by decide) (by unfold rg2; omega) (fun q9 => absurd q9 (by decide)) (fun _ => ?_)
                    refine lv_iconst (v := kz 1) hx hb dX12_rule_93 rfl ?_
                    refine lv_goto (tgt := 98) hx hb dX12_rule_94 (by decide) ?_
                    refine lv_istore (lv' := [(7, .int (kz 1)), (6, .int (kz (zi 1))), (0, .ref o), (1, .int (kz e1)), (2, .int (kz b1)), (3, .int (kz c1)), (4, .int (kz d1)), (5, .int (kz d2))]) hx hb dX12_rule_98 hl (by decide) rfl (fun ls hl => ?_)
                    refine lv_aload_n hx hb dX12_rule_100 rfl (lv_at hl 2 rfl) ?_
                    refine lv_iconst (v := kz 0) hx hb dX12_rule_101 rfl ?_
                    refine iz_put (D := (dC, dI)) (ci := 12) (v := .int (kz 0)) (ty := .int) (C := RX12) (T := TX12) (N := 49) hx hb hts hin tyX12 tyX12_ok nmX12 hown hK hO hS hM.2.2.1 rfl 1 (by decide) hL120 (fun _ h9 => h9) rfl (by decide +kernel) rfl rfl (Nat.le_of_ble_eq_true rfl) dX12_rule_102 (fun H locs hO oq hS => ?_)
                    rw [mM_1] at hO
                    have hI := iv_skip hI hM.2.1 oq
                    have hO : va_at (dC, dI) vwCl (o, .inr (12, mM am (fup zi 1 0) zl)) H := hO
                    clear oq
                    refine lv_iload hx hb dX12_rule_105 (lv_at hl 0 rfl) ?_
                    refine iz_nez (tgt := 112) hx hb dX12_rule_107 (by decide) (by unfold rg2; omega) (fun _ => ?_) (fun q9 => absurd q9 (by decide))
                    refine lv_iconst (v := kz 0) hx hb dX12_rule_112 rfl ?_
                    refine lv_istore (lv' := [(8, .int (kz 0)), (7, .int (kz 1)), (6, .int (kz (zi 1))), (0, .ref o), (1, .int (kz e1)), (2, .int (kz b1)), (3, .int (kz c1)), (4, .int (kz d1)), (5, .int (kz d2))]) hx hb dX12_rule_113 hl (by decide) rfl (fun ls hl => ?_)
                    refine iz_loop1 (P := fun N9 i H locs ls => 0 ≤ i ∧ i ≤ 10 ∧ 10 - i ≤ (N9 : Int) ∧ lv_has ls 9 [(8, .int (kz i)), (7, .int (kz 1)), (6, .int (kz (zi 1))), (0, .ref o), (1, .int (kz e1)), (2, .int (kz b1)), (3, .int (kz c1)), (4, .int (kz d1)), (5, .int (kz d2))] ∧ iv (dC, dI) ca A X H ∧ va_at (dC, dI) vwCl (o, .inr (12, mM am (fup zi 1 0) zl)) H ∧ va_S A s.heap H locs) 100000 (x0 := 0) ?_ ⟨by omega, by omega, by omega, lv_sub hl [0, 1, 2, 3, 4, 5, 6, 7, 8] rfl, hI, hO, hS⟩
                    intro n_17 i H locs ls ⟨n_17f0, n_17f1, n_17f2, hl, hI, hO, hS⟩ ihn_17
                    refine lv_iload hx hb dX12_rule_115 (lv_at hl 0 rfl) ?_
                    refine lv_iload hx hb dX12_rule_117 (lv_at hl 2 rfl) ?_
                    refine iz_ge (tgt := 150) hx hb dX12_rule_119 (by decide) (by unfold rg2; omega) (fun br_18 => ?_) (fun br_18 => ?_)
                    · refine lv_aload_n hx hb dX12_rule_150 rfl (lv_at hl 3 rfl) ?_
                      refine iz_get (D := (dC, dI)) (ci := 12) (v := .ref (am 11)) (C := RX12) (T := TX12) (N := 49) hx hb hts hin hown hK hO rfl 11 (by decide) hL36 (fun _ h9 => h9) rfl dX12_rule_151 ?_
                      refine lv_aload_n hx hb dX12_rule_154 rfl (lv_at hl 3 rfl) ?_
                      refine iz_get (D := (dC, dI)) (ci := 12) (v := .int (kz (zi 9))) (C := RX12) (T := TX12) (N := 49) hx hb hts hin hown hK hO rfl 9 (by decide) hL138 (fun _ h9 => h9) rfl dX12_rule_155 ?_
                      refine lv_iload_n hx hb dX12_rule_158 rfl (lv_at hl 4 rfl) ?_
                      obtain ⟨f11_19, c_f11_19, k_f11_19⟩ := iv_o20 hI g11
                      refine iz_iast hx hb hK 0 c_f11_19 hS (iv_A hI g11 (by decide)) rfl (by omega) (by decide) dX12_rule_159 (fun H locs c9 oq hS => ?_)
                      have hI := iv_s20 hI g11 k_f11_19 c9 oq (by omega) (by omega) (by decide) (by omega)
                      have hO := hO.kept (oq _ (iv_ne0 g11 hM.2.1 (by decide)).symm)
                      clear oq c9
                      refine lv_aload_n hx hb dX12_rule_160 rfl (lv_at hl 3 rfl) ?_
                      refine iz_get (D := (dC, dI)) (ci := 12) (v := .ref (am 12)) (C := RX12) (T := TX12) (N := 49) hx hb hts hin hown hK hO rfl 12 (by decide) hL39 (fun _ h9 => h9) rfl dX12_rule_161 ?_
                      refine lv_aload_n hx hb dX12_rule_164 rfl (lv_at hl 3 rfl) ?_
                      refine iz_get (D := (dC, dI)) (ci := 12) (v := .int (kz (zi 9))) (C := RX12) (T := TX12) (N := 49) hx hb hts hin hown hK hO rfl 9 (by decide) hL138 (fun _ h9 => h9) rfl dX12_rule_165 ?_
                      refine lv_iload_n hx hb dX12_rule_168 rfl (lv_at hl 5 rfl) ?_
                      obtain ⟨f12_20, c_f12_20, k_f12_20⟩ := iv_o20 hI g12
                      refine iz_iast hx hb hK 0 c_f12_20 hS (iv_A hI g12 (by decide)) rfl (by omega) (by decide) dX12_rule_169 (fun H locs c9 oq hS => ?_)
                      have hI := iv_s20 hI g12 k_f12_20 c9 oq (by omega) (by omega) (by decide) (by omega)
                      have hO := hO.kept (oq _ (iv_ne0 g12 hM.2.1 (by decide)).symm)
                      clear oq c9
                      refine lv_aload_n hx hb dX12_rule_170 rfl (lv_at hl 3 rfl) ?_
                      refine iz_get (D := (dC, dI)) (ci := 12) (v := .ref (am 13)) (C := RX12) (T := TX12) (N := 49) hx hb hts hin hown hK hO rfl 13 (by decide) hL42 (fun _ h9 => h9) rfl dX12_rule_171 ?_
                      refine lv_aload_n hx hb dX12_rule_174 rfl (lv_at hl 3 rfl) ?_
                      refine iz_get (D := (dC, dI)) (ci := 12) (v := .int (kz (zi 9))) (C := RX12) (T := TX12) (N := 49) hx hb hts hin hown hK hO rfl 9 (by decide) hL138 (fun _ h9 => h9) rfl dX12_rule_175 ?_
                      refine lv_iload hx hb dX12_rule_178 (lv_at hl 2 rfl) ?_
                      refine lv_iload_n hx hb dX12_rule_180 rfl (lv_at hl 4 rfl) ?_
                      refine iz_isub hx hb dX12_rule_181 ?_
                      refine lv_iload_n hx hb dX12_rule_182 rfl (lv_at hl 5 rfl) ?_
                      refine iz_isub hx hb dX12_rule_183 ?_
                      obtain ⟨f13_21, c_f13_21, k_f13_21⟩ := iv_o20 hI g13
                      refine iz_iast hx hb hK 0 c_f13_21 hS (iv_A hI g13 (by decide)) rfl (by omega) (by decide) dX12_rule_184 (fun H locs c9 oq hS => ?_)
                      have hI := iv_s20 hI g13 k_f13_21 c9 oq (by omega) (by omega) (by decide) (by omega)
                      have hO := hO.kept (oq _ (iv_ne0 g13 hM.2.1 (by decide)).symm)
                      clear oq c9
                      refine lv_aload_n hx hb dX12_rule_185 rfl (lv_at hl 3 rfl) ?_
                      refine iz_get (D := (dC, dI)) (ci := 12) (v := .ref (am 14)) (C := RX12) (T := TX12) (N := 49) hx hb hts hin hown hK hO rfl 14 (by decide) hL45 (fun _ h9 => h9) rfl dX12_rule_186 ?_
                      refine lv_aload_n hx hb dX12_rule_189 rfl (lv_at hl 3 rfl) ?_
                      refine iz_get (D := (dC, dI)) (ci := 12) (v := .int (kz (zi 9))) (C := RX12) (T := TX12) (N := 49) hx hb hts hin hown hK hO rfl 9 (by decide) hL138 (fun _ h9 => h9) rfl dX12_rule_190 ?_
                      refine lv_iload_n hx hb dX12_rule_193 rfl (lv_at hl 6 rfl) ?_
                      obtain ⟨f14_22, c_f14_22, k_f14_22⟩ := iv_o20 hI g14
                      refine iz_any (fun z_23 z_23a z_23b z_23e => ?_)
                      refine iz_iast hx hb hK 0 c_f14_22 hS (iv_A hI g14 (by decide)) rfl (by omega) (by decide) dX12_rule_194 (fun H locs c9 oq hS => ?_)
                      have hI := iv_s20 hI g14 k_f14_22 c9 oq (by omega) (by omega) (by decide) (by omega)
                      have hO := hO.kept (oq _ (iv_ne0 g14 hM.2.1 (by decide)).symm)
                      clear oq c9
                      refine lv_aload_n hx hb dX12_rule_195 rfl (lv_at hl 3 rfl) ?_
                      refine iz_get (D := (dC, dI)) (ci := 12) (v := .ref (am 15)) (C := RX12) (T := TX12) (N := 49) hx hb hts hin hown hK hO rfl 15 (by decide) hL48 (fun _ h9 => h9) rfl dX12_rule_196 ?_
                      refine lv_aload_n hx hb dX12_rule_199 rfl (lv_at hl 3 rfl) ?_
                      refine iz_get (D := (dC, dI)) (ci := 12) (v := .int (kz (zi 9))) (C := RX12) (T := TX12) (N := 49) hx hb hts hin hown hK hO rfl 9 (by decide) hL138 (fun _ h9 => h9) rfl dX12_rule_200 ?_
                      refine lv_iload hx hb dX12_rule_203 (lv_at hl 7 rfl) ?_
                      obtain ⟨f15_24, c_f15_24, k_f15_24⟩ := iv_o20 hI g15
                      refine iz_any (fun z_25 z_25a z_25b z_25e => ?_)
                      refine iz_iast hx hb hK 0 c_f15_24 hS (iv_A hI g15 (by decide)) rfl (by omega) (by decide) dX12_rule_205 (fun H locs c9 oq hS => ?_)
                      have hI := iv_s20 hI g15 k_f15_24 c9 oq (by omega) (by omega) (by decide) (by omega)
                      have hO := hO.kept (oq _ (iv_ne0 g15 hM.2.1 (by decide)).symm)
                      clear oq c9
                      refine lv_aload_n hx hb dX12_rule_206 rfl (lv_at hl 3 rfl) ?_
                      refine iz_get (D := (dC, dI)) (ci := 12) (v := .ref (am 16)) (C := RX12) (T := TX12) (N := 49) hx hb hts hin hown hK hO rfl 16 (by decide) hL51 (fun _ h9 => h9) rfl dX12_rule_207 ?_
                      refine lv_aload_n hx hb dX12_rule_210 rfl (lv_at hl 3 rfl) ?_
                      refine iz_get (D := (dC, dI)) (ci := 12) (v := .int (kz (zi 9))) (C := RX12) (T := TX12) (N := 49) hx hb hts hin hown hK hO rfl 9 (by decide) hL138 (fun _ h9 => h9) rfl dX12_rule_211 ?_
                      refine lv_iload hx hb dX12_rule_214 (lv_at hl 8 rfl) ?_
                      obtain ⟨f16_26, c_f16_26, k_f16_26⟩ := iv_o20 hI g16
                      refine iz_any (fun z_27 z_27a z_27b z_27e => ?_)
                      refine iz_iast hx hb hK 0 c_f16_26 hS (iv_A hI g16 (by decide)) rfl (by omega) (by decide) dX12_rule_216 (fun H locs c9 oq hS => ?_)
                      have hI := iv_s20 hI g16 k_f16_26 c9 oq (by omega) (by omega) (by decide) (by omega)
                      have hO := hO.kept (oq _ (iv_ne0 g16 hM.2.1 (by decide)).symm)
                      clear oq c9
                      refine lv_aload_n hx hb dX12_rule_217 rfl (lv_at hl 3 rfl) ?_
                      refine lv_dup hx hb dX12_rule_218 rfl ?_
                      refine iz_get (D := (dC, dI)) (ci := 12) (v := .int (kz (zi 9))) (C := RX12) (T := TX12) (N := 49) hx hb hts hin hown hK hO rfl 9 (by decide) hL138 (fun _ h9 => h9) rfl dX12_rule_219 ?_
                      refine lv_iconst (v := kz 1) hx hb dX12_rule_222 rfl ?_
                      refine iz_iadd hx hb dX12_rule_223 ?_
                      refine iz_put (D := (dC, dI)) (ci := 12) (v := .int (kz (zi 9 + 1))) (ty := .int) (C := RX12) (T := TX12) (N := 49) hx hb hts hin tyX12 tyX12_ok nmX12 hown hK hO hS hM.2.2.1 rfl 9 (by decide) hL138 (fun _ h9 => h9) rfl (by decide +kernel) rfl rfl (Nat.le_of_ble_eq_true rfl) dX12_rule_224 (fun H locs hO oq hS => ?_)
                      rw [mM_9] at hO
                      have hI := iv_skip hI hM.2.1 oq
                      have hO : va_at (dC, dI) vwCl (o, .inr (12, mM am (fup (fup zi 1 0) 9 (zi 9 + 1)) zl)) H := hO
                      clear oq
                      refine lv_aload_n hx hb dX12_rule_227 rfl (lv_at hl 3 rfl) ?_
                      refine iz_get (D := (dC, dI)) (ci := 12) (v := .int (kz (zi 9 + 1))) (C := RX12) (T := TX12) (N := 49) hx hb hts hin hown hK hO rfl 9 (by decide) hL138 (fun _ h9 => h9) rfl dX12_rule_228 ?_
                      refine lv_iconst (v := kz 1) hx hb dX12_rule_231 rfl ?_
                      refine iz_isub hx hb dX12_rule_232 ?_
                      exact W.iret (v := kz ((zi 9 + 1) - 1)) hx hb hr (fun t9 ht hW => ⟨⟨kz ((zi 9 + 1) - 1), ((fup (fup zi 1 0) 9 (zi 9 + 1)), zl), rfl, ⟨⟨⟨by show (0 : Int) ≤ 0; omega, by show 0 ≤ (60 : Int); omega⟩, ⟨z2a, z2b⟩, ⟨by show (0 : Int) ≤ (zi 9 + 1); omega, by show (zi 9 + 1) ≤ (24 : Int); omega⟩, ⟨z20a, z20b⟩, ⟨z21a, z21b⟩, ⟨z22a, z22b⟩, ⟨z26a, z26b⟩, ⟨z28a, z28b⟩, ⟨z34a, z34b⟩, ⟨z35a, z35b⟩, ⟨z38a, z38b⟩, ⟨z39a, z39b⟩, ⟨z46a, z46b⟩, by show zi 2 ≤ (X.2 (am 4) : Int); omega, by show zi 39 ≤ (X.2 (am 41) : Int); omega⟩, rfl⟩, va_K.moved hW.alike hK, by rw [ht]; exact ⟨hI, hO⟩⟩, hS.F ht⟩) hS.2.2 dX12_rule_233
                    · refine lv_aload_n hx hb dX12_rule_122 rfl (lv_at hl 3 rfl) ?_
                      refine iz_get (D := (dC, dI)) (ci := 12) (v := .ref (am 10)) (C := RX12) (T := TX12) (N := 49) hx hb hts hin hown hK hO rfl 10 (by decide) hL33 (fun _ h9 => h9) rfl dX12_rule_123 ?_
                      refine lv_bipush (v := kz 10) hx hb dX12_rule_126 (by decide) ?_
                      refine lv_aload_n hx hb dX12_rule_128 rfl (lv_at hl 3 rfl) ?_
                      refine iz_get (D := (dC, dI)) (ci := 12) (v := .int (kz (zi 9))) (C := RX12) (T := TX12) (N := 49) hx hb hts hin hown hK hO rfl 9 (by decide) hL138 (fun _ h9 => h9) rfl dX12_rule_129 ?_
                      refine iz_imul hx hb dX12_rule_132 ?_
                      refine lv_iload hx hb dX12_rule_133 (lv_at hl 0 rfl) ?_
                      refine iz_iadd hx hb dX12_rule_135 ?_
                      refine lv_aload_n hx hb dX12_rule_136 rfl (lv_at hl 3 rfl) ?_
                      refine iz_get (D := (dC, dI)) (ci := 12) (v := .ref (am 0)) (C := RX12) (T := TX12) (N := 49) hx hb hts hin hown hK hO rfl 0 (by decide) hL7 (fun _ h9 => h9) rfl dX12_rule_137 ?_
                      refine lv_iload hx hb dX12_rule_140 (lv_at hl 0 rfl) ?_
                      obtain ⟨f0_28, c_f0_28⟩ := iv_o21 hI g0
                      refine iz_bald hx hb hK 1 c_f0_28 rfl (by omega) (by decide) dX12_rule_142 ?_
                      have v_29a := kz_lo (f0_28 (Int.toNat i))
                      have v_29b := kz_hi (f0_28 (Int.toNat i))
                      change _ ≤ ge1 f0_28 i at v_29a
                      change ge1 f0_28 i ≤ _ at v_29b
                      obtain ⟨v_29, ev_29⟩ : ∃ z9 : Int, ge1 f0_28 i = z9 := ⟨_, rfl⟩
                      rw [ev_29] at v_29a v_29b ⊢
                      obtain ⟨f10_30, c_f10_30⟩ := iv_o21 hI g10
                      refine iz_bast hx hb hK 1 c_f10_30 hS (iv_A hI g10 (by decide)) rfl (by omega) (by decide) dX12_rule_143 (fun H locs c9 oq hS => ?_)
                      have hI := iv_s21 hI g10 c9 oq
                      have hO := hO.kept (oq _ (iv_ne0 g10 hM.2.1 (by decide)).symm)
                      have c_f0_28 := c_f0_28.kept (oq _ (iv_ne g0 g10 (by decide)))
                      clear oq c9
                      refine lv_iinc (v := kz (i + 1)) (lv' := [(8, .int (kz (i + 1))), (7, .int (kz 1)), (6, .int (kz (zi 1))), (0, .ref o), (1, .int (kz e1)), (2, .int (kz b1)), (3, .int (kz c1)), (4, .int (kz d1)), (5, .int (kz d2))]) hx hb dX12_rule_144 hl (k := 0) rfl (kz_add i 1) (by decide) rfl (fun ls hl => ?_)
                      refine lv_goto (tgt := 115) hx hb dX12_rule_147 (by decide) ?_
                      exact ihn_17 (n_17 - 1) (by omega) (i + 1) _ _ _ ⟨by omega, by omega, by omega, lv_sub hl [0, 1, 2, 3, 4, 5, 6, 7, 8] rfl, hI, hO, hS⟩
                  · refine iz_eqz (tgt := 97) hx hb dX12_rule_90 (by decide) (by unfold rg2; omega) (fun _ => ?_) (fun q9 => absurd q9 (by decide))
                    refine lv_iconst (v := kz 0) hx hb dX12_rule_97 rfl ?_
                    refine lv_istore (lv' := [(7, .int (kz 0)), (6, .int (kz (zi 1))), (0, .ref o), (1, .int (kz e1)), (2, .int (kz b1)), (3, .int (kz c1)), (4, .int (kz d1)), (5, .int (kz d2))]) hx hb dX12_rule_98 hl (by decide) rfl (fun ls hl => ?_)
                    refine lv_aload_n hx hb dX12_rule_100 rfl (lv_at hl 2 rfl) ?_
                    refine lv_iconst (v := kz 0) hx hb dX12_rule_101 rfl ?_
                    refine iz_put (D := (dC, dI)) (ci := 12) (v := .int (kz 0)) (ty := .int) (C := RX12) (T := TX12) (N := 49) hx hb hts hin tyX12 tyX12_ok nmX12 hown hK hO hS hM.2.2.1 rfl 1 (by decide) hL120 (fun _ h9 => h9) rfl (by decide +kernel) rfl rfl (Nat.le_of_ble_eq_true rfl) dX12_rule_102 (fun H locs hO oq hS => ?_)
                    rw [mM_1] at hO
                    have hI := iv_skip hI hM.2.1 oq
                    have hO : va_at (dC, dI) vwCl (o, .inr (12, mM am (fup zi 1 0) zl)) H := hO
                    clear oq
                    refine lv_iload hx hb dX12_rule_105 (lv_at hl 0 rfl) ?_
                    refine iz_nez (tgt := 112) hx hb dX12_rule_107 (by decide) (by unfold rg2; omega) (fun q9 => absurd q9 (by decide)) (fun _ => ?_)
                    refine lv_iconst (v := kz (-1)) hx hb dX12_rule_110 rfl ?_
                    exact W.iret (v := kz (-1)) hx hb hr (fun t9 ht hW => ⟨⟨kz (-1), ((fup zi 1 0), zl), rfl, ⟨⟨⟨by show (0 : Int) ≤ 0; omega, by show 0 ≤ (60 : Int); omega⟩, ⟨z2a, z2b⟩, ⟨z9a, z9b⟩, ⟨z20a, z20b⟩, ⟨z21a, z21b⟩, ⟨z22a, z22b⟩, ⟨z26a, z26b⟩, ⟨z28a, z28b⟩, ⟨z34a, z34b⟩, ⟨z35a, z35b⟩, ⟨z38a, z38b⟩, ⟨z39a, z39b⟩, ⟨z46a, z46b⟩, by show zi 2 ≤ (X.2 (am 4) : Int); omega, by show zi 39 ≤ (X.2 (am 41) : Int); omega⟩, rfl⟩, va_K.moved hW.alike hK, by rw [ht]; exact ⟨hI, hO⟩⟩, hS.F ht⟩) hS.2.2 dX12_rule_111
                · refine iz_eqz (tgt := 97) hx hb dX12_rule_78 (by decide) (by unfold rg2; omega) (fun _ => ?_) (fun q9 => absurd q9 (by decide))
                  refine lv_iconst (v := kz 0) hx hb dX12_rule_97 rfl ?_
                  refine lv_istore (lv' := [(7, .int (kz 0)), (6, .int (kz (zi 1))), (0, .ref o), (1, .int (kz e1)), (2, .int (kz b1)), (3, .int (kz c1)), (4, .int (kz d1)), (5, .int (kz d2))]) hx hb dX12_rule_98 hl (by decide) rfl (fun ls hl => ?_)
                  refine lv_aload_n hx hb dX12_rule_100 rfl (lv_at hl 2 rfl) ?_
                  refine lv_iconst (v := kz 0) hx hb dX12_rule_101 rfl ?_
                  refine iz_put (D := (dC, dI)) (ci := 12) (v := .int (kz 0)) (ty := .int) (C := RX12) (T := TX12) (N := 49) hx hb hts hin tyX12 tyX12_ok nmX12 hown hK hO hS hM.2.2.1 rfl 1 (by decide) hL120 (fun _ h9 => h9) rfl (by decide +kernel) rfl rfl (Nat.le_of_ble_eq_true rfl) dX12_rule_102 (fun H locs hO oq hS => ?_)
                  rw [mM_1] at hO
                  have hI := iv_skip hI hM.2.1 oq
                  have hO : va_at (dC, dI) vwCl (o, .inr (12, mM am (fup zi 1 0) zl)) H := hO
                  clear oq
                  refine lv_iload hx hb dX12_rule_105 (lv_at hl 0 rfl) ?_
                  refine iz_nez (tgt := 112) hx hb dX12_rule_107 (by decide) (by unfold rg2; omega) (fun q9 => absurd q9 (by decide)) (fun _ => ?_)
                  refine lv_iconst (v := kz (-1)) hx hb dX12_rule_110 rfl ?_
                  exact W.iret (v := kz (-1)) hx hb hr (fun t9 ht hW => ⟨⟨kz (-1), ((fup zi 1 0), zl), rfl, ⟨⟨⟨by show (0 : Int) ≤ 0; omega, by show 0 ≤ (60 : Int); omega⟩, ⟨z2a, z2b⟩, ⟨z9a, z9b⟩, ⟨z20a, z20b⟩, ⟨z21a, z21b⟩, ⟨z22a, z22b⟩, ⟨z26a, z26b⟩, ⟨z28a, z28b⟩, ⟨z34a, z34b⟩, ⟨z35a, z35b⟩, ⟨z38a, z38b⟩, ⟨z39a, z39b⟩, ⟨z46a, z46b⟩, by show zi 2 ≤ (X.2 (am 4) : Int); omega, by show zi 39 ≤ (X.2 (am 41) : Int); omega⟩, rfl⟩, va_K.moved hW.alike hK, by rw [ht]; exact ⟨hI, hO⟩⟩, hS.F ht⟩) hS.2.2 dX12_rule_111
              · refine iz_eqz (tgt := 97) hx hb dX12_rule_67 (by decide) (by unfold rg2; omega) (fun _ => ?_) (fun q9 => absurd q9 (by decide))
                refine lv_iconst (v := kz 0) hx hb dX12_rule_97 rfl ?_
                refine lv_istore (lv' := [(7, .int (kz 0)), (6, .int (kz (zi 1))), (0, .ref o), (1, .int (kz e1)), (2, .int (kz b1)), (3, .int (kz c1)), (4, .int (kz d1)), (5, .int (kz d2))]) hx hb dX12_rule_98 hl (by decide) rfl (fun ls hl => ?_)
                refine lv_aload_n hx hb dX12_rule_100 rfl (lv_at hl 2 rfl) ?_
                refine lv_iconst (v := kz 0) hx hb dX12_rule_101 rfl ?_
                refine iz_put (D := (dC, dI)) (ci := 12) (v := .int (kz 0)) (ty := .int) (C := RX12) (T := TX12) (N := 49) hx hb hts hin tyX12 tyX12_ok nmX12 hown hK hO hS hM.2.2.1 rfl 1 (by decide) hL120 (fun _ h9 => h9) rfl (by decide +kernel) rfl rfl (Nat.le_of_ble_eq_true rfl) dX12_rule_102 (fun H locs hO oq hS => ?_)
                rw [mM_1] at hO
                have hI := iv_skip hI hM.2.1 oq
                have hO : va_at (dC, dI) vwCl (o, .inr (12, mM am (fup zi 1 0) zl)) H := hO
                clear oq
                refine lv_iload hx hb dX12_rule_105 (lv_at hl 0 rfl) ?_
                refine iz_nez (tgt := 112) hx hb dX12_rule_107 (by decide) (by unfold rg2; omega) (fun q9 => absurd q9 (by decide)) (fun _ => ?_)
                refine lv_iconst (v := kz (-1)) hx hb dX12_rule_110 rfl ?_
                exact W.iret (v := kz (-1)) hx hb hr (fun t9 ht hW => ⟨⟨kz (-1), ((fup zi 1 0), zl), rfl, ⟨⟨⟨by show (0 : Int) ≤ 0; omega, by show 0 ≤ (60 : Int); omega⟩, ⟨z2a, z2b⟩, ⟨z9a, z9b⟩, ⟨z20a, z20b⟩, ⟨z21a, z21b⟩, ⟨z22a, z22b⟩, ⟨z26a, z26b⟩, ⟨z28a, z28b⟩, ⟨z34a, z34b⟩, ⟨z35a, z35b⟩, ⟨z38a, z38b⟩, ⟨z39a, z39b⟩, ⟨z46a, z46b⟩, by show zi 2 ≤ (X.2 (am 4) : Int); omega, by show zi 39 ≤ (X.2 (am 41) : Int); omega⟩, rfl⟩, va_K.moved hW.alike hK, by rw [ht]; exact ⟨hI, hO⟩⟩, hS.F ht⟩) hS.2.2 dX12_rule_111
            · refine iz_eqz (tgt := 97) hx hb dX12_rule_57 (by decide) (by unfold rg2; omega) (fun _ => ?_) (fun q9 => absurd q9 (by decide))
              refine lv_iconst (v := kz 0) hx hb dX12_rule_97 rfl ?_
              refine lv_istore (lv' := [(7, .int (kz 0)), (6, .int (kz (zi 1))), (0, .ref o), (1, .int (kz e1)), (2, .int (kz b1)), (3, .int (kz c1)), (4, .int (kz d1)), (5, .int (kz d2))]) hx hb dX12_rule_98 hl (by decide) rfl (fun ls hl => ?_)
              refine lv_aload_n hx hb dX12_rule_100 rfl (lv_at hl 2 rfl) ?_
              refine lv_iconst (v := kz 0) hx hb dX12_rule_101 rfl ?_
              refine iz_put (D := (dC, dI)) (ci := 12) (v := .int (kz 0)) (ty := .int) (C := RX12) (T := TX12) (N := 49) hx hb hts hin tyX12 tyX12_ok nmX12 hown hK hO hS hM.2.2.1 rfl 1 (by decide) hL120 (fun _ h9 => h9) rfl (by decide +kernel) rfl rfl (Nat.le_of_ble_eq_true rfl) dX12_rule_102 (fun H locs hO oq hS => ?_)
              rw [mM_1] at hO
              have hI := iv_skip hI hM.2.1 oq
              have hO : va_at (dC, dI) vwCl (o, .inr (12, mM am (fup zi 1 0) zl)) H := hO
              clear oq
              refine lv_iload hx hb dX12_rule_105 (lv_at hl 0 rfl) ?_
              refine iz_nez (tgt := 112) hx hb dX12_rule_107 (by decide) (by unfold rg2; omega) (fun q9 => absurd q9 (by decide)) (fun _ => ?_)
              refine lv_iconst (v := kz (-1)) hx hb dX12_rule_110 rfl ?_
              exact W.iret (v := kz (-1)) hx hb hr (fun t9 ht hW => ⟨⟨kz (-1), ((fup zi 1 0), zl), rfl, ⟨⟨⟨by show (0 : Int) ≤ 0; omega, by show 0 ≤ (60 : Int); omega⟩, ⟨z2a, z2b⟩, ⟨z9a, z9b⟩, ⟨z20a, z20b⟩, ⟨z21a, z21b⟩, ⟨z22a, z22b⟩, ⟨z26a, z26b⟩, ⟨z28a, z28b⟩, ⟨z34a, z34b⟩, ⟨z35a, z35b⟩, ⟨z38a, z38b⟩, ⟨z39a, z39b⟩, ⟨z46a, z46b⟩, by show zi 2 ≤ (X.2 (am 4) : Int); omega, by show zi 39 ≤ (X.2 (am 41) : Int); omega⟩, rfl⟩, va_K.moved hW.alike hK, by rw [ht]; exact ⟨hI, hO⟩⟩, hS.F ht⟩) hS.2.2 dX12_rule_111
        · refine iz_eqz (tgt := 97) hx hb dX12_rule_37 (by decide) (by unfold rg2; omega) (fun _ => ?_) (fun q9 => absurd q9 (by decide))
          refine lv_iconst (v := kz 0) hx hb dX12_rule_97 rfl ?_
          refine lv_istore (lv' := [(7, .int (kz 0)), (6, .int (kz (zi 1))), (0, .ref o), (1, .int (kz e1)), (2, .int (kz b1)), (3, .int (kz c1)), (4, .int (kz d1)), (5, .int (kz d2))]) hx hb dX12_rule_98 hl (by decide) rfl (fun ls hl => ?_)
          refine lv_aload_n hx hb dX12_rule_100 rfl (lv_at hl 2 rfl) ?_
          refine lv_iconst (v := kz 0) hx hb dX12_rule_101 rfl ?_
          refine iz_put (D := (dC, dI)) (ci := 12) (v := .int (kz 0)) (ty := .int) (C := RX12) (T := TX12) (N := 49) hx hb hts hin tyX12 tyX12_ok nmX12 hown hK hO hS hM.2.2.1 rfl 1 (by decide) hL120 (fun _ h9 => h9) rfl (by decide +kernel) rfl rfl (Nat.le_of_ble_eq_true rfl) dX12_rule_102 (fun H locs hO oq hS => ?_)
          rw [mM_1] at hO
          have hI := iv_skip hI hM.2.1 oq
          have hO : va_at (dC, dI) vwCl (o, .inr (12, mM am (fup zi 1 0) zl)) H := hO
          clear oq
          refine lv_iload hx hb dX12_rule_105 (lv_at hl 0 rfl) ?_
          refine iz_nez (tgt := 112) hx hb dX12_rule_107 (by decide) (by unfold rg2; omega) (fun q9 => absurd q9 (by decide)) (fun _ => ?_)
          refine lv_iconst (v := kz (-1)) hx hb dX12_rule_110 rfl ?_
          exact W.iret (v := kz (-1)) hx hb hr (fun t9 ht hW => ⟨⟨kz (-1), ((fup zi 1 0), zl), rfl, ⟨⟨⟨by show (0 : Int) ≤ 0; omega, by show 0 ≤ (60 : Int); omega⟩, ⟨z2a, z2b⟩, ⟨z9a, z9b⟩, ⟨z20a, z20b⟩, ⟨z21a, z21b⟩, ⟨z22a, z22b⟩, ⟨z26a, z26b⟩, ⟨z28a, z28b⟩, ⟨z34a, z34b⟩, ⟨z35a, z35b⟩, ⟨z38a, z38b⟩, ⟨z39a, z39b⟩, ⟨z46a, z46b⟩, by show zi 2 ≤ (X.2 (am 4) : Int); omega, by show zi 39 ≤ (X.2 (am 41) : Int); omega⟩, rfl⟩, va_K.moved hW.alike hK, by rw [ht]; exact ⟨hI, hO⟩⟩, hS.F ht⟩) hS.2.2 dX12_rule_111
      · refine iz_eqz (tgt := 97) hx hb dX12_rule_28 (by decide) (by unfold rg2; omega) (fun _ => ?_) (fun q9 => absurd q9 (by decide))
        refine lv_iconst (v := kz 0) hx hb dX12_rule_97 rfl ?_
        refine lv_istore (lv' := [(7, .int (kz 0)), (6, .int (kz (zi 1))), (0, .ref o), (1, .int (kz e1)), (2, .int (kz b1)), (3, .int (kz c1)), (4, .int (kz d1)), (5, .int (kz d2))]) hx hb dX12_rule_98 hl (by decide) rfl (fun ls hl => ?_)
        refine lv_aload_n hx hb dX12_rule_100 rfl (lv_at hl 2 rfl) ?_
        refine lv_iconst (v := kz 0) hx hb dX12_rule_101 rfl ?_
        refine iz_put (D := (dC, dI)) (ci := 12) (v := .int (kz 0)) (ty := .int) (C := RX12) (T := TX12) (N := 49) hx hb hts hin tyX12 tyX12_ok nmX12 hown hK hO hS hM.2.2.1 rfl 1 (by decide) hL120 (fun _ h9 => h9) rfl (by decide +kernel) rfl rfl (Nat.le_of_ble_eq_true rfl) dX12_rule_102 (fun H locs hO oq hS => ?_)
        rw [mM_1] at hO
        have hI := iv_skip hI hM.2.1 oq
        have hO : va_at (dC, dI) vwCl (o, .inr (12, mM am (fup zi 1 0) zl)) H := hO
        clear oq
        refine lv_iload hx hb dX12_rule_105 (lv_at hl 0 rfl) ?_
        refine iz_nez (tgt := 112) hx hb dX12_rule_107 (by decide) (by unfold rg2; omega) (fun q9 => absurd q9 (by decide)) (fun _ => ?_)
        refine lv_iconst (v := kz (-1)) hx hb dX12_rule_110 rfl ?_
        exact W.iret (v := kz (-1)) hx hb hr (fun t9 ht hW => ⟨⟨kz (-1), ((fup zi 1 0), zl), rfl, ⟨⟨⟨by show (0 : Int) ≤ 0; omega, by show 0 ≤ (60 : Int); omega⟩, ⟨z2a, z2b⟩, ⟨z9a, z9b⟩, ⟨z20a, z20b⟩, ⟨z21a, z21b⟩, ⟨z22a, z22b⟩, ⟨z26a, z26b⟩, ⟨z28a, z28b⟩, ⟨z34a, z34b⟩, ⟨z35a, z35b⟩, ⟨z38a, z38b⟩, ⟨z39a, z39b⟩, ⟨z46a, z46b⟩, by show zi 2 ≤ (X.2 (am 4) : Int); omega, by show zi 39 ≤ (X.2 (am 41) : Int); omega⟩, rfl⟩, va_K.moved hW.alike hK, by rw [ht]; exact ⟨hI, hO⟩⟩, hS.F ht⟩) hS.2.2 dX12_rule_111
  · refine iz_eqz (tgt := 97) hx hb dX12_rule_10 (by decide) (by unfold rg2; omega) (fun _ => ?_) (fun q9 => absurd q9 (by decide))
    refine lv_iconst (v := kz 0) hx hb dX12_rule_97 rfl ?_
    refine lv_istore (lv' := [(7, .int (kz 0)), (6, .int (kz (zi 1))), (0, .ref o), (1, .int (kz e1)), (2, .int (kz b1)), (3, .int (kz c1)), (4, .int (kz d1)), (5, .int (kz d2))]) hx hb dX12_rule_98 hl (by decide) rfl (fun ls hl => ?_)
    refine lv_aload_n hx hb dX12_rule_100 rfl (lv_at hl 2 rfl) ?_
    refine lv_iconst (v := kz 0) hx hb dX12_rule_101 rfl ?_
    refine iz_put (D := (dC, dI)) (ci := 12) (v := .int (kz 0)) (ty := .int) (C := RX12) (T := TX12) (N := 49) hx hb hts hin tyX12 tyX12_ok nmX12 hown hK hO hS hM.2.2.1 rfl 1 (by decide) hL120 (fun _ h9 => h9) rfl (by decide +kernel) rfl rfl (Nat.le_of_ble_eq_true rfl) dX12_rule_102 (fun H locs hO oq hS => ?_)
    rw [mM_1] at hO
    have hI := iv_skip hI hM.2.1 oq
    have hO : va_at (dC, dI) vwCl (o, .inr (12, mM am (fup zi 1 0) zl)) H := hO
    clear oq
    refine lv_iload hx hb dX12_rule_105 (lv_at hl 0 rfl) ?_
    refine iz_nez (tgt := 112) hx hb dX12_rule_107 (by decide) (by unfold rg2; omega) (fun q9 => absurd q9 (by decide)) (fun _ => ?_)
    refine lv_iconst (v := kz (-1)) hx hb dX12_rule_110 rfl ?_
    exact W.iret (v := kz (-1)) hx hb hr (fun t9 ht hW => ⟨⟨kz (-1), ((fup zi 1 0), zl), rfl, ⟨⟨⟨by show (0 : Int) ≤ 0; omega, by show 0 ≤ (60 : Int); omega⟩, ⟨z2a, z2b⟩, ⟨z9a, z9b⟩, ⟨z20a, z20b⟩, ⟨z21a, z21b⟩, ⟨z22a, z22b⟩, ⟨z26a, z26b⟩, ⟨z28a, z28b⟩, ⟨z34a, z34b⟩, ⟨z35a, z35b⟩, ⟨z38a, z38b⟩, ⟨z39a, z39b⟩, ⟨z46a, z46b⟩, by show zi 2 ≤ (X.2 (am 4) : Int); omega, by show zi 39 ≤ (X.2 (am 41) : Int); omega⟩, rfl⟩, va_K.moved hW.alike hK, by rw [ht]; exact ⟨hI, hO⟩⟩, hS.F ht⟩) hS.2.2 dX12_rule_111
