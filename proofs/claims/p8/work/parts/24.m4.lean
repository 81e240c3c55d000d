set_option maxHeartbeats 4000000 in
set_option maxRecDepth 100000 in
/-- X12_placeOf -/
theorem m_placeOf (l : Launch) (f : Int) (b : Int) (t : Int) : Met l yX12_placeOf wsX12_placeOf ({ frames := 0, cells := 0, slots := 0, locals := 0 }) (va_Pc [.int (kz f), .int (kz b), .int (kz t)] (fun U => True)) (vp_Si (fun r => ∃ z : Int, r = kz z ∧ z = (4 * f + b) * 41 + t)) 0 0 (fun _ => False) := by
  refine Met.ofW (cc := cX12_placeOf) (maxL := 3) (ret := (some .int)) (by decide) rfl ?_
  intro p e s m args below meth c s₁ B hml hv
  obtain ⟨rfl, -⟩ := hv
  have hx := B.exec
  have hb := B.bytes
  have hr := B.returns
  have hts := atoms_spec (ws := wsX12_placeOf) B.pre
  have hown : s.vm.findClass RX12 = some m.cls := findClass_of_methodNamed B.named
  have hl := lv_entry ([.int (kz f), .int (kz b), .int (kz t)]) (n := 3) (Nat.le_of_ble_eq_true rfl)
  rw [lg_entry_eq]
  generalize (lg_sl ([.int (kz f), .int (kz b), .int (kz t)]) ++ List.replicate (3 - (lg_sl ([.int (kz f), .int (kz b), .int (kz t)])).length) Slot.unset).toArray = ls at hl ⊢
  have hl : lv_has ls 3 [(0, .int (kz f)), (1, .int (kz b)), (2, .int (kz t))] := hl
  refine lv_iconst (v := kz 4) hx hb dX12_placeOf_0 rfl ?_
  refine lv_iload_n hx hb dX12_placeOf_1 rfl (lv_at hl 0 rfl) ?_
  refine iz_imul hx hb dX12_placeOf_2 ?_
  refine lv_iload_n hx hb dX12_placeOf_3 rfl (lv_at hl 1 rfl) ?_
  refine iz_iadd hx hb dX12_placeOf_4 ?_
  refine lv_bipush (v := kz 41) hx hb dX12_placeOf_5 (by decide) ?_
  refine iz_imul hx hb dX12_placeOf_7 ?_
  refine lv_iload_n hx hb dX12_placeOf_8 rfl (lv_at hl 2 rfl) ?_
  refine iz_iadd hx hb dX12_placeOf_9 ?_
  exact W.iret (v := kz ((((4 * f) + b) * 41) + t)) hx hb hr (fun t9 ht hW => ⟨kz ((((4 * f) + b) * 41) + t), rfl, ⟨((((4 * f) + b) * 41) + t), rfl, by omega⟩, ht⟩) (fun q h => absurd h List.not_mem_nil) dX12_placeOf_10
set_option maxHeartbeats 4000000 in
set_option maxRecDepth 100000 in
/-- X12_costOf -/
theorem m_costOf (l : Launch) (v : Int) : Met l yX12_costOf wsX12_costOf ({ frames := 0, cells := 0, slots := 0, locals := 0 }) (va_Pc [.int (kz v)] (fun U => True)) (vp_Si (fun r => True)) 0 0 (fun _ => False) := by
  refine Met.ofW (cc := cX12_costOf) (maxL := 1) (ret := (some .int)) (by decide) rfl ?_
  intro p e s m args below meth c s₁ B hml hv
  obtain ⟨rfl, -⟩ := hv
  have hx := B.exec
  have hb := B.bytes
  have hr := B.returns
  have hts := atoms_spec (ws := wsX12_costOf) B.pre
  have hown : s.vm.findClass RX12 = some m.cls := findClass_of_methodNamed B.named
  have hl := lv_entry ([.int (kz v)]) (n := 1) (Nat.le_of_ble_eq_true rfl)
  rw [lg_entry_eq]
  generalize (lg_sl ([.int (kz v)]) ++ List.replicate (1 - (lg_sl ([.int (kz v)])).length) Slot.unset).toArray = ls at hl ⊢
  have hl : lv_has ls 1 [(0, .int (kz v))] := hl
  refine lv_iload_n hx hb dX12_costOf_0 rfl (lv_at hl 0 rfl) ?_
  refine lv_bipush (v := kz 15) hx hb dX12_costOf_1 (by decide) ?_
  refine lv_ishr hx hb dX12_costOf_3 ?_
  refine iz_any (fun z_1 z_1a z_1b z_1e => ?_)
  exact W.iret (v := kz z_1) hx hb hr (fun t9 ht hW => ⟨kz z_1, rfl, trivial, ht⟩) (fun q h => absurd h List.not_mem_nil) dX12_costOf_4
set_option maxHeartbeats 4000000 in
set_option maxRecDepth 100000 in
/-- X12_behind -/
theorem m_behind (l : Launch) (dC : Nat → ClassId) (dI : Nat → Nat → Nat) (ca : Nat → ClassId) (A : Nat → Prop) (X : kGh) (o : Nat) (am : Nat → Nat) (zi : Nat → Int) (zl : Nat → Int64) (fc : Nat → Nat → Int32) (hM : mS X A o am) (hz : mZ X am zi) (hk : frk X am fc) (f : Int) (x : Int) (y : Int) (t : Int) (fi : 0 ≤ f ∧ f ≤ 39) (xi : 0 ≤ x) (yi : x ≤ y ∧ y ≤ 8) (ti : 0 ≤ t ∧ t ≤ 40) : Met l yX12_behind wsX12_behind ({ frames := 0, cells := 0, slots := 0, locals := 0 }) (va_Pc [.ref o, .int (kz f), .int (kz x), .int (kz y), .int (kz t)] (fun U => va_K (dC, dI) vwCl (k_tys ca) U ∧ mI (dC, dI) ca A X o am zi zl U.heap ∧ frz (dC, dI) ca am fc U.heap)) (vp_Si (fun r => (bh fc (zi 28) f x y t ∧ r = kz (t + y - x)) ∨ (¬ bh fc (zi 28) f x y t ∧ r = kz (-1)))) 0 0 (fun _ => False) := by
  refine Met.ofW (cc := cX12_behind) (maxL := 6) (ret := (some .int)) (by decide) rfl ?_
  intro p e s m args below meth c s₁ B hml hv
  obtain ⟨rfl, hK, ⟨hI, hO⟩, c_3, c_4, c_5, c_10, c_11, c_12, c_13, c_17, c_27, c_29, c_30, c_32, c_33, c_44⟩ := hv
  have hx := B.exec
  have hb := B.bytes
  have hr := B.returns
  have hts := atoms_spec (ws := wsX12_behind) B.pre
  have hown : s.vm.findClass RX12 = some m.cls := findClass_of_methodNamed B.named
  have hin : ∀ w ∈ u_ws RX12 TX12 49, w ∈ wsX12_behind := by decide +kernel
  have hL175 := hts (.fieldLink RX12 175 "JoinBenchModel" "lineSize" "I") (by decide +kernel)
  have hL13 := hts (.fieldLink RX12 13 "JoinBenchModel" "letters" "[B") (by decide +kernel)
  have hL76 := hts (.fieldLink RX12 76 "JoinBenchModel" "line" "[B") (by decide +kernel)
  have g3 : X.1 (am 3) = (103, 21, 320, 0, 0) := hM.1 3 _ rfl (by decide)
  have g27 : X.1 (am 27) = (127, 21, 40, 0, 0) := hM.1 27 _ rfl (by decide)
  obtain ⟨⟨z1a, z1b⟩, ⟨z2a, z2b⟩, ⟨z9a, z9b⟩, ⟨z20a, z20b⟩, ⟨z21a, z21b⟩, ⟨z22a, z22b⟩, ⟨z26a, z26b⟩, ⟨z28a, z28b⟩, ⟨z34a, z34b⟩, ⟨z35a, z35b⟩, ⟨z38a, z38b⟩, ⟨z39a, z39b⟩, ⟨z46a, z46b⟩, hzA, hzB⟩ := id hz
  obtain ⟨k_4, k_5, k_11, k_12, k_13, k_29, k_32, k_33, k_44⟩ := id hk
  have hl := lv_entry ([.ref o, .int (kz f), .int (kz x), .int (kz y), .int (kz t)]) (n := 6) (Nat.le_of_ble_eq_true rfl)
  rw [lg_entry_eq]
  generalize (lg_sl ([.ref o, .int (kz f), .int (kz x), .int (kz y), .int (kz t)]) ++ List.replicate (6 - (lg_sl ([.ref o, .int (kz f), .int (kz x), .int (kz y), .int (kz t)])).length) Slot.unset).toArray = ls at hl ⊢
  have hl : lv_has ls 6 [(0, .ref o), (1, .int (kz f)), (2, .int (kz x)), (3, .int (kz y)), (4, .int (kz t))] := hl
  refine lv_iload hx hb dX12_behind_0 (lv_at hl 4 rfl) ?_
  refine lv_iload_n hx hb dX12_behind_2 rfl (lv_at hl 3 rfl) ?_
  refine iz_iadd hx hb dX12_behind_3 ?_
  refine lv_iload_n hx hb dX12_behind_4 rfl (lv_at hl 2 rfl) ?_
  refine iz_isub hx hb dX12_behind_5 ?_
  refine lv_aload_n hx hb dX12_behind_6 rfl (lv_at hl 0 rfl) ?_
  refine iz_get (D := (dC, dI)) (ci := 12) (v := .int (kz (zi 28))) (C := RX12) (T := TX12) (N := 49) hx hb hts hin hown hK hO rfl 28 (by decide) hL175 (fun _ h9 => h9) rfl dX12_behind_7 ?_
  refine iz_le (tgt := 15) hx hb dX12_behind_10 (by decide) (by unfold rg2; omega) (fun br_1 => ?_) (fun br_1 => ?_)
  · refine lv_iload_n hx hb dX12_behind_15 rfl (lv_at hl 2 rfl) ?_
    refine lv_istore (lv' := [(5, .int (kz x)), (0, .ref o), (1, .int (kz f)), (2, .int (kz x)), (3, .int (kz y)), (4, .int (kz t))]) hx hb dX12_behind_16 hl (by decide) rfl (fun ls hl => ?_)
    refine iz_loopS1 (P := fun N9 k ls => (x ≤ k) ∧ (k ≤ y) ∧ (∀ k9 : Int, x ≤ k9 → k9 < k → ge1 (fc 3) (8 * f + k9) = ge1 (fc 27) (t + k9 - x)) ∧ y - k ≤ (N9 : Int) ∧ lv_has ls 6 [(5, .int (kz k)), (0, .ref o), (1, .int (kz f)), (2, .int (kz x)), (3, .int (kz y)), (4, .int (kz t))]) 100000 (x0 := x) ?_ ⟨by omega, by omega, fun k9 h1 h2 => by omega, by omega, lv_sub hl [0, 1, 2, 3, 4, 5] rfl⟩
    intro n_2 k ls ⟨n_2f0, n_2f1, n_2f2, n_2f3, hl⟩ ihn_2
    refine lv_iload hx hb dX12_behind_18 (lv_at hl 0 rfl) ?_
    refine lv_iload_n hx hb dX12_behind_20 rfl (lv_at hl 4 rfl) ?_
    refine iz_ge (tgt := 59) hx hb dX12_behind_21 (by decide) (by unfold rg2; omega) (fun br_3 => ?_) (fun br_3 => ?_)
    · refine lv_iload hx hb dX12_behind_59 (lv_at hl 5 rfl) ?_
      refine lv_iload_n hx hb dX12_behind_61 rfl (lv_at hl 4 rfl) ?_
      refine iz_iadd hx hb dX12_behind_62 ?_
      refine lv_iload_n hx hb dX12_behind_63 rfl (lv_at hl 3 rfl) ?_
      refine iz_isub hx hb dX12_behind_64 ?_
      exact W.iret (v := kz ((t + y) - x)) hx hb hr (fun t9 ht hW => ⟨kz ((t + y) - x), rfl, Or.inl ⟨⟨by omega, fun k9 h1 h2 => n_2f2 k9 h1 (by omega)⟩, rfl⟩, ht⟩) (fun q h => absurd h List.not_mem_nil) dX12_behind_65
    · refine lv_aload_n hx hb dX12_behind_24 rfl (lv_at hl 1 rfl) ?_
      refine iz_get (D := (dC, dI)) (ci := 12) (v := .ref (am 3)) (C := RX12) (T := TX12) (N := 49) hx hb hts hin hown hK hO rfl 3 (by decide) hL13 (fun _ h9 => h9) rfl dX12_behind_25 ?_
      refine lv_bipush (v := kz 8) hx hb dX12_behind_28 (by decide) ?_
      refine lv_iload_n hx hb dX12_behind_30 rfl (lv_at hl 2 rfl) ?_
      refine iz_imul hx hb dX12_behind_31 ?_
      refine lv_iload hx hb dX12_behind_32 (lv_at hl 0 rfl) ?_
      refine iz_iadd hx hb dX12_behind_34 ?_
      refine iz_bald hx hb hK 1 c_3 rfl (by omega) (by decide) dX12_behind_35 ?_
      have v_4a := kz_lo ((fc 3) (Int.toNat ((8 * f) + k)))
      have v_4b := kz_hi ((fc 3) (Int.toNat ((8 * f) + k)))
      change _ ≤ ge1 (fc 3) ((8 * f) + k) at v_4a
      change ge1 (fc 3) ((8 * f) + k) ≤ _ at v_4b
      obtain ⟨v_4, ev_4⟩ : ∃ z9 : Int, ge1 (fc 3) ((8 * f) + k) = z9 := ⟨_, rfl⟩
      rw [ev_4] at v_4a v_4b ⊢
      refine lv_aload_n hx hb dX12_behind_36 rfl (lv_at hl 1 rfl) ?_
      refine iz_get (D := (dC, dI)) (ci := 12) (v := .ref (am 27)) (C := RX12) (T := TX12) (N := 49) hx hb hts hin hown hK hO rfl 27 (by decide) hL76 (fun _ h9 => h9) rfl dX12_behind_37 ?_
      refine lv_iload hx hb dX12_behind_40 (lv_at hl 5 rfl) ?_
      refine lv_iload hx hb dX12_behind_42 (lv_at hl 0 rfl) ?_
      refine iz_iadd hx hb dX12_behind_44 ?_
      refine lv_iload_n hx hb dX12_behind_45 rfl (lv_at hl 3 rfl) ?_
      refine iz_isub hx hb dX12_behind_46 ?_
      refine iz_bald hx hb hK 1 c_27 rfl (by omega) (by decide) dX12_behind_47 ?_
      have v_5a := kz_lo ((fc 27) (Int.toNat ((t + k) - x)))
      have v_5b := kz_hi ((fc 27) (Int.toNat ((t + k) - x)))
      change _ ≤ ge1 (fc 27) ((t + k) - x) at v_5a
      change ge1 (fc 27) ((t + k) - x) ≤ _ at v_5b
      obtain ⟨v_5, ev_5⟩ : ∃ z9 : Int, ge1 (fc 27) ((t + k) - x) = z9 := ⟨_, rfl⟩
      rw [ev_5] at v_5a v_5b ⊢
      refine iz_eq (tgt := 53) hx hb dX12_behind_48 (by decide) (by unfold rg2; omega) (fun br_6 => ?_) (fun br_6 => ?_)
      · refine lv_iinc (v := kz (k + 1)) (lv' := [(5, .int (kz (k + 1))), (0, .ref o), (1, .int (kz f)), (2, .int (kz x)), (3, .int (kz y)), (4, .int (kz t))]) hx hb dX12_behind_53 hl (k := 0) rfl (kz_add k 1) (by decide) rfl (fun ls hl => ?_)
        refine lv_goto (tgt := 18) hx hb dX12_behind_56 (by decide) ?_
        exact ihn_2 (n_2 - 1) (by omega) (k + 1) _ ⟨by omega, by omega, (fun k9 h1 h2 => by by_cases q9 : k9 < k; exact n_2f2 k9 h1 q9; have q8 : k9 = k := (by omega); rw [q8]; omega), by omega, lv_sub hl [0, 1, 2, 3, 4, 5] rfl⟩
      · refine lv_iconst (v := kz (-1)) hx hb dX12_behind_51 rfl ?_
        exact W.iret (v := kz (-1)) hx hb hr (fun t9 ht hW => ⟨kz (-1), rfl, Or.inr ⟨fun q9 => by have q8 := q9.2 k (by omega) (by omega); omega, rfl⟩, ht⟩) (fun q h => absurd h List.not_mem_nil) dX12_behind_52
  · refine lv_iconst (v := kz (-1)) hx hb dX12_behind_13 rfl ?_
    exact W.iret (v := kz (-1)) hx hb hr (fun t9 ht hW => ⟨kz (-1), rfl, Or.inr ⟨fun q9 => by have q8 := q9.1; omega, rfl⟩, ht⟩) (fun q h => absurd h List.not_mem_nil) dX12_behind_14
set_option maxHeartbeats 4000000 in
set_option maxRecDepth 100000 in
/-- X12_passes -/
theorem m_passes (l : Launch) (dC : Nat → ClassId) (dI : Nat → Nat → Nat) (ca : Nat → ClassId) (A : Nat → Prop) (X : kGh) (o : Nat) (am : Nat → Nat) (zi : Nat → Int) (zl : Nat → Int64) (fc : Nat → Nat → Int32) (hM : mS X A o am) (hz : mZ X am zi) (hk : frk X am fc) (f : Int) (b : Int) (t : Int) (q : Int) (fi : 0 ≤ f ∧ f ≤ 39) (bi : 0 ≤ b ∧ b ≤ 3) (bs : b ≤ ge1 (fc 4) f) (ti : 0 ≤ t ∧ t ≤ 40) (qi : -1 ≤ q ∧ q ≤ 23) : Met l yX12_passes wsX12_passes ({ frames := 1, cells := 0, slots := 0, locals := 25 }) (va_Pc [.ref o, .int (kz f), .int (kz b), .int (kz t), .int (kz q)] (fun U => va_K (dC, dI) vwCl (k_tys ca) U ∧ mI (dC, dI) ca A X o am zi zl U.heap ∧ frz (dC, dI) ca am fc U.heap)) (vp_Si (fun r => (ps fc (zi 28) f b t q ∧ r = kz (ds fc f b t q)) ∨ (¬ ps fc (zi 28) f b t q ∧ r = kz (-1)))) 0 0 (fun _ => False) := by
  refine Met.ofW (cc := cX12_passes) (maxL := 7) (ret := (some .int)) (by decide) rfl ?_
  intro p e s m args below meth c s₁ B hml hv
  obtain ⟨rfl, hK, ⟨hI, hO⟩, c_3, c_4, c_5, c_10, c_11, c_12, c_13, c_17, c_27, c_29, c_30, c_32, c_33, c_44⟩ := hv
  have hx := B.exec
  have hb := B.bytes
  have hr := B.returns
  have hts := atoms_spec (ws := wsX12_passes) B.pre
  have hown : s.vm.findClass RX12 = some m.cls := findClass_of_methodNamed B.named
  have hin : ∀ w ∈ u_ws RX12 TX12 49, w ∈ wsX12_passes := by decide +kernel
  have hL16 := hts (.fieldLink RX12 16 "JoinBenchModel" "size" "[I") (by decide +kernel)
  have hL36 := hts (.fieldLink RX12 36 "JoinBenchModel" "ends" "[I") (by decide +kernel)
  have hL42 := hts (.fieldLink RX12 42 "JoinBenchModel" "comes" "[I") (by decide +kernel)
  have hL175 := hts (.fieldLink RX12 175 "JoinBenchModel" "lineSize" "I") (by decide +kernel)
  have hL33 := hts (.fieldLink RX12 33 "JoinBenchModel" "ruleText" "[B") (by decide +kernel)
  have hL39 := hts (.fieldLink RX12 39 "JoinBenchModel" "begins" "[I") (by decide +kernel)
  have hL76 := hts (.fieldLink RX12 76 "JoinBenchModel" "line" "[B") (by decide +kernel)
  have g4 : X.1 (am 4) = (104, 20, 40, 0, 8) := hM.1 4 _ rfl (by decide)
  have g11 : X.1 (am 11) = (111, 20, 24, 0, 3) := hM.1 11 _ rfl (by decide)
  have w11 : X.2 (am 11) = 0 := hM.2.2.2 11 _ rfl (by decide) (by decide) (by decide)
  have g13 : X.1 (am 13) = (113, 20, 24, 0, 4) := hM.1 13 _ rfl (by decide)
  have w13 : X.2 (am 13) = 0 := hM.2.2.2 13 _ rfl (by decide) (by decide) (by decide)
  have g10 : X.1 (am 10) = (110, 21, 240, 0, 0) := hM.1 10 _ rfl (by decide)
  have g12 : X.1 (am 12) = (112, 20, 24, 0, 3) := hM.1 12 _ rfl (by decide)
  have w12 : X.2 (am 12) = 0 := hM.2.2.2 12 _ rfl (by decide) (by decide) (by decide)
  have g27 : X.1 (am 27) = (127, 21, 40, 0, 0) := hM.1 27 _ rfl (by decide)
  obtain ⟨⟨z1a, z1b⟩, ⟨z2a, z2b⟩, ⟨z9a, z9b⟩, ⟨z20a, z20b⟩, ⟨z21a, z21b⟩, ⟨z22a, z22b⟩, ⟨z26a, z26b⟩, ⟨z28a, z28b⟩, ⟨z34a, z34b⟩, ⟨z35a, z35b⟩, ⟨z38a, z38b⟩, ⟨z39a, z39b⟩, ⟨z46a, z46b⟩, hzA, hzB⟩ := id hz
  obtain ⟨k_4, k_5, k_11, k_12, k_13, k_29, k_32, k_33, k_44⟩ := id hk
  have hl := lv_entry ([.ref o, .int (kz f), .int (kz b), .int (kz t), .int (kz q)]) (n := 7) (Nat.le_of_ble_eq_true rfl)
  rw [lg_entry_eq]
  generalize (lg_sl ([.ref o, .int (kz f), .int (kz b), .int (kz t), .int (kz q)]) ++ List.replicate (7 - (lg_sl ([.ref o, .int (kz f), .int (kz b), .int (kz t), .int (kz q)])).length) Slot.unset).toArray = ls at hl ⊢
  have hl : lv_has ls 7 [(0, .ref o), (1, .int (kz f)), (2, .int (kz b)), (3, .int (kz t)), (4, .int (kz q))] := hl
  refine lv_iload hx hb dX12_passes_0 (lv_at hl 4 rfl) ?_
  refine iz_gez (tgt := 19) hx hb dX12_passes_2 (by decide) (by unfold rg2; omega) (fun br_1 => ?_) (fun br_1 => ?_)
  · refine lv_iload_n hx hb dX12_passes_19 rfl (lv_at hl 2 rfl) ?_
    refine lv_aload_n hx hb dX12_passes_20 rfl (lv_at hl 0 rfl) ?_
    refine iz_get (D := (dC, dI)) (ci := 12) (v := .ref (am 11)) (C := RX12) (T := TX12) (N := 49) hx hb hts hin hown hK hO rfl 11 (by decide) hL36 (fun _ h9 => h9) rfl dX12_passes_21 ?_
    refine lv_iload hx hb dX12_passes_24 (lv_at hl 4 rfl) ?_
    refine iz_iald hx hb hK 0 c_11 rfl (by omega) (by decide) dX12_passes_26 ?_
    obtain ⟨v_2a, v_2b, v_2c⟩ := k_11 q (by omega)
    clear v_2c
    obtain ⟨v_2, ev_2⟩ : ∃ z9 : Int, ge1 (fc 11) q = z9 := ⟨_, rfl⟩
    rw [ev_2] at v_2a v_2b ⊢
    refine iz_iadd hx hb dX12_passes_27 ?_
    refine lv_aload_n hx hb dX12_passes_28 rfl (lv_at hl 0 rfl) ?_
    refine iz_get (D := (dC, dI)) (ci := 12) (v := .ref (am 4)) (C := RX12) (T := TX12) (N := 49) hx hb hts hin hown hK hO rfl 4 (by decide) hL16 (fun _ h9 => h9) rfl dX12_passes_29 ?_
    refine lv_iload_n hx hb dX12_passes_32 rfl (lv_at hl 1 rfl) ?_
    refine iz_iald hx hb hK 0 c_4 rfl (by omega) (by decide) dX12_passes_33 ?_
    obtain ⟨v_3a, v_3b, v_3c⟩ := k_4 f (by omega)
    obtain ⟨v_3, ev_3⟩ : ∃ z9 : Int, ge1 (fc 4) f = z9 := ⟨_, rfl⟩
    rw [ev_3] at v_3a v_3b v_3c ⊢
    refine iz_lt (tgt := 39) hx hb dX12_passes_34 (by decide) (by unfold rg2; omega) (fun br_4 => ?_) (fun br_4 => ?_)
    · refine lv_aload_n hx hb dX12_passes_39 rfl (lv_at hl 0 rfl) ?_
      refine lv_iload_n hx hb dX12_passes_40 rfl (lv_at hl 1 rfl) ?_
      refine lv_iload_n hx hb dX12_passes_41 rfl (lv_at hl 2 rfl) ?_
      refine lv_aload_n hx hb dX12_passes_42 rfl (lv_at hl 0 rfl) ?_
      refine iz_get (D := (dC, dI)) (ci := 12) (v := .ref (am 4)) (C := RX12) (T := TX12) (N := 49) hx hb hts hin hown hK hO rfl 4 (by decide) hL16 (fun _ h9 => h9) rfl dX12_passes_43 ?_
      refine lv_iload_n hx hb dX12_passes_46 rfl (lv_at hl 1 rfl) ?_
      refine iz_iald hx hb hK 0 c_4 rfl (by omega) (by decide) dX12_passes_47 ?_
      rw [ev_3]
      refine lv_aload_n hx hb dX12_passes_48 rfl (lv_at hl 0 rfl) ?_
      refine iz_get (D := (dC, dI)) (ci := 12) (v := .ref (am 11)) (C := RX12) (T := TX12) (N := 49) hx hb hts hin hown hK hO rfl 11 (by decide) hL36 (fun _ h9 => h9) rfl dX12_passes_49 ?_
      refine lv_iload hx hb dX12_passes_52 (lv_at hl 4 rfl) ?_
      refine iz_iald hx hb hK 0 c_11 rfl (by omega) (by decide) dX12_passes_54 ?_
      rw [ev_2]
      refine iz_isub hx hb dX12_passes_55 ?_
      refine lv_iload_n hx hb dX12_passes_56 rfl (lv_at hl 3 rfl) ?_
      refine vp_callSi (va_Run.run (va_runV (As := [.int (kz f), .int (kz b), .int (kz (v_3 - v_2)), .int (kz t)]) (rest := []) ⟨hx, hb, hml, hown, hts⟩ (m_behind l dC dI ca A X o am zi zl fc hM hz ⟨k_4, k_5, k_11, k_12, k_13, k_29, k_32, k_33, k_44⟩ f b (v_3 - v_2) t (by omega) (by omega) (by omega) (by omega)) (cwV 4 hts gX12_passes_X12_behind rfl rfl rfl (by decide +kernel) ⟨Nat.le_of_ble_eq_true rfl, Nat.le_of_ble_eq_true rfl⟩) ⟨fun a U g mk q => by obtain ⟨q0, qK, qI⟩ := q; exact ⟨q0, va_K.moved (u := U) (U := U.calling g mk a) (Vm.Alike.refl U.vm) qK, qI⟩, va_recv hK (at_P hO) (ci := 12) (q0 := 0) rfl rfl, fun U hU hW => ⟨rfl, va_K.moved hW.alike hK, by rw [hU]; exact ⟨⟨hI, hO⟩, c_3, c_4, c_5, c_10, c_11, c_12, c_13, c_17, c_27, c_29, c_30, c_32, c_33, c_44⟩⟩⟩ rfl rfl hl.1 rfl (lv_room (Nat.le_of_ble_eq_true rfl)) dX12_passes_57 ⟨Nat.le_of_ble_eq_true rfl, Nat.le_of_ble_eq_true rfl⟩)) (fun r_6 hw_5 => ?_)
      rcases hw_5 with ⟨hw_5, rfl⟩ | ⟨hw_5, rfl⟩
      · refine lv_istore (lv' := [(5, .int (kz (t + (v_3 - v_2) - b))), (0, .ref o), (1, .int (kz f)), (2, .int (kz b)), (3, .int (kz t)), (4, .int (kz q))]) hx hb dX12_passes_60 hl (by decide) rfl (fun ls hl => ?_)
        refine lv_iload hx hb dX12_passes_62 (lv_at hl 0 rfl) ?_
        refine iz_ltz (tgt := 84) hx hb dX12_passes_64 (by decide) (by unfold rg2; omega) (fun br_7 => ?_) (fun br_7 => ?_)
        · refine lv_iconst (v := kz (-1)) hx hb dX12_passes_84 rfl ?_
          exact W.iret (v := kz (-1)) hx hb hr (fun t9 ht hW => ⟨kz (-1), rfl, Or.inr ⟨fun q9 => by first | (have q8 := (q9.2 (by omega)).2.2.1; omega) | exact hw_5 (by have q8 := (q9.2 (by omega)).2.1; rw [ev_3, ev_2] at q8; exact q8), rfl⟩, ht⟩) (fun q h => absurd h List.not_mem_nil) dX12_passes_85
        · refine lv_iload hx hb dX12_passes_67 (lv_at hl 0 rfl) ?_
          refine lv_aload_n hx hb dX12_passes_69 rfl (lv_at hl 1 rfl) ?_
          refine iz_get (D := (dC, dI)) (ci := 12) (v := .ref (am 13)) (C := RX12) (T := TX12) (N := 49) hx hb hts hin hown hK hO rfl 13 (by decide) hL42 (fun _ h9 => h9) rfl dX12_passes_70 ?_
          refine lv_iload hx hb dX12_passes_73 (lv_at hl 5 rfl) ?_
          refine iz_iald hx hb hK 0 c_13 rfl (by omega) (by decide) dX12_passes_75 ?_
          obtain ⟨v_8a, v_8b, v_8c⟩ := k_13 q (by omega)
          clear v_8c
          obtain ⟨v_8, ev_8⟩ : ∃ z9 : Int, ge1 (fc 13) q = z9 := ⟨_, rfl⟩
          rw [ev_8] at v_8a v_8b ⊢
          refine iz_iadd hx hb dX12_passes_76 ?_
          refine lv_aload_n hx hb dX12_passes_77 rfl (lv_at hl 1 rfl) ?_
          refine iz_get (D := (dC, dI)) (ci := 12) (v := .int (kz (zi 28))) (C := RX12) (T := TX12) (N := 49) hx hb hts hin hown hK hO rfl 28 (by decide) hL175 (fun _ h9 => h9) rfl dX12_passes_78 ?_
          refine iz_le (tgt := 86) hx hb dX12_passes_81 (by decide) (by unfold rg2; omega) (fun br_9 => ?_) (fun br_9 => ?_)
          · refine lv_iconst (v := kz 0) hx hb dX12_passes_86 rfl ?_
            refine lv_istore (lv' := [(6, .int (kz 0)), (5, .int (kz (t + (v_3 - v_2) - b))), (0, .ref o), (1, .int (kz f)), (2, .int (kz b)), (3, .int (kz t)), (4, .int (kz q))]) hx hb dX12_passes_87 hl (by decide) rfl (fun ls hl => ?_)
            refine iz_loopS1 (P := fun N9 k ls => (0 ≤ k) ∧ (k ≤ 4) ∧ (∀ k9 : Int, 0 ≤ k9 → k9 < k → ge1 (fc 10) (10 * q + ge1 (fc 11) q + ge1 (fc 12) q + k9) = ge1 (fc 27) (t + (ge1 (fc 4) f - ge1 (fc 11) q) - b + k9)) ∧ 4 - k ≤ (N9 : Int) ∧ lv_has ls 7 [(6, .int (kz k)), (5, .int (kz (t + (v_3 - v_2) - b))), (0, .ref o), (1, .int (kz f)), (2, .int (kz b)), (3, .int (kz t)), (4, .int (kz q))]) 100000 (x0 := 0) ?_ ⟨by omega, by omega, fun k9 h1 h2 => by omega, by omega, lv_sub hl [0, 1, 2, 3, 4, 5, 6] rfl⟩
            intro n_10 k ls ⟨n_10f0, n_10f1, n_10f2, n_10f3, hl⟩ ihn_10
            refine lv_iload hx hb dX12_passes_89 (lv_at hl 0 rfl) ?_
            refine lv_aload_n hx hb dX12_passes_91 rfl (lv_at hl 2 rfl) ?_
            refine iz_get (D := (dC, dI)) (ci := 12) (v := .ref (am 13)) (C := RX12) (T := TX12) (N := 49) hx hb hts hin hown hK hO rfl 13 (by decide) hL42 (fun _ h9 => h9) rfl dX12_passes_92 ?_
            refine lv_iload hx hb dX12_passes_95 (lv_at hl 6 rfl) ?_
            refine iz_iald hx hb hK 0 c_13 rfl (by omega) (by decide) dX12_passes_97 ?_
            rw [ev_8]
            refine iz_ge (tgt := 151) hx hb dX12_passes_98 (by decide) (by unfold rg2; omega) (fun br_11 => ?_) (fun br_11 => ?_)
            · refine lv_iload hx hb dX12_passes_151 (lv_at hl 1 rfl) ?_
              refine lv_aload_n hx hb dX12_passes_153 rfl (lv_at hl 2 rfl) ?_
              refine iz_get (D := (dC, dI)) (ci := 12) (v := .ref (am 13)) (C := RX12) (T := TX12) (N := 49) hx hb hts hin hown hK hO rfl 13 (by decide) hL42 (fun _ h9 => h9) rfl dX12_passes_154 ?_
              refine lv_iload hx hb dX12_passes_157 (lv_at hl 6 rfl) ?_
              refine iz_iald hx hb hK 0 c_13 rfl (by omega) (by decide) dX12_passes_159 ?_
              rw [ev_8]
              refine iz_iadd hx hb dX12_passes_160 ?_
              exact W.iret (v := kz ((t + (v_3 - v_2) - b) + v_8)) hx hb hr (fun t9 ht hW => ⟨kz ((t + (v_3 - v_2) - b) + v_8), rfl, Or.inl ⟨⟨fun q9 => absurd q9 (by omega), fun _ => ⟨by omega, by rw [ev_3, ev_2]; exact hw_5, by omega, fun k9 h1 h2 => n_10f2 k9 h1 (by omega)⟩⟩, by unfold ds; rw [if_neg (by omega), ev_3, ev_2, ev_8]⟩, ht⟩) (fun q h => absurd h List.not_mem_nil) dX12_passes_161
            · refine lv_aload_n hx hb dX12_passes_101 rfl (lv_at hl 2 rfl) ?_
              refine iz_get (D := (dC, dI)) (ci := 12) (v := .ref (am 10)) (C := RX12) (T := TX12) (N := 49) hx hb hts hin hown hK hO rfl 10 (by decide) hL33 (fun _ h9 => h9) rfl dX12_passes_102 ?_
              refine lv_bipush (v := kz 10) hx hb dX12_passes_105 (by decide) ?_
              refine lv_iload hx hb dX12_passes_107 (lv_at hl 6 rfl) ?_
              refine iz_imul hx hb dX12_passes_109 ?_
              refine lv_aload_n hx hb dX12_passes_110 rfl (lv_at hl 2 rfl) ?_
              refine iz_get (D := (dC, dI)) (ci := 12) (v := .ref (am 11)) (C := RX12) (T := TX12) (N := 49) hx hb hts hin hown hK hO rfl 11 (by decide) hL36 (fun _ h9 => h9) rfl dX12_passes_111 ?_
              refine lv_iload hx hb dX12_passes_114 (lv_at hl 6 rfl) ?_
              refine iz_iald hx hb hK 0 c_11 rfl (by omega) (by decide) dX12_passes_116 ?_
              rw [ev_2]
              refine iz_iadd hx hb dX12_passes_117 ?_
              refine lv_aload_n hx hb dX12_passes_118 rfl (lv_at hl 2 rfl) ?_
              refine iz_get (D := (dC, dI)) (ci := 12) (v := .ref (am 12)) (C := RX12) (T := TX12) (N := 49) hx hb hts hin hown hK hO rfl 12 (by decide) hL39 (fun _ h9 => h9) rfl dX12_passes_119 ?_
              refine lv_iload hx hb dX12_passes_122 (lv_at hl 6 rfl) ?_
              refine iz_iald hx hb hK 0 c_12 rfl (by omega) (by decide) dX12_passes_124 ?_
              obtain ⟨v_12a, v_12b, v_12c⟩ := k_12 q (by omega)
              clear v_12c
              obtain ⟨v_12, ev_12⟩ : ∃ z9 : Int, ge1 (fc 12) q = z9 := ⟨_, rfl⟩
              rw [ev_12] at v_12a v_12b ⊢
              refine iz_iadd hx hb dX12_passes_125 ?_
              refine lv_iload hx hb dX12_passes_126 (lv_at hl 0 rfl) ?_
              refine iz_iadd hx hb dX12_passes_128 ?_
              refine iz_bald hx hb hK 1 c_10 rfl (by omega) (by decide) dX12_passes_129 ?_
              have v_13a := kz_lo ((fc 10) (Int.toNat ((((10 * q) + v_2) + v_12) + k)))
              have v_13b := kz_hi ((fc 10) (Int.toNat ((((10 * q) + v_2) + v_12) + k)))
              change _ ≤ ge1 (fc 10) ((((10 * q) + v_2) + v_12) + k) at v_13a
              change ge1 (fc 10) ((((10 * q) + v_2) + v_12) + k) ≤ _ at v_13b
              obtain ⟨v_13, ev_13⟩ : ∃ z9 : Int, ge1 (fc 10) ((((10 * q) + v_2) + v_12) + k) = z9 := ⟨_, rfl⟩
              rw [ev_13] at v_13a v_13b ⊢
              refine lv_aload_n hx hb dX12_passes_130 rfl (lv_at hl 2 rfl) ?_
              refine iz_get (D := (dC, dI)) (ci := 12) (v := .ref (am 27)) (C := RX12) (T := TX12) (N := 49) hx hb hts hin hown hK hO rfl 27 (by decide) hL76 (fun _ h9 => h9) rfl dX12_passes_131 ?_
              refine lv_iload hx hb dX12_passes_134 (lv_at hl 1 rfl) ?_
              refine lv_iload hx hb dX12_passes_136 (lv_at hl 0 rfl) ?_
              refine iz_iadd hx hb dX12_passes_138 ?_
              refine iz_bald hx hb hK 1 c_27 rfl (by omega) (by decide) dX12_passes_139 ?_
              have v_14a := kz_lo ((fc 27) (Int.toNat ((t + (v_3 - v_2) - b) + k)))
              have v_14b := kz_hi ((fc 27) (Int.toNat ((t + (v_3 - v_2) - b) + k)))
              change _ ≤ ge1 (fc 27) ((t + (v_3 - v_2) - b) + k) at v_14a
              change ge1 (fc 27) ((t + (v_3 - v_2) - b) + k) ≤ _ at v_14b
              obtain ⟨v_14, ev_14⟩ : ∃ z9 : Int, ge1 (fc 27) ((t + (v_3 - v_2) - b) + k) = z9 := ⟨_, rfl⟩
              rw [ev_14] at v_14a v_14b ⊢
              refine iz_eq (tgt := 145) hx hb dX12_passes_140 (by decide) (by unfold rg2; omega) (fun br_15 => ?_) (fun br_15 => ?_)
              · refine lv_iinc (v := kz (k + 1)) (lv' := [(6, .int (kz (k + 1))), (5, .int (kz (t + (v_3 - v_2) - b))), (0, .ref o), (1, .int (kz f)), (2, .int (kz b)), (3, .int (kz t)), (4, .int (kz q))]) hx hb dX12_passes_145 hl (k := 0) rfl (kz_add k 1) (by decide) rfl (fun ls hl => ?_)
                refine lv_goto (tgt := 89) hx hb dX12_passes_148 (by decide) ?_
                exact ihn_10 (n_10 - 1) (by omega) (k + 1) _ ⟨by omega, by omega, (fun k9 h1 h2 => by by_cases q9 : k9 < k; exact n_10f2 k9 h1 q9; have q8 : k9 = k := (by omega); rw [q8, ev_2, ev_12, ev_3]; omega), by omega, lv_sub hl [0, 1, 2, 3, 4, 5, 6] rfl⟩
              · refine lv_iconst (v := kz (-1)) hx hb dX12_passes_143 rfl ?_
                exact W.iret (v := kz (-1)) hx hb hr (fun t9 ht hW => ⟨kz (-1), rfl, Or.inr ⟨fun q9 => by have q8 := (q9.2 (by omega)).2.2.2 k (by omega) (by omega); rw [ev_2, ev_12, ev_3] at q8; omega, rfl⟩, ht⟩) (fun q h => absurd h List.not_mem_nil) dX12_passes_144
          · refine lv_iconst (v := kz (-1)) hx hb dX12_passes_84 rfl ?_
            exact W.iret (v := kz (-1)) hx hb hr (fun t9 ht hW => ⟨kz (-1), rfl, Or.inr ⟨fun q9 => by first | (have q8 := (q9.2 (by omega)).2.2.1; omega) | exact hw_5 (by have q8 := (q9.2 (by omega)).2.1; rw [ev_3, ev_2] at q8; exact q8), rfl⟩, ht⟩) (fun q h => absurd h List.not_mem_nil) dX12_passes_85
      · refine lv_istore (lv' := [(5, .int (kz (-1))), (0, .ref o), (1, .int (kz f)), (2, .int (kz b)), (3, .int (kz t)), (4, .int (kz q))]) hx hb dX12_passes_60 hl (by decide) rfl (fun ls hl => ?_)
        refine lv_iload hx hb dX12_passes_62 (lv_at hl 0 rfl) ?_
        refine iz_ltz (tgt := 84) hx hb dX12_passes_64 (by decide) (by unfold rg2; omega) (fun _ => ?_) (fun q9 => absurd q9 (by decide))
        refine lv_iconst (v := kz (-1)) hx hb dX12_passes_84 rfl ?_
        exact W.iret (v := kz (-1)) hx hb hr (fun t9 ht hW => ⟨kz (-1), rfl, Or.inr ⟨fun q9 => by first | (have q8 := (q9.2 (by omega)).2.2.1; omega) | exact hw_5 (by have q8 := (q9.2 (by omega)).2.1; rw [ev_3, ev_2] at q8; exact q8), rfl⟩, ht⟩) (fun q h => absurd h List.not_mem_nil) dX12_passes_85
    · refine lv_iconst (v := kz (-1)) hx hb dX12_passes_37 rfl ?_
      exact W.iret (v := kz (-1)) hx hb hr (fun t9 ht hW => ⟨kz (-1), rfl, Or.inr ⟨fun q9 => by have q8 := (q9.2 (by omega)).1; omega, rfl⟩, ht⟩) (fun q h => absurd h List.not_mem_nil) dX12_passes_38
  · refine lv_aload_n hx hb dX12_passes_5 rfl (lv_at hl 0 rfl) ?_
    refine lv_iload_n hx hb dX12_passes_6 rfl (lv_at hl 1 rfl) ?_
    refine lv_iload_n hx hb dX12_passes_7 rfl (lv_at hl 2 rfl) ?_
    refine lv_aload_n hx hb dX12_passes_8 rfl (lv_at hl 0 rfl) ?_
    refine iz_get (D := (dC, dI)) (ci := 12) (v := .ref (am 4)) (C := RX12) (T := TX12) (N := 49) hx hb hts hin hown hK hO rfl 4 (by decide) hL16 (fun _ h9 => h9) rfl dX12_passes_9 ?_
    refine lv_iload_n hx hb dX12_passes_12 rfl (lv_at hl 1 rfl) ?_
    refine iz_iald hx hb hK 0 c_4 rfl (by omega) (by decide) dX12_passes_13 ?_
    obtain ⟨v_16a, v_16b, v_16c⟩ := k_4 f (by omega)
    obtain ⟨v_16, ev_16⟩ : ∃ z9 : Int, ge1 (fc 4) f = z9 := ⟨_, rfl⟩
    rw [ev_16] at v_16a v_16b v_16c ⊢
    refine lv_iload_n hx hb dX12_passes_14 rfl (lv_at hl 3 rfl) ?_
    refine vp_callSi (va_Run.run (va_runV (As := [.int (kz f), .int (kz b), .int (kz v_16), .int (kz t)]) (rest := []) ⟨hx, hb, hml, hown, hts⟩ (m_behind l dC dI ca A X o am zi zl fc hM hz ⟨k_4, k_5, k_11, k_12, k_13, k_29, k_32, k_33, k_44⟩ f b v_16 t (by omega) (by omega) (by omega) (by omega)) (cwV 4 hts gX12_passes_X12_behind rfl rfl rfl (by decide +kernel) ⟨Nat.le_of_ble_eq_true rfl, Nat.le_of_ble_eq_true rfl⟩) ⟨fun a U g mk q => by obtain ⟨q0, qK, qI⟩ := q; exact ⟨q0, va_K.moved (u := U) (U := U.calling g mk a) (Vm.Alike.refl U.vm) qK, qI⟩, va_recv hK (at_P hO) (ci := 12) (q0 := 0) rfl rfl, fun U hU hW => ⟨rfl, va_K.moved hW.alike hK, by rw [hU]; exact ⟨⟨hI, hO⟩, c_3, c_4, c_5, c_10, c_11, c_12, c_13, c_17, c_27, c_29, c_30, c_32, c_33, c_44⟩⟩⟩ rfl rfl hl.1 rfl (lv_room (Nat.le_of_ble_eq_true rfl)) dX12_passes_15 ⟨Nat.le_of_ble_eq_true rfl, Nat.le_of_ble_eq_true rfl⟩)) (fun r_18 hw_17 => ?_)
    rcases hw_17 with ⟨hw_17, rfl⟩ | ⟨hw_17, rfl⟩
    · exact W.iret (v := kz (t + v_16 - b)) hx hb hr (fun t9 ht hW => ⟨kz (t + v_16 - b), rfl, Or.inl ⟨⟨fun _ => by rw [ev_16]; exact hw_17, fun q9 => absurd q9 (by omega)⟩, by unfold ds; rw [if_pos (by omega), ev_16]⟩, ht⟩) (fun q h => absurd h List.not_mem_nil) dX12_passes_18
    · exact W.iret (v := kz (-1)) hx hb hr (fun t9 ht hW => ⟨kz (-1), rfl, Or.inr ⟨fun q9 => hw_17 (by have q8 := q9.1 (by omega); rw [ev_16] at q8; exact q8), rfl⟩, ht⟩) (fun q h => absurd h List.not_mem_nil) dX12_passes_18
set_option maxHeartbeats 4000000 in
set_option maxRecDepth 100000 in
/-- X12_isBetween -/
theorem m_isBetween (l : Launch) (dC : Nat → ClassId) (dI : Nat → Nat → Nat) (ca : Nat → ClassId) (A : Nat → Prop) (X : kGh) (o : Nat) (am : Nat → Nat) (zi : Nat → Int) (zl : Nat → Int64) (fc : Nat → Nat → Int32) (hM : mS X A o am) (hz : mZ X am zi) (hk : frk X am fc) (f : Int) (g : Int) (q : Int) (fi : 0 ≤ f ∧ f ≤ 39) (gi : 0 ≤ g ∧ g ≤ 39) (qi : -1 ≤ q ∧ q ≤ 23) : Met l yX12_isBetween wsX12_isBetween ({ frames := 0, cells := 0, slots := 0, locals := 0 }) (va_Pc [.ref o, .int (kz f), .int (kz g), .int (kz q)] (fun U => va_K (dC, dI) vwCl (k_tys ca) U ∧ mI (dC, dI) ca A X o am zi zl U.heap ∧ frz (dC, dI) ca am fc U.heap)) (vp_Si (fun r => bZ r (bw fc (zi 34) f g q))) 0 0 (fun _ => False) := by
  refine Met.ofW (cc := cX12_isBetween) (maxL := 4) (ret := (some .boolean)) (by decide) rfl ?_
  intro p e s m args below meth c s₁ B hml hv
  obtain ⟨rfl, hK, ⟨hI, hO⟩, c_3, c_4, c_5, c_10, c_11, c_12, c_13, c_17, c_27, c_29, c_30, c_32, c_33, c_44⟩ := hv
  have hx := B.exec
  have hb := B.bytes
  have hr := B.returns
  have hts := atoms_spec (ws := wsX12_isBetween) B.pre
  have hown : s.vm.findClass RX12 = some m.cls := findClass_of_methodNamed B.named
  have hin : ∀ w ∈ u_ws RX12 TX12 49, w ∈ wsX12_isBetween := by decide +kernel
  have hL182 := hts (.fieldLink RX12 182 "JoinBenchModel" "isCut" "Z") (by decide +kernel)
  have hL54 := hts (.fieldLink RX12 54 "JoinBenchModel" "mayNot" "[Z") (by decide +kernel)
  have hL20 := hts (.fieldLink RX12 20 "JoinBenchModel" "kind" "[I") (by decide +kernel)
  have hL79 := hts (.fieldLink RX12 79 "JoinBenchModel" "fit" "[I") (by decide +kernel)
  have hL39 := hts (.fieldLink RX12 39 "JoinBenchModel" "begins" "[I") (by decide +kernel)
  have hL16 := hts (.fieldLink RX12 16 "JoinBenchModel" "size" "[I") (by decide +kernel)
  have g17 : X.1 (am 17) = (117, 22, 36, 0, 0) := hM.1 17 _ rfl (by decide)
  have g5 : X.1 (am 5) = (105, 20, 40, 0, 5) := hM.1 5 _ rfl (by decide)
  have w5 : X.2 (am 5) = 0 := hM.2.2.2 5 _ rfl (by decide) (by decide) (by decide)
  have g29 : X.1 (am 29) = (129, 20, 1600, -2147483648, 2147483647) := hM.1 29 _ rfl (by decide)
  have w29 : X.2 (am 29) = 0 := hM.2.2.2 29 _ rfl (by decide) (by decide) (by decide)
  have g12 : X.1 (am 12) = (112, 20, 24, 0, 3) := hM.1 12 _ rfl (by decide)
  have w12 : X.2 (am 12) = 0 := hM.2.2.2 12 _ rfl (by decide) (by decide) (by decide)
  have g4 : X.1 (am 4) = (104, 20, 40, 0, 8) := hM.1 4 _ rfl (by decide)
  obtain ⟨⟨z1a, z1b⟩, ⟨z2a, z2b⟩, ⟨z9a, z9b⟩, ⟨z20a, z20b⟩, ⟨z21a, z21b⟩, ⟨z22a, z22b⟩, ⟨z26a, z26b⟩, ⟨z28a, z28b⟩, ⟨z34a, z34b⟩, ⟨z35a, z35b⟩, ⟨z38a, z38b⟩, ⟨z39a, z39b⟩, ⟨z46a, z46b⟩, hzA, hzB⟩ := id hz
  obtain ⟨k_4, k_5, k_11, k_12, k_13, k_29, k_32, k_33, k_44⟩ := id hk
  have hl := lv_entry ([.ref o, .int (kz f), .int (kz g), .int (kz q)]) (n := 4) (Nat.le_of_ble_eq_true rfl)
  rw [lg_entry_eq]
  generalize (lg_sl ([.ref o, .int (kz f), .int (kz g), .int (kz q)]) ++ List.replicate (4 - (lg_sl ([.ref o, .int (kz f), .int (kz g), .int (kz q)])).length) Slot.unset).toArray = ls at hl ⊢
  have hl : lv_has ls 4 [(0, .ref o), (1, .int (kz f)), (2, .int (kz g)), (3, .int (kz q))] := hl
  refine lv_aload_n hx hb dX12_isBetween_0 rfl (lv_at hl 0 rfl) ?_
  refine iz_get (D := (dC, dI)) (ci := 12) (v := .int (kz (zi 34))) (C := RX12) (T := TX12) (N := 49) hx hb hts hin hown hK hO rfl 34 (by decide) hL182 (fun _ h9 => h9) rfl dX12_isBetween_1 ?_
  refine iz_eqz (tgt := 33) hx hb dX12_isBetween_4 (by decide) (by unfold rg2; omega) (fun br_1 => ?_) (fun br_1 => ?_)
  · refine lv_iload_n hx hb dX12_isBetween_33 rfl (lv_at hl 3 rfl) ?_
    refine iz_gez (tgt := 59) hx hb dX12_isBetween_34 (by decide) (by unfold rg2; omega) (fun br_2 => ?_) (fun br_2 => ?_)
    · refine lv_aload_n hx hb dX12_isBetween_59 rfl (lv_at hl 0 rfl) ?_
      refine iz_get (D := (dC, dI)) (ci := 12) (v := .ref (am 29)) (C := RX12) (T := TX12) (N := 49) hx hb hts hin hown hK hO rfl 29 (by decide) hL79 (fun _ h9 => h9) rfl dX12_isBetween_60 ?_
      refine lv_bipush (v := kz 40) hx hb dX12_isBetween_63 (by decide) ?_
      refine lv_iload_n hx hb dX12_isBetween_65 rfl (lv_at hl 1 rfl) ?_
      refine iz_imul hx hb dX12_isBetween_66 ?_
      refine lv_iload_n hx hb dX12_isBetween_67 rfl (lv_at hl 2 rfl) ?_
      refine iz_iadd hx hb dX12_isBetween_68 ?_
      refine iz_iald hx hb hK 0 c_29 rfl (by omega) (by decide) dX12_isBetween_69 ?_
      obtain ⟨v_3a, v_3b, v_3c⟩ := k_29 ((40 * f) + g) (by omega)
      clear v_3c
      obtain ⟨v_3, ev_3⟩ : ∃ z9 : Int, ge1 (fc 29) ((40 * f) + g) = z9 := ⟨_, rfl⟩
      rw [ev_3] at v_3a v_3b ⊢
      refine lv_iload_n hx hb dX12_isBetween_70 rfl (lv_at hl 3 rfl) ?_
      refine lv_ishr hx hb dX12_isBetween_71 ?_
      refine iz_any (fun z_4 z_4a z_4b z_4e => ?_)
      refine lv_iconst (v := kz 1) hx hb dX12_isBetween_72 rfl ?_
      refine iz_iand hx hb dX12_isBetween_73 (by decide) (fun z_5 z_5a z_5b z_5e => ?_)
      refine lv_iconst (v := kz 1) hx hb dX12_isBetween_74 rfl ?_
      refine iz_ne (tgt := 97) hx hb dX12_isBetween_75 (by decide) (by unfold rg2; omega) (fun br_6 => ?_) (fun br_6 => ?_)
      · refine lv_iconst (v := kz 0) hx hb dX12_isBetween_97 rfl ?_
        exact W.zret (v := kz 0) hx hb hr (by decide) (fun t9 ht hW => ⟨kz 0, rfl, Or.inr ⟨rfl, fun q9 => by have q8 := q9.2.2 (by omega); first | omega | (have q7 := q8.1; unfold btb at q7; rw [ev_3, z_4e, z_5e, kz_eq ⟨by omega, by omega, by omega, by omega⟩] at q7; omega)⟩, ht⟩) (fun q h => absurd h List.not_mem_nil) dX12_isBetween_98
      · refine lv_aload_n hx hb dX12_isBetween_78 rfl (lv_at hl 0 rfl) ?_
        refine iz_get (D := (dC, dI)) (ci := 12) (v := .ref (am 12)) (C := RX12) (T := TX12) (N := 49) hx hb hts hin hown hK hO rfl 12 (by decide) hL39 (fun _ h9 => h9) rfl dX12_isBetween_79 ?_
        refine lv_iload_n hx hb dX12_isBetween_82 rfl (lv_at hl 3 rfl) ?_
        refine iz_iald hx hb hK 0 c_12 rfl (by omega) (by decide) dX12_isBetween_83 ?_
        obtain ⟨v_7a, v_7b, v_7c⟩ := k_12 q (by omega)
        clear v_7c
        obtain ⟨v_7, ev_7⟩ : ∃ z9 : Int, ge1 (fc 12) q = z9 := ⟨_, rfl⟩
        rw [ev_7] at v_7a v_7b ⊢
        refine lv_aload_n hx hb dX12_isBetween_84 rfl (lv_at hl 0 rfl) ?_
        refine iz_get (D := (dC, dI)) (ci := 12) (v := .ref (am 4)) (C := RX12) (T := TX12) (N := 49) hx hb hts hin hown hK hO rfl 4 (by decide) hL16 (fun _ h9 => h9) rfl dX12_isBetween_85 ?_
        refine lv_iload_n hx hb dX12_isBetween_88 rfl (lv_at hl 2 rfl) ?_
        refine iz_iald hx hb hK 0 c_4 rfl (by omega) (by decide) dX12_isBetween_89 ?_
        obtain ⟨v_8a, v_8b, v_8c⟩ := k_4 g (by omega)
        obtain ⟨v_8, ev_8⟩ : ∃ z9 : Int, ge1 (fc 4) g = z9 := ⟨_, rfl⟩
        rw [ev_8] at v_8a v_8b v_8c ⊢
        refine iz_ge (tgt := 97) hx hb dX12_isBetween_90 (by decide) (by unfold rg2; omega) (fun br_9 => ?_) (fun br_9 => ?_)
        · refine lv_iconst (v := kz 0) hx hb dX12_isBetween_97 rfl ?_
          exact W.zret (v := kz 0) hx hb hr (by decide) (fun t9 ht hW => ⟨kz 0, rfl, Or.inr ⟨rfl, fun q9 => by have q8 := q9.2.2 (by omega); first | omega | (have q7 := q8.1; unfold btb at q7; rw [ev_3, z_4e, z_5e, kz_eq ⟨by omega, by omega, by omega, by omega⟩] at q7; omega)⟩, ht⟩) (fun q h => absurd h List.not_mem_nil) dX12_isBetween_98
        · refine lv_iconst (v := kz 1) hx hb dX12_isBetween_93 rfl ?_
          refine lv_goto (tgt := 98) hx hb dX12_isBetween_94 (by decide) ?_
          exact W.zret (v := kz 1) hx hb hr (by decide) (fun t9 ht hW => ⟨kz 1, rfl, Or.inl ⟨rfl, fun q9 => by obtain ⟨q8, q7⟩ := q9; first | omega | (omega), fun q9 => absurd q9 (by omega), fun _ => ⟨by unfold btb; rw [ev_3, z_4e, z_5e, show z_5 = 1 by omega], by omega⟩⟩, ht⟩) (fun q h => absurd h List.not_mem_nil) dX12_isBetween_98
    · refine lv_aload_n hx hb dX12_isBetween_37 rfl (lv_at hl 0 rfl) ?_
      refine iz_get (D := (dC, dI)) (ci := 12) (v := .ref (am 29)) (C := RX12) (T := TX12) (N := 49) hx hb hts hin hown hK hO rfl 29 (by decide) hL79 (fun _ h9 => h9) rfl dX12_isBetween_38 ?_
      refine lv_bipush (v := kz 40) hx hb dX12_isBetween_41 (by decide) ?_
      refine lv_iload_n hx hb dX12_isBetween_43 rfl (lv_at hl 1 rfl) ?_
      refine iz_imul hx hb dX12_isBetween_44 ?_
      refine lv_iload_n hx hb dX12_isBetween_45 rfl (lv_at hl 2 rfl) ?_
      refine iz_iadd hx hb dX12_isBetween_46 ?_
      refine iz_iald hx hb hK 0 c_29 rfl (by omega) (by decide) dX12_isBetween_47 ?_
      obtain ⟨v_10a, v_10b, v_10c⟩ := k_29 ((40 * f) + g) (by omega)
      clear v_10c
      obtain ⟨v_10, ev_10⟩ : ∃ z9 : Int, ge1 (fc 29) ((40 * f) + g) = z9 := ⟨_, rfl⟩
      rw [ev_10] at v_10a v_10b ⊢
      refine iz_nez (tgt := 55) hx hb dX12_isBetween_48 (by decide) (by unfold rg2; omega) (fun br_11 => ?_) (fun br_11 => ?_)
      · refine lv_iconst (v := kz 0) hx hb dX12_isBetween_55 rfl ?_
        refine lv_goto (tgt := 98) hx hb dX12_isBetween_56 (by decide) ?_
        exact W.zret (v := kz 0) hx hb hr (by decide) (fun t9 ht hW => ⟨kz 0, rfl, Or.inr ⟨rfl, fun q9 => by have q8 := q9.2.1 (by omega); omega⟩, ht⟩) (fun q h => absurd h List.not_mem_nil) dX12_isBetween_98
      · refine lv_iconst (v := kz 1) hx hb dX12_isBetween_51 rfl ?_
        refine lv_goto (tgt := 98) hx hb dX12_isBetween_52 (by decide) ?_
        exact W.zret (v := kz 1) hx hb hr (by decide) (fun t9 ht hW => ⟨kz 1, rfl, Or.inl ⟨rfl, fun q9 => by obtain ⟨q8, q7⟩ := q9; first | omega | (omega), fun _ => by omega, fun q9 => absurd q9 (by omega)⟩, ht⟩) (fun q h => absurd h List.not_mem_nil) dX12_isBetween_98
  · refine lv_aload_n hx hb dX12_isBetween_7 rfl (lv_at hl 0 rfl) ?_
    refine iz_get (D := (dC, dI)) (ci := 12) (v := .ref (am 17)) (C := RX12) (T := TX12) (N := 49) hx hb hts hin hown hK hO rfl 17 (by decide) hL54 (fun _ h9 => h9) rfl dX12_isBetween_8 ?_
    refine lv_bipush (v := kz 6) hx hb dX12_isBetween_11 (by decide) ?_
    refine lv_aload_n hx hb dX12_isBetween_13 rfl (lv_at hl 0 rfl) ?_
    refine iz_get (D := (dC, dI)) (ci := 12) (v := .ref (am 5)) (C := RX12) (T := TX12) (N := 49) hx hb hts hin hown hK hO rfl 5 (by decide) hL20 (fun _ h9 => h9) rfl dX12_isBetween_14 ?_
    refine lv_iload_n hx hb dX12_isBetween_17 rfl (lv_at hl 1 rfl) ?_
    refine iz_iald hx hb hK 0 c_5 rfl (by omega) (by decide) dX12_isBetween_18 ?_
    obtain ⟨v_12a, v_12b, v_12c⟩ := k_5 f (by omega)
    clear v_12c
    obtain ⟨v_12, ev_12⟩ : ∃ z9 : Int, ge1 (fc 5) f = z9 := ⟨_, rfl⟩
    rw [ev_12] at v_12a v_12b ⊢
    refine iz_imul hx hb dX12_isBetween_19 ?_
    refine lv_aload_n hx hb dX12_isBetween_20 rfl (lv_at hl 0 rfl) ?_
    refine iz_get (D := (dC, dI)) (ci := 12) (v := .ref (am 5)) (C := RX12) (T := TX12) (N := 49) hx hb hts hin hown hK hO rfl 5 (by decide) hL20 (fun _ h9 => h9) rfl dX12_isBetween_21 ?_
    refine lv_iload_n hx hb dX12_isBetween_24 rfl (lv_at hl 2 rfl) ?_
    refine iz_iald hx hb hK 0 c_5 rfl (by omega) (by decide) dX12_isBetween_25 ?_
    obtain ⟨v_13a, v_13b, v_13c⟩ := k_5 g (by omega)
    clear v_13c
    obtain ⟨v_13, ev_13⟩ : ∃ z9 : Int, ge1 (fc 5) g = z9 := ⟨_, rfl⟩
    rw [ev_13] at v_13a v_13b ⊢
    refine iz_iadd hx hb dX12_isBetween_26 ?_
    refine iz_zald hx hb hK 2 c_17 rfl (by omega) (by decide) dX12_isBetween_27 ?_
    have v_14a := kz_lo ((fc 17) (Int.toNat ((6 * v_12) + v_13)))
    have v_14b := kz_hi ((fc 17) (Int.toNat ((6 * v_12) + v_13)))
    change _ ≤ ge1 (fc 17) ((6 * v_12) + v_13) at v_14a
    change ge1 (fc 17) ((6 * v_12) + v_13) ≤ _ at v_14b
    obtain ⟨v_14, ev_14⟩ : ∃ z9 : Int, ge1 (fc 17) ((6 * v_12) + v_13) = z9 := ⟨_, rfl⟩
    rw [ev_14] at v_14a v_14b ⊢
    refine iz_eqz (tgt := 33) hx hb dX12_isBetween_28 (by decide) (by unfold rg2; omega) (fun br_15 => ?_) (fun br_15 => ?_)
    · refine lv_iload_n hx hb dX12_isBetween_33 rfl (lv_at hl 3 rfl) ?_
      refine iz_gez (tgt := 59) hx hb dX12_isBetween_34 (by decide) (by unfold rg2; omega) (fun br_16 => ?_) (fun br_16 => ?_)
      · refine lv_aload_n hx hb dX12_isBetween_59 rfl (lv_at hl 0 rfl) ?_
        refine iz_get (D := (dC, dI)) (ci := 12) (v := .ref (am 29)) (C := RX12) (T := TX12) (N := 49) hx hb hts hin hown hK hO rfl 29 (by decide) hL79 (fun _ h9 => h9) rfl dX12_isBetween_60 ?_
        refine lv_bipush (v := kz 40) hx hb dX12_isBetween_63 (by decide) ?_
        refine lv_iload_n hx hb dX12_isBetween_65 rfl (lv_at hl 1 rfl) ?_
        refine iz_imul hx hb dX12_isBetween_66 ?_
        refine lv_iload_n hx hb dX12_isBetween_67 rfl (lv_at hl 2 rfl) ?_
        refine iz_iadd hx hb dX12_isBetween_68 ?_
        refine iz_iald hx hb hK 0 c_29 rfl (by omega) (by decide) dX12_isBetween_69 ?_
        obtain ⟨v_17a, v_17b, v_17c⟩ := k_29 ((40 * f) + g) (by omega)
        clear v_17c
        obtain ⟨v_17, ev_17⟩ : ∃ z9 : Int, ge1 (fc 29) ((40 * f) + g) = z9 := ⟨_, rfl⟩
        rw [ev_17] at v_17a v_17b ⊢
        refine lv_iload_n hx hb dX12_isBetween_70 rfl (lv_at hl 3 rfl) ?_
        refine lv_ishr hx hb dX12_isBetween_71 ?_
        refine iz_any (fun z_18 z_18a z_18b z_18e => ?_)
        refine lv_iconst (v := kz 1) hx hb dX12_isBetween_72 rfl ?_
        refine iz_iand hx hb dX12_isBetween_73 (by decide) (fun z_19 z_19a z_19b z_19e => ?_)
        refine lv_iconst (v := kz 1) hx hb dX12_isBetween_74 rfl ?_
        refine iz_ne (tgt := 97) hx hb dX12_isBetween_75 (by decide) (by unfold rg2; omega) (fun br_20 => ?_) (fun br_20 => ?_)
        · refine lv_iconst (v := kz 0) hx hb dX12_isBetween_97 rfl ?_
          exact W.zret (v := kz 0) hx hb hr (by decide) (fun t9 ht hW => ⟨kz 0, rfl, Or.inr ⟨rfl, fun q9 => by have q8 := q9.2.2 (by omega); first | omega | (have q7 := q8.1; unfold btb at q7; rw [ev_17, z_18e, z_19e, kz_eq ⟨by omega, by omega, by omega, by omega⟩] at q7; omega)⟩, ht⟩) (fun q h => absurd h List.not_mem_nil) dX12_isBetween_98
        · refine lv_aload_n hx hb dX12_isBetween_78 rfl (lv_at hl 0 rfl) ?_
          refine iz_get (D := (dC, dI)) (ci := 12) (v := .ref (am 12)) (C := RX12) (T := TX12) (N := 49) hx hb hts hin hown hK hO rfl 12 (by decide) hL39 (fun _ h9 => h9) rfl dX12_isBetween_79 ?_
          refine lv_iload_n hx hb dX12_isBetween_82 rfl (lv_at hl 3 rfl) ?_
          refine iz_iald hx hb hK 0 c_12 rfl (by omega) (by decide) dX12_isBetween_83 ?_
          obtain ⟨v_21a, v_21b, v_21c⟩ := k_12 q (by omega)
          clear v_21c
          obtain ⟨v_21, ev_21⟩ : ∃ z9 : Int, ge1 (fc 12) q = z9 := ⟨_, rfl⟩
          rw [ev_21] at v_21a v_21b ⊢
          refine lv_aload_n hx hb dX12_isBetween_84 rfl (lv_at hl 0 rfl) ?_
          refine iz_get (D := (dC, dI)) (ci := 12) (v := .ref (am 4)) (C := RX12) (T := TX12) (N := 49) hx hb hts hin hown hK hO rfl 4 (by decide) hL16 (fun _ h9 => h9) rfl dX12_isBetween_85 ?_
          refine lv_iload_n hx hb dX12_isBetween_88 rfl (lv_at hl 2 rfl) ?_
          refine iz_iald hx hb hK 0 c_4 rfl (by omega) (by decide) dX12_isBetween_89 ?_
          obtain ⟨v_22a, v_22b, v_22c⟩ := k_4 g (by omega)
          obtain ⟨v_22, ev_22⟩ : ∃ z9 : Int, ge1 (fc 4) g = z9 := ⟨_, rfl⟩
          rw [ev_22] at v_22a v_22b v_22c ⊢
          refine iz_ge (tgt := 97) hx hb dX12_isBetween_90 (by decide) (by unfold rg2; omega) (fun br_23 => ?_) (fun br_23 => ?_)
          · refine lv_iconst (v := kz 0) hx hb dX12_isBetween_97 rfl ?_
            exact W.zret (v := kz 0) hx hb hr (by decide) (fun t9 ht hW => ⟨kz 0, rfl, Or.inr ⟨rfl, fun q9 => by have q8 := q9.2.2 (by omega); first | omega | (have q7 := q8.1; unfold btb at q7; rw [ev_17, z_18e, z_19e, kz_eq ⟨by omega, by omega, by omega, by omega⟩] at q7; omega)⟩, ht⟩) (fun q h => absurd h List.not_mem_nil) dX12_isBetween_98
          · refine lv_iconst (v := kz 1) hx hb dX12_isBetween_93 rfl ?_
            refine lv_goto (tgt := 98) hx hb dX12_isBetween_94 (by decide) ?_
            exact W.zret (v := kz 1) hx hb hr (by decide) (fun t9 ht hW => ⟨kz 1, rfl, Or.inl ⟨rfl, fun q9 => by obtain ⟨q8, q7⟩ := q9; first | omega | (rw [ev_12, ev_13] at q7; omega), fun q9 => absurd q9 (by omega), fun _ => ⟨by unfold btb; rw [ev_17, z_18e, z_19e, show z_19 = 1 by omega], by omega⟩⟩, ht⟩) (fun q h => absurd h List.not_mem_nil) dX12_isBetween_98
      · refine lv_aload_n hx hb dX12_isBetween_37 rfl (lv_at hl 0 rfl) ?_
        refine iz_get (D := (dC, dI)) (ci := 12) (v := .ref (am 29)) (C := RX12) (T := TX12) (N := 49) hx hb hts hin hown hK hO rfl 29 (by decide) hL79 (fun _ h9 => h9) rfl dX12_isBetween_38 ?_
        refine lv_bipush (v := kz 40) hx hb dX12_isBetween_41 (by decide) ?_
        refine lv_iload_n hx hb dX12_isBetween_43 rfl (lv_at hl 1 rfl) ?_
        refine iz_imul hx hb dX12_isBetween_44 ?_
        refine lv_iload_n hx hb dX12_isBetween_45 rfl (lv_at hl 2 rfl) ?_
        refine iz_iadd hx hb dX12_isBetween_46 ?_
        refine iz_iald hx hb hK 0 c_29 rfl (by omega) (by decide) dX12_isBetween_47 ?_
        obtain ⟨v_24a, v_24b, v_24c⟩ := k_29 ((40 * f) + g) (by omega)
        clear v_24c
        obtain ⟨v_24, ev_24⟩ : ∃ z9 : Int, ge1 (fc 29) ((40 * f) + g) = z9 := ⟨_, rfl⟩
        rw [ev_24] at v_24a v_24b ⊢
        refine iz_nez (tgt := 55) hx hb dX12_isBetween_48 (by decide) (by unfold rg2; omega) (fun br_25 => ?_) (fun br_25 => ?_)
        · refine lv_iconst (v := kz 0) hx hb dX12_isBetween_55 rfl ?_
          refine lv_goto (tgt := 98) hx hb dX12_isBetween_56 (by decide) ?_
          exact W.zret (v := kz 0) hx hb hr (by decide) (fun t9 ht hW => ⟨kz 0, rfl, Or.inr ⟨rfl, fun q9 => by have q8 := q9.2.1 (by omega); omega⟩, ht⟩) (fun q h => absurd h List.not_mem_nil) dX12_isBetween_98
        · refine lv_iconst (v := kz 1) hx hb dX12_isBetween_51 rfl ?_
          refine lv_goto (tgt := 98) hx hb dX12_isBetween_52 (by decide) ?_
          exact W.zret (v := kz 1) hx hb hr (by decide) (fun t9 ht hW => ⟨kz 1, rfl, Or.inl ⟨rfl, fun q9 => by obtain ⟨q8, q7⟩ := q9; first | omega | (rw [ev_12, ev_13] at q7; omega), fun _ => by omega, fun q9 => absurd q9 (by omega)⟩, ht⟩) (fun q h => absurd h List.not_mem_nil) dX12_isBetween_98
    · refine lv_iconst (v := kz 0) hx hb dX12_isBetween_31 rfl ?_
      exact W.zret (v := kz 0) hx hb hr (by decide) (fun t9 ht hW => ⟨kz 0, rfl, Or.inr ⟨rfl, fun q9 => q9.1 ⟨by omega, by rw [ev_12, ev_13]; omega⟩⟩, ht⟩) (fun q h => absurd h List.not_mem_nil) dX12_isBetween_32
