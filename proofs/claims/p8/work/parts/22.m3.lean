set_option maxHeartbeats 4000000 in
set_option maxRecDepth 100000 in
/-- X12_step -/
theorem m_step (l : Launch) (dC : Nat → ClassId) (dI : Nat → Nat → Nat) (ca : Nat → ClassId) (A : Nat → Prop) (X : kGh) (o : Nat) (am : Nat → Nat) (zi : Nat → Int) (zl : Nat → Int64) (hM : mS X A o am) (hz : mZ X am zi) (n1 : Int) (n1r : -2147483648 ≤ n1 ∧ n1 ≤ 2147483647) : Met l yX12_step wsX12_step ({ frames := 1, cells := 0, slots := 0, locals := 22 }) (va_Pc [.ref o, .int (kz n1)] (fun U => va_K (dC, dI) vwCl (k_tys ca) U ∧ mI (dC, dI) ca A X o am zi zl U.heap)) (va_Qi (fun (r : Int32) (u : (Nat → Int) × (Nat → Int64)) => mZ X am u.1 ∧ (((0 ≤ n1 ∧ n1 ≤ 20) ∧ r = kz (zi 20) ∧ u.1 20 = n1) ∨ (¬ (0 ≤ n1 ∧ n1 ≤ 20) ∧ r = kz (-1) ∧ u.1 20 = zi 20))) (fun u U => va_K (dC, dI) vwCl (k_tys ca) U ∧ mI (dC, dI) ca A X o am u.1 u.2 U.heap) A) 0 0 A := by
  refine Met.ofW (cc := cX12_step) (maxL := 3) (ret := (some .int)) (by decide) rfl ?_
  intro p e s m args below meth c s₁ B hml hv
  obtain ⟨rfl, hK, hI, hO⟩ := hv
  have hx := B.exec
  have hb := B.bytes
  have hr := B.returns
  have hts := atoms_spec (ws := wsX12_step) B.pre
  have hown : s.vm.findClass RX12 = some m.cls := findClass_of_methodNamed B.named
  have hin : ∀ w ∈ u_ws RX12 TX12 49, w ∈ wsX12_step := by decide +kernel
  have hL63 := hts (.fieldLink RX12 63 "JoinBenchModel" "step" "I") (by decide +kernel)
  obtain ⟨⟨z1a, z1b⟩, ⟨z2a, z2b⟩, ⟨z9a, z9b⟩, ⟨z20a, z20b⟩, ⟨z21a, z21b⟩, ⟨z22a, z22b⟩, ⟨z26a, z26b⟩, ⟨z28a, z28b⟩, ⟨z34a, z34b⟩, ⟨z35a, z35b⟩, ⟨z38a, z38b⟩, ⟨z39a, z39b⟩, ⟨z46a, z46b⟩, hzA, hzB⟩ := id hz
  obtain ⟨H, hH⟩ : ∃ H : Heap, H = s.heap := ⟨_, rfl⟩
  have hS : va_S A s.heap H [] := by rw [hH]; exact va_S.rf
  rw [← hH] at hI hO ⊢
  clear hH
  have hl := lv_entry ([.ref o, .int (kz n1)]) (n := 3) (Nat.le_of_ble_eq_true rfl)
  rw [lg_entry_eq]
  generalize (lg_sl ([.ref o, .int (kz n1)]) ++ List.replicate (3 - (lg_sl ([.ref o, .int (kz n1)])).length) Slot.unset).toArray = ls at hl ⊢
  have hl : lv_has ls 3 [(0, .ref o), (1, .int (kz n1))] := hl
  refine lv_iload_n hx hb dX12_step_0 rfl (lv_at hl 1 rfl) ?_
  refine lv_iconst (v := kz 0) hx hb dX12_step_1 rfl ?_
  refine lv_bipush (v := kz 20) hx hb dX12_step_2 (by decide) ?_
  refine vp_callSi (va_Run.run (va_runS (As := [.int (kz n1), .int (kz 0), .int (kz 20)]) (rest := []) ⟨hx, hb, hml, hown, hts⟩ (m_in l n1 0 20 (by omega) (by omega) (by omega)) (va_cwS 3 hts gX12_step_X12_in rfl rfl rfl (by decide +kernel) ⟨Nat.le_of_ble_eq_true rfl, Nat.le_of_ble_eq_true rfl⟩) ⟨fun a U g mk q => q, fun U hU hW => ⟨rfl, trivial⟩⟩ rfl rfl hl.1 rfl (lv_room (Nat.le_of_ble_eq_true rfl)) dX12_step_4 ⟨Nat.le_of_ble_eq_true rfl, Nat.le_of_ble_eq_true rfl⟩)) (fun r_2 hw_1 => ?_)
  rcases hw_1 with ⟨rfl, hw_1⟩ | ⟨rfl, hw_1⟩
  · refine iz_nez (tgt := 12) hx hb dX12_step_7 (by decide) (by unfold rg2; omega) (fun _ => ?_) (fun q9 => absurd q9 (by decide))
    refine lv_aload_n hx hb dX12_step_12 rfl (lv_at hl 0 rfl) ?_
    refine iz_get (D := (dC, dI)) (ci := 12) (v := .int (kz (zi 20))) (C := RX12) (T := TX12) (N := 49) hx hb hts hin hown hK hO rfl 20 (by decide) hL63 (fun _ h9 => h9) rfl dX12_step_13 ?_
    refine lv_istore_n (lv' := [(2, .int (kz (zi 20))), (0, .ref o), (1, .int (kz n1))]) hx hb dX12_step_16 rfl hl (by decide) rfl (fun ls hl => ?_)
    refine lv_aload_n hx hb dX12_step_17 rfl (lv_at hl 1 rfl) ?_
    refine lv_iload_n hx hb dX12_step_18 rfl (lv_at hl 2 rfl) ?_
    refine iz_put (D := (dC, dI)) (ci := 12) (v := .int (kz n1)) (ty := .int) (C := RX12) (T := TX12) (N := 49) hx hb hts hin tyX12 tyX12_ok nmX12 hown hK hO hS hM.2.2.1 rfl 20 (by decide) hL63 (fun _ h9 => h9) rfl (by decide +kernel) rfl rfl (Nat.le_of_ble_eq_true rfl) dX12_step_19 (fun H locs hO oq hS => ?_)
    rw [mM_20] at hO
    have hI := iv_skip hI hM.2.1 oq
    have hO : va_at (dC, dI) vwCl (o, .inr (12, mM am (fup zi 20 n1) zl)) H := hO
    clear oq
    refine lv_iload_n hx hb dX12_step_22 rfl (lv_at hl 0 rfl) ?_
    exact W.iret (v := kz (zi 20)) hx hb hr (fun t9 ht hW => ⟨⟨kz (zi 20), ((fup zi 20 n1), zl), rfl, ⟨⟨⟨z1a, z1b⟩, ⟨z2a, z2b⟩, ⟨z9a, z9b⟩, ⟨by show (0 : Int) ≤ n1; omega, by show n1 ≤ (20 : Int); omega⟩, ⟨z21a, z21b⟩, ⟨z22a, z22b⟩, ⟨z26a, z26b⟩, ⟨z28a, z28b⟩, ⟨z34a, z34b⟩, ⟨z35a, z35b⟩, ⟨z38a, z38b⟩, ⟨z39a, z39b⟩, ⟨z46a, z46b⟩, by show zi 2 ≤ (X.2 (am 4) : Int); omega, by show zi 39 ≤ (X.2 (am 41) : Int); omega⟩, Or.inl ⟨by omega, rfl, rfl⟩⟩, va_K.moved hW.alike hK, by rw [ht]; exact ⟨hI, hO⟩⟩, hS.F ht⟩) hS.2.2 dX12_step_23
  · refine iz_nez (tgt := 12) hx hb dX12_step_7 (by decide) (by unfold rg2; omega) (fun q9 => absurd q9 (by decide)) (fun _ => ?_)
    refine lv_iconst (v := kz (-1)) hx hb dX12_step_10 rfl ?_
    exact W.iret (v := kz (-1)) hx hb hr (fun t9 ht hW => ⟨⟨kz (-1), (zi, zl), rfl, ⟨hz, Or.inr ⟨by omega, rfl, rfl⟩⟩, va_K.moved hW.alike hK, by rw [ht]; exact ⟨hI, hO⟩⟩, hS.F ht⟩) hS.2.2 dX12_step_11
set_option maxHeartbeats 4000000 in
set_option maxRecDepth 100000 in
/-- X12_uses -/
theorem m_uses (l : Launch) (dC : Nat → ClassId) (dI : Nat → Nat → Nat) (ca : Nat → ClassId) (A : Nat → Prop) (X : kGh) (o : Nat) (am : Nat → Nat) (zi : Nat → Int) (zl : Nat → Int64) (hM : mS X A o am) (hz : mZ X am zi) (t1 : Int) (t1r : -2147483648 ≤ t1 ∧ t1 ≤ 2147483647) : Met l yX12_uses wsX12_uses ({ frames := 1, cells := 0, slots := 0, locals := 22 }) (va_Pc [.ref o, .int (kz t1)] (fun U => va_K (dC, dI) vwCl (k_tys ca) U ∧ mI (dC, dI) ca A X o am zi zl U.heap)) (vp_Si (fun r => True)) 0 0 (fun _ => False) := by
  refine Met.ofW (cc := cX12_uses) (maxL := 2) (ret := (some .int)) (by decide) rfl ?_
  intro p e s m args below meth c s₁ B hml hv
  obtain ⟨rfl, hK, hI, hO⟩ := hv
  have hx := B.exec
  have hb := B.bytes
  have hr := B.returns
  have hts := atoms_spec (ws := wsX12_uses) B.pre
  have hown : s.vm.findClass RX12 = some m.cls := findClass_of_methodNamed B.named
  have hin : ∀ w ∈ u_ws RX12 TX12 49, w ∈ wsX12_uses := by decide +kernel
  have hL60 := hts (.fieldLink RX12 60 "JoinBenchModel" "uses" "[I") (by decide +kernel)
  have g19 : X.1 (am 19) = (119, 20, 20, -2147483648, 2147483647) := hM.1 19 _ rfl (by decide)
  have w19 : X.2 (am 19) = 0 := hM.2.2.2 19 _ rfl (by decide) (by decide) (by decide)
  obtain ⟨⟨z1a, z1b⟩, ⟨z2a, z2b⟩, ⟨z9a, z9b⟩, ⟨z20a, z20b⟩, ⟨z21a, z21b⟩, ⟨z22a, z22b⟩, ⟨z26a, z26b⟩, ⟨z28a, z28b⟩, ⟨z34a, z34b⟩, ⟨z35a, z35b⟩, ⟨z38a, z38b⟩, ⟨z39a, z39b⟩, ⟨z46a, z46b⟩, hzA, hzB⟩ := id hz
  have hl := lv_entry ([.ref o, .int (kz t1)]) (n := 2) (Nat.le_of_ble_eq_true rfl)
  rw [lg_entry_eq]
  generalize (lg_sl ([.ref o, .int (kz t1)]) ++ List.replicate (2 - (lg_sl ([.ref o, .int (kz t1)])).length) Slot.unset).toArray = ls at hl ⊢
  have hl : lv_has ls 2 [(0, .ref o), (1, .int (kz t1))] := hl
  refine lv_iload_n hx hb dX12_uses_0 rfl (lv_at hl 1 rfl) ?_
  refine lv_iconst (v := kz 0) hx hb dX12_uses_1 rfl ?_
  refine lv_bipush (v := kz 19) hx hb dX12_uses_2 (by decide) ?_
  refine vp_callSi (va_Run.run (va_runS (As := [.int (kz t1), .int (kz 0), .int (kz 19)]) (rest := []) ⟨hx, hb, hml, hown, hts⟩ (m_in l t1 0 19 (by omega) (by omega) (by omega)) (va_cwS 3 hts gX12_uses_X12_in rfl rfl rfl (by decide +kernel) ⟨Nat.le_of_ble_eq_true rfl, Nat.le_of_ble_eq_true rfl⟩) ⟨fun a U g mk q => q, fun U hU hW => ⟨rfl, trivial⟩⟩ rfl rfl hl.1 rfl (lv_room (Nat.le_of_ble_eq_true rfl)) dX12_uses_4 ⟨Nat.le_of_ble_eq_true rfl, Nat.le_of_ble_eq_true rfl⟩)) (fun r_2 hw_1 => ?_)
  rcases hw_1 with ⟨rfl, hw_1⟩ | ⟨rfl, hw_1⟩
  · refine iz_eqz (tgt := 19) hx hb dX12_uses_7 (by decide) (by unfold rg2; omega) (fun q9 => absurd q9 (by decide)) (fun _ => ?_)
    refine lv_aload_n hx hb dX12_uses_10 rfl (lv_at hl 0 rfl) ?_
    refine iz_get (D := (dC, dI)) (ci := 12) (v := .ref (am 19)) (C := RX12) (T := TX12) (N := 49) hx hb hts hin hown hK hO rfl 19 (by decide) hL60 (fun _ h9 => h9) rfl dX12_uses_11 ?_
    refine lv_iload_n hx hb dX12_uses_14 rfl (lv_at hl 1 rfl) ?_
    obtain ⟨f19_3, c_f19_3, k_f19_3⟩ := iv_o20 hI g19
    refine iz_iald hx hb hK 0 c_f19_3 rfl (by omega) (by decide) dX12_uses_15 ?_
    obtain ⟨v_4a, v_4b, v_4c⟩ := k_f19_3 t1 (by omega)
    clear v_4c
    obtain ⟨v_4, ev_4⟩ : ∃ z9 : Int, ge1 f19_3 t1 = z9 := ⟨_, rfl⟩
    rw [ev_4] at v_4a v_4b ⊢
    refine lv_goto (tgt := 20) hx hb dX12_uses_16 (by decide) ?_
    exact W.iret (v := kz v_4) hx hb hr (fun t9 ht hW => ⟨kz v_4, rfl, trivial, ht⟩) (fun q h => absurd h List.not_mem_nil) dX12_uses_20
  · refine iz_eqz (tgt := 19) hx hb dX12_uses_7 (by decide) (by unfold rg2; omega) (fun _ => ?_) (fun q9 => absurd q9 (by decide))
    refine lv_iconst (v := kz (-1)) hx hb dX12_uses_19 rfl ?_
    exact W.iret (v := kz (-1)) hx hb hr (fun t9 ht hW => ⟨kz (-1), rfl, trivial, ht⟩) (fun q h => absurd h List.not_mem_nil) dX12_uses_20
set_option maxHeartbeats 4000000 in
set_option maxRecDepth 100000 in
/-- X12_about -/
theorem m_about (l : Launch) (dC : Nat → ClassId) (dI : Nat → Nat → Nat) (ca : Nat → ClassId) (A : Nat → Prop) (X : kGh) (o : Nat) (am : Nat → Nat) (zi : Nat → Int) (zl : Nat → Int64) (hM : mS X A o am) (hz : mZ X am zi) (f : Int) (what : Int) (fr : -2147483648 ≤ f ∧ f ≤ 2147483647) (whatr : -2147483648 ≤ what ∧ what ≤ 2147483647) : Met l yX12_about wsX12_about ({ frames := 2, cells := 0, slots := 0, locals := 43 }) (va_Pc [.ref o, .int (kz f), .int (kz what)] (fun U => va_K (dC, dI) vwCl (k_tys ca) U ∧ mI (dC, dI) ca A X o am zi zl U.heap)) (vp_Si (fun r => True)) 0 0 (fun _ => False) := by
  refine Met.ofW (cc := cX12_about) (maxL := 3) (ret := (some .int)) (by decide) rfl ?_
  intro p e s m args below meth c s₁ B hml hv
  obtain ⟨rfl, hK, hI, hO⟩ := hv
  have hx := B.exec
  have hb := B.bytes
  have hr := B.returns
  have hts := atoms_spec (ws := wsX12_about) B.pre
  have hown : s.vm.findClass RX12 = some m.cls := findClass_of_methodNamed B.named
  have hin : ∀ w ∈ u_ws RX12 TX12 49, w ∈ wsX12_about := by decide +kernel
  have hL20 := hts (.fieldLink RX12 20 "JoinBenchModel" "kind" "[I") (by decide +kernel)
  have hL23 := hts (.fieldLink RX12 23 "JoinBenchModel" "stem" "[I") (by decide +kernel)
  have hL26 := hts (.fieldLink RX12 26 "JoinBenchModel" "cost" "[I") (by decide +kernel)
  have hL29 := hts (.fieldLink RX12 29 "JoinBenchModel" "isKept" "[Z") (by decide +kernel)
  have hL16 := hts (.fieldLink RX12 16 "JoinBenchModel" "size" "[I") (by decide +kernel)
  have g5 : X.1 (am 5) = (105, 20, 40, 0, 5) := hM.1 5 _ rfl (by decide)
  have w5 : X.2 (am 5) = 0 := hM.2.2.2 5 _ rfl (by decide) (by decide) (by decide)
  have g6 : X.1 (am 6) = (106, 20, 40, 0, 19) := hM.1 6 _ rfl (by decide)
  have w6 : X.2 (am 6) = 0 := hM.2.2.2 6 _ rfl (by decide) (by decide) (by decide)
  have g7 : X.1 (am 7) = (107, 20, 40, -2147483648, 2147483647) := hM.1 7 _ rfl (by decide)
  have w7 : X.2 (am 7) = 0 := hM.2.2.2 7 _ rfl (by decide) (by decide) (by decide)
  have g8 : X.1 (am 8) = (108, 22, 40, 0, 0) := hM.1 8 _ rfl (by decide)
  have g4 : X.1 (am 4) = (104, 20, 40, 0, 8) := hM.1 4 _ rfl (by decide)
  obtain ⟨⟨z1a, z1b⟩, ⟨z2a, z2b⟩, ⟨z9a, z9b⟩, ⟨z20a, z20b⟩, ⟨z21a, z21b⟩, ⟨z22a, z22b⟩, ⟨z26a, z26b⟩, ⟨z28a, z28b⟩, ⟨z34a, z34b⟩, ⟨z35a, z35b⟩, ⟨z38a, z38b⟩, ⟨z39a, z39b⟩, ⟨z46a, z46b⟩, hzA, hzB⟩ := id hz
  have hl := lv_entry ([.ref o, .int (kz f), .int (kz what)]) (n := 3) (Nat.le_of_ble_eq_true rfl)
  rw [lg_entry_eq]
  generalize (lg_sl ([.ref o, .int (kz f), .int (kz what)]) ++ List.replicate (3 - (lg_sl ([.ref o, .int (kz f), .int (kz what)])).length) Slot.unset).toArray = ls at hl ⊢
  have hl : lv_has ls 3 [(0, .ref o), (1, .int (kz f)), (2, .int (kz what))] := hl
  refine lv_aload_n hx hb dX12_about_0 rfl (lv_at hl 0 rfl) ?_
  refine lv_iload_n hx hb dX12_about_1 rfl (lv_at hl 1 rfl) ?_
  refine vp_callSi (va_Run.run (va_runV (As := [.int (kz f)]) (rest := []) ⟨hx, hb, hml, hown, hts⟩ (m_isForm l dC dI ca A X o am zi zl hM hz f (by omega)) (cwV 1 hts gX12_about_X12_isForm rfl rfl rfl (by decide +kernel) ⟨Nat.le_of_ble_eq_true rfl, Nat.le_of_ble_eq_true rfl⟩) ⟨fun a U g mk q => by obtain ⟨q0, qK, qI⟩ := q; exact ⟨q0, va_K.moved (u := U) (U := U.calling g mk a) (Vm.Alike.refl U.vm) qK, qI⟩, va_recv hK (at_P hO) (ci := 12) (q0 := 0) rfl rfl, fun U hU hW => ⟨rfl, va_K.moved hW.alike hK, by rw [hU]; exact ⟨hI, hO⟩⟩⟩ rfl rfl hl.1 rfl (lv_room (Nat.le_of_ble_eq_true rfl)) dX12_about_2 ⟨Nat.le_of_ble_eq_true rfl, Nat.le_of_ble_eq_true rfl⟩)) (fun r_2 hw_1 => ?_)
  rcases hw_1 with ⟨rfl, hw_1⟩ | ⟨rfl, hw_1⟩
  · refine iz_nez (tgt := 10) hx hb dX12_about_5 (by decide) (by unfold rg2; omega) (fun _ => ?_) (fun q9 => absurd q9 (by decide))
    refine lv_iload_n hx hb dX12_about_10 rfl (lv_at hl 2 rfl) ?_
    rcases ks_5 what (by omega) with c_3 | rfl | rfl | rfl | rfl | rfl
    · refine lv_tableOut (tgt := 87) hx hb dX12_about_11 (by rw [kz_toInt (by omega) (by omega)]; omega) (by decide) ?_
      refine lv_iconst (v := kz (-1)) hx hb dX12_about_87 rfl ?_
      exact W.iret (v := kz (-1)) hx hb hr (fun t9 ht hW => ⟨kz (-1), rfl, trivial, ht⟩) (fun q h => absurd h List.not_mem_nil) dX12_about_88
    · refine lv_tableIn (off := 33) (tgt := 44) hx hb dX12_about_11 (by decide) (by decide) rfl (by decide) ?_
      refine lv_aload_n hx hb dX12_about_44 rfl (lv_at hl 0 rfl) ?_
      refine iz_get (D := (dC, dI)) (ci := 12) (v := .ref (am 5)) (C := RX12) (T := TX12) (N := 49) hx hb hts hin hown hK hO rfl 5 (by decide) hL20 (fun _ h9 => h9) rfl dX12_about_45 ?_
      refine lv_iload_n hx hb dX12_about_48 rfl (lv_at hl 1 rfl) ?_
      obtain ⟨f5_4, c_f5_4, k_f5_4⟩ := iv_o20 hI g5
      refine iz_iald hx hb hK 0 c_f5_4 rfl (by omega) (by decide) dX12_about_49 ?_
      obtain ⟨v_5a, v_5b, v_5c⟩ := k_f5_4 f (by omega)
      clear v_5c
      obtain ⟨v_5, ev_5⟩ : ∃ z9 : Int, ge1 f5_4 f = z9 := ⟨_, rfl⟩
      rw [ev_5] at v_5a v_5b ⊢
      exact W.iret (v := kz v_5) hx hb hr (fun t9 ht hW => ⟨kz v_5, rfl, trivial, ht⟩) (fun q h => absurd h List.not_mem_nil) dX12_about_50
    · refine lv_tableIn (off := 40) (tgt := 51) hx hb dX12_about_11 (by decide) (by decide) rfl (by decide) ?_
      refine lv_aload_n hx hb dX12_about_51 rfl (lv_at hl 0 rfl) ?_
      refine iz_get (D := (dC, dI)) (ci := 12) (v := .ref (am 6)) (C := RX12) (T := TX12) (N := 49) hx hb hts hin hown hK hO rfl 6 (by decide) hL23 (fun _ h9 => h9) rfl dX12_about_52 ?_
      refine lv_iload_n hx hb dX12_about_55 rfl (lv_at hl 1 rfl) ?_
      obtain ⟨f6_6, c_f6_6, k_f6_6⟩ := iv_o20 hI g6
      refine iz_iald hx hb hK 0 c_f6_6 rfl (by omega) (by decide) dX12_about_56 ?_
      obtain ⟨v_7a, v_7b, v_7c⟩ := k_f6_6 f (by omega)
      clear v_7c
      obtain ⟨v_7, ev_7⟩ : ∃ z9 : Int, ge1 f6_6 f = z9 := ⟨_, rfl⟩
      rw [ev_7] at v_7a v_7b ⊢
      exact W.iret (v := kz v_7) hx hb hr (fun t9 ht hW => ⟨kz v_7, rfl, trivial, ht⟩) (fun q h => absurd h List.not_mem_nil) dX12_about_57
    · refine lv_tableIn (off := 47) (tgt := 58) hx hb dX12_about_11 (by decide) (by decide) rfl (by decide) ?_
      refine lv_aload_n hx hb dX12_about_58 rfl (lv_at hl 0 rfl) ?_
      refine iz_get (D := (dC, dI)) (ci := 12) (v := .ref (am 7)) (C := RX12) (T := TX12) (N := 49) hx hb hts hin hown hK hO rfl 7 (by decide) hL26 (fun _ h9 => h9) rfl dX12_about_59 ?_
      refine lv_iload_n hx hb dX12_about_62 rfl (lv_at hl 1 rfl) ?_
      obtain ⟨f7_8, c_f7_8, k_f7_8⟩ := iv_o20 hI g7
      refine iz_iald hx hb hK 0 c_f7_8 rfl (by omega) (by decide) dX12_about_63 ?_
      obtain ⟨v_9a, v_9b, v_9c⟩ := k_f7_8 f (by omega)
      clear v_9c
      obtain ⟨v_9, ev_9⟩ : ∃ z9 : Int, ge1 f7_8 f = z9 := ⟨_, rfl⟩
      rw [ev_9] at v_9a v_9b ⊢
      exact W.iret (v := kz v_9) hx hb hr (fun t9 ht hW => ⟨kz v_9, rfl, trivial, ht⟩) (fun q h => absurd h List.not_mem_nil) dX12_about_64
    · refine lv_tableIn (off := 54) (tgt := 65) hx hb dX12_about_11 (by decide) (by decide) rfl (by decide) ?_
      refine lv_aload_n hx hb dX12_about_65 rfl (lv_at hl 0 rfl) ?_
      refine iz_get (D := (dC, dI)) (ci := 12) (v := .ref (am 8)) (C := RX12) (T := TX12) (N := 49) hx hb hts hin hown hK hO rfl 8 (by decide) hL29 (fun _ h9 => h9) rfl dX12_about_66 ?_
      refine lv_iload_n hx hb dX12_about_69 rfl (lv_at hl 1 rfl) ?_
      obtain ⟨f8_10, c_f8_10⟩ := iv_o22 hI g8
      refine iz_zald hx hb hK 2 c_f8_10 rfl (by omega) (by decide) dX12_about_70 ?_
      have v_11a := kz_lo (f8_10 (Int.toNat f))
      have v_11b := kz_hi (f8_10 (Int.toNat f))
      change _ ≤ ge1 f8_10 f at v_11a
      change ge1 f8_10 f ≤ _ at v_11b
      obtain ⟨v_11, ev_11⟩ : ∃ z9 : Int, ge1 f8_10 f = z9 := ⟨_, rfl⟩
      rw [ev_11] at v_11a v_11b ⊢
      refine iz_eqz (tgt := 78) hx hb dX12_about_71 (by decide) (by unfold rg2; omega) (fun br_12 => ?_) (fun br_12 => ?_)
      · refine lv_iconst (v := kz 0) hx hb dX12_about_78 rfl ?_
        exact W.iret (v := kz 0) hx hb hr (fun t9 ht hW => ⟨kz 0, rfl, trivial, ht⟩) (fun q h => absurd h List.not_mem_nil) dX12_about_79
      · refine lv_iconst (v := kz 1) hx hb dX12_about_74 rfl ?_
        refine lv_goto (tgt := 79) hx hb dX12_about_75 (by decide) ?_
        exact W.iret (v := kz 1) hx hb hr (fun t9 ht hW => ⟨kz 1, rfl, trivial, ht⟩) (fun q h => absurd h List.not_mem_nil) dX12_about_79
    · refine lv_tableIn (off := 69) (tgt := 80) hx hb dX12_about_11 (by decide) (by decide) rfl (by decide) ?_
      refine lv_aload_n hx hb dX12_about_80 rfl (lv_at hl 0 rfl) ?_
      refine iz_get (D := (dC, dI)) (ci := 12) (v := .ref (am 4)) (C := RX12) (T := TX12) (N := 49) hx hb hts hin hown hK hO rfl 4 (by decide) hL16 (fun _ h9 => h9) rfl dX12_about_81 ?_
      refine lv_iload_n hx hb dX12_about_84 rfl (lv_at hl 1 rfl) ?_
      obtain ⟨f4_13, c_f4_13, k_f4_13⟩ := iv_o20 hI g4
      refine iz_iald hx hb hK 0 c_f4_13 rfl (by omega) (by decide) dX12_about_85 ?_
      obtain ⟨v_14a, v_14b, v_14c⟩ := k_f4_13 f (by omega)
      obtain ⟨v_14, ev_14⟩ : ∃ z9 : Int, ge1 f4_13 f = z9 := ⟨_, rfl⟩
      rw [ev_14] at v_14a v_14b v_14c ⊢
      exact W.iret (v := kz v_14) hx hb hr (fun t9 ht hW => ⟨kz v_14, rfl, trivial, ht⟩) (fun q h => absurd h List.not_mem_nil) dX12_about_86
  · refine iz_nez (tgt := 10) hx hb dX12_about_5 (by decide) (by unfold rg2; omega) (fun q9 => absurd q9 (by decide)) (fun _ => ?_)
    refine lv_iconst (v := kz (-1)) hx hb dX12_about_8 rfl ?_
    exact W.iret (v := kz (-1)) hx hb hr (fun t9 ht hW => ⟨kz (-1), rfl, trivial, ht⟩) (fun q h => absurd h List.not_mem_nil) dX12_about_9
set_option maxHeartbeats 4000000 in
set_option maxRecDepth 100000 in
/-- X12_count -/
theorem m_count (l : Launch) (dC : Nat → ClassId) (dI : Nat → Nat → Nat) (ca : Nat → ClassId) (A : Nat → Prop) (X : kGh) (o : Nat) (am : Nat → Nat) (zi : Nat → Int) (zl : Nat → Int64) (hM : mS X A o am) (hz : mZ X am zi) (what : Int) (whatr : -2147483648 ≤ what ∧ what ≤ 2147483647) : Met l yX12_count wsX12_count ({ frames := 0, cells := 0, slots := 0, locals := 0 }) (va_Pc [.ref o, .int (kz what)] (fun U => va_K (dC, dI) vwCl (k_tys ca) U ∧ mI (dC, dI) ca A X o am zi zl U.heap)) (vp_Si (fun r => True)) 0 0 (fun _ => False) := by
  refine Met.ofW (cc := cX12_count) (maxL := 4) (ret := (some .int)) (by decide) rfl ?_
  intro p e s m args below meth c s₁ B hml hv
  obtain ⟨rfl, hK, hI, hO⟩ := hv
  have hx := B.exec
  have hb := B.bytes
  have hr := B.returns
  have hts := atoms_spec (ws := wsX12_count) B.pre
  have hown : s.vm.findClass RX12 = some m.cls := findClass_of_methodNamed B.named
  have hin : ∀ w ∈ u_ws RX12 TX12 49, w ∈ wsX12_count := by decide +kernel
  have hL131 := hts (.fieldLink RX12 131 "JoinBenchModel" "forms" "I") (by decide +kernel)
  have hL138 := hts (.fieldLink RX12 138 "JoinBenchModel" "rules" "I") (by decide +kernel)
  have hL120 := hts (.fieldLink RX12 120 "JoinBenchModel" "taped" "I") (by decide +kernel)
  have hL169 := hts (.fieldLink RX12 169 "JoinBenchModel" "outMany" "I") (by decide +kernel)
  have hL155 := hts (.fieldLink RX12 155 "JoinBenchModel" "rowMany" "I") (by decide +kernel)
  have hL250 := hts (.fieldLink RX12 250 "JoinBenchModel" "choices" "I") (by decide +kernel)
  have hL63 := hts (.fieldLink RX12 63 "JoinBenchModel" "step" "I") (by decide +kernel)
  have hL26 := hts (.fieldLink RX12 26 "JoinBenchModel" "cost" "[I") (by decide +kernel)
  have hL67 := hts (.fieldLink RX12 67 "JoinBenchModel" "rowForm" "[I") (by decide +kernel)
  have hL70 := hts (.fieldLink RX12 70 "JoinBenchModel" "rowRule" "[I") (by decide +kernel)
  have hL45 := hts (.fieldLink RX12 45 "JoinBenchModel" "ruleCost" "[I") (by decide +kernel)
  have g7 : X.1 (am 7) = (107, 20, 40, -2147483648, 2147483647) := hM.1 7 _ rfl (by decide)
  have w7 : X.2 (am 7) = 0 := hM.2.2.2 7 _ rfl (by decide) (by decide) (by decide)
  have g23 : X.1 (am 23) = (123, 20, 40, 0, 39) := hM.1 23 _ rfl (by decide)
  have w23 : X.2 (am 23) = 0 := hM.2.2.2 23 _ rfl (by decide) (by decide) (by decide)
  have g24 : X.1 (am 24) = (124, 20, 40, -1, 23) := hM.1 24 _ rfl (by decide)
  have w24 : X.2 (am 24) = 0 := hM.2.2.2 24 _ rfl (by decide) (by decide) (by decide)
  have g14 : X.1 (am 14) = (114, 20, 24, -2147483648, 2147483647) := hM.1 14 _ rfl (by decide)
  have w14 : X.2 (am 14) = 0 := hM.2.2.2 14 _ rfl (by decide) (by decide) (by decide)
  obtain ⟨⟨z1a, z1b⟩, ⟨z2a, z2b⟩, ⟨z9a, z9b⟩, ⟨z20a, z20b⟩, ⟨z21a, z21b⟩, ⟨z22a, z22b⟩, ⟨z26a, z26b⟩, ⟨z28a, z28b⟩, ⟨z34a, z34b⟩, ⟨z35a, z35b⟩, ⟨z38a, z38b⟩, ⟨z39a, z39b⟩, ⟨z46a, z46b⟩, hzA, hzB⟩ := id hz
  have hl := lv_entry ([.ref o, .int (kz what)]) (n := 4) (Nat.le_of_ble_eq_true rfl)
  rw [lg_entry_eq]
  generalize (lg_sl ([.ref o, .int (kz what)]) ++ List.replicate (4 - (lg_sl ([.ref o, .int (kz what)])).length) Slot.unset).toArray = ls at hl ⊢
  have hl : lv_has ls 4 [(0, .ref o), (1, .int (kz what))] := hl
  refine lv_iconst (v := kz 0) hx hb dX12_count_0 rfl ?_
  refine lv_istore_n (lv' := [(2, .int (kz 0)), (0, .ref o), (1, .int (kz what))]) hx hb dX12_count_1 rfl hl (by decide) rfl (fun ls hl => ?_)
  refine lv_iload_n hx hb dX12_count_2 rfl (lv_at hl 2 rfl) ?_
  rcases ks_8 what (by omega) with c_1 | rfl | rfl | rfl | rfl | rfl | rfl | rfl | rfl
  · refine lv_tableOut (tgt := 140) hx hb dX12_count_3 (by rw [kz_toInt (by omega) (by omega)]; omega) (by decide) ?_
    refine lv_iconst (v := kz (-1)) hx hb dX12_count_140 rfl ?_
    exact W.iret (v := kz (-1)) hx hb hr (fun t9 ht hW => ⟨kz (-1), rfl, trivial, ht⟩) (fun q h => absurd h List.not_mem_nil) dX12_count_141
  · refine lv_tableIn (off := 45) (tgt := 48) hx hb dX12_count_3 (by decide) (by decide) rfl (by decide) ?_
    refine lv_aload_n hx hb dX12_count_48 rfl (lv_at hl 1 rfl) ?_
    refine iz_get (D := (dC, dI)) (ci := 12) (v := .int (kz (zi 2))) (C := RX12) (T := TX12) (N := 49) hx hb hts hin hown hK hO rfl 2 (by decide) hL131 (fun _ h9 => h9) rfl dX12_count_49 ?_
    exact W.iret (v := kz (zi 2)) hx hb hr (fun t9 ht hW => ⟨kz (zi 2), rfl, trivial, ht⟩) (fun q h => absurd h List.not_mem_nil) dX12_count_52
  · refine lv_tableIn (off := 50) (tgt := 53) hx hb dX12_count_3 (by decide) (by decide) rfl (by decide) ?_
    refine lv_aload_n hx hb dX12_count_53 rfl (lv_at hl 1 rfl) ?_
    refine iz_get (D := (dC, dI)) (ci := 12) (v := .int (kz (zi 9))) (C := RX12) (T := TX12) (N := 49) hx hb hts hin hown hK hO rfl 9 (by decide) hL138 (fun _ h9 => h9) rfl dX12_count_54 ?_
    exact W.iret (v := kz (zi 9)) hx hb hr (fun t9 ht hW => ⟨kz (zi 9), rfl, trivial, ht⟩) (fun q h => absurd h List.not_mem_nil) dX12_count_57
  · refine lv_tableIn (off := 55) (tgt := 58) hx hb dX12_count_3 (by decide) (by decide) rfl (by decide) ?_
    refine lv_aload_n hx hb dX12_count_58 rfl (lv_at hl 1 rfl) ?_
    refine iz_get (D := (dC, dI)) (ci := 12) (v := .int (kz (zi 1))) (C := RX12) (T := TX12) (N := 49) hx hb hts hin hown hK hO rfl 1 (by decide) hL120 (fun _ h9 => h9) rfl dX12_count_59 ?_
    exact W.iret (v := kz (zi 1)) hx hb hr (fun t9 ht hW => ⟨kz (zi 1), rfl, trivial, ht⟩) (fun q h => absurd h List.not_mem_nil) dX12_count_62
  · refine lv_tableIn (off := 60) (tgt := 63) hx hb dX12_count_3 (by decide) (by decide) rfl (by decide) ?_
    refine lv_aload_n hx hb dX12_count_63 rfl (lv_at hl 1 rfl) ?_
    refine iz_get (D := (dC, dI)) (ci := 12) (v := .int (kz (zi 26))) (C := RX12) (T := TX12) (N := 49) hx hb hts hin hown hK hO rfl 26 (by decide) hL169 (fun _ h9 => h9) rfl dX12_count_64 ?_
    exact W.iret (v := kz (zi 26)) hx hb hr (fun t9 ht hW => ⟨kz (zi 26), rfl, trivial, ht⟩) (fun q h => absurd h List.not_mem_nil) dX12_count_67
  · refine lv_tableIn (off := 65) (tgt := 68) hx hb dX12_count_3 (by decide) (by decide) rfl (by decide) ?_
    refine lv_aload_n hx hb dX12_count_68 rfl (lv_at hl 1 rfl) ?_
    refine iz_get (D := (dC, dI)) (ci := 12) (v := .int (kz (zi 22))) (C := RX12) (T := TX12) (N := 49) hx hb hts hin hown hK hO rfl 22 (by decide) hL155 (fun _ h9 => h9) rfl dX12_count_69 ?_
    exact W.iret (v := kz (zi 22)) hx hb hr (fun t9 ht hW => ⟨kz (zi 22), rfl, trivial, ht⟩) (fun q h => absurd h List.not_mem_nil) dX12_count_72
  · refine lv_tableIn (off := 70) (tgt := 73) hx hb dX12_count_3 (by decide) (by decide) rfl (by decide) ?_
    refine lv_aload_n hx hb dX12_count_73 rfl (lv_at hl 1 rfl) ?_
    refine iz_get (D := (dC, dI)) (ci := 12) (v := .int (kz (zi 46))) (C := RX12) (T := TX12) (N := 49) hx hb hts hin hown hK hO rfl 46 (by decide) hL250 (fun _ h9 => h9) rfl dX12_count_74 ?_
    exact W.iret (v := kz (zi 46)) hx hb hr (fun t9 ht hW => ⟨kz (zi 46), rfl, trivial, ht⟩) (fun q h => absurd h List.not_mem_nil) dX12_count_77
  · refine lv_tableIn (off := 75) (tgt := 78) hx hb dX12_count_3 (by decide) (by decide) rfl (by decide) ?_
    refine lv_aload_n hx hb dX12_count_78 rfl (lv_at hl 1 rfl) ?_
    refine iz_get (D := (dC, dI)) (ci := 12) (v := .int (kz (zi 20))) (C := RX12) (T := TX12) (N := 49) hx hb hts hin hown hK hO rfl 20 (by decide) hL63 (fun _ h9 => h9) rfl dX12_count_79 ?_
    exact W.iret (v := kz (zi 20)) hx hb hr (fun t9 ht hW => ⟨kz (zi 20), rfl, trivial, ht⟩) (fun q h => absurd h List.not_mem_nil) dX12_count_82
  · refine lv_tableIn (off := 80) (tgt := 83) hx hb dX12_count_3 (by decide) (by decide) rfl (by decide) ?_
    refine lv_iconst (v := kz 0) hx hb dX12_count_83 rfl ?_
    refine lv_istore_n (lv' := [(3, .int (kz 0)), (2, .int (kz 0)), (0, .ref o), (1, .int (kz 7))]) hx hb dX12_count_84 rfl hl (by decide) rfl (fun ls hl => ?_)
    refine iz_loopS2 (P := fun N9 n1 k ls => 0 ≤ k ∧ k ≤ 40 ∧ 40 - k ≤ (N9 : Int) ∧ lv_has ls 4 [(3, .int (kz k)), (2, .int (kz n1)), (0, .ref o), (1, .int (kz 7))]) 100000 (x0 := 0) (x1 := 0) ?_ ⟨by omega, by omega, by omega, lv_sub hl [0, 1, 2, 3] rfl⟩
    intro n_2 n1 k ls ⟨n_2f0, n_2f1, n_2f2, hl⟩ ihn_2
    refine lv_iload_n hx hb dX12_count_85 rfl (lv_at hl 0 rfl) ?_
    refine lv_aload_n hx hb dX12_count_86 rfl (lv_at hl 2 rfl) ?_
    refine iz_get (D := (dC, dI)) (ci := 12) (v := .int (kz (zi 22))) (C := RX12) (T := TX12) (N := 49) hx hb hts hin hown hK hO rfl 22 (by decide) hL155 (fun _ h9 => h9) rfl dX12_count_87 ?_
    refine iz_ge (tgt := 138) hx hb dX12_count_90 (by decide) (by unfold rg2; omega) (fun br_3 => ?_) (fun br_3 => ?_)
    · refine lv_iload_n hx hb dX12_count_138 rfl (lv_at hl 1 rfl) ?_
      exact W.iret (v := kz n1) hx hb hr (fun t9 ht hW => ⟨kz n1, rfl, trivial, ht⟩) (fun q h => absurd h List.not_mem_nil) dX12_count_139
    · refine lv_iload_n hx hb dX12_count_93 rfl (lv_at hl 1 rfl) ?_
      refine lv_aload_n hx hb dX12_count_94 rfl (lv_at hl 2 rfl) ?_
      refine iz_get (D := (dC, dI)) (ci := 12) (v := .ref (am 7)) (C := RX12) (T := TX12) (N := 49) hx hb hts hin hown hK hO rfl 7 (by decide) hL26 (fun _ h9 => h9) rfl dX12_count_95 ?_
      refine lv_aload_n hx hb dX12_count_98 rfl (lv_at hl 2 rfl) ?_
      refine iz_get (D := (dC, dI)) (ci := 12) (v := .ref (am 23)) (C := RX12) (T := TX12) (N := 49) hx hb hts hin hown hK hO rfl 23 (by decide) hL67 (fun _ h9 => h9) rfl dX12_count_99 ?_
      refine lv_iload_n hx hb dX12_count_102 rfl (lv_at hl 0 rfl) ?_
      obtain ⟨f23_4, c_f23_4, k_f23_4⟩ := iv_o20 hI g23
      refine iz_iald hx hb hK 0 c_f23_4 rfl (by omega) (by decide) dX12_count_103 ?_
      obtain ⟨v_5a, v_5b, v_5c⟩ := k_f23_4 k (by omega)
      clear v_5c
      obtain ⟨v_5, ev_5⟩ : ∃ z9 : Int, ge1 f23_4 k = z9 := ⟨_, rfl⟩
      rw [ev_5] at v_5a v_5b ⊢
      obtain ⟨f7_6, c_f7_6, k_f7_6⟩ := iv_o20 hI g7
      refine iz_iald hx hb hK 0 c_f7_6 rfl (by omega) (by decide) dX12_count_104 ?_
      obtain ⟨v_7a, v_7b, v_7c⟩ := k_f7_6 v_5 (by omega)
      clear v_7c
      obtain ⟨v_7, ev_7⟩ : ∃ z9 : Int, ge1 f7_6 v_5 = z9 := ⟨_, rfl⟩
      rw [ev_7] at v_7a v_7b ⊢
      refine lv_aload_n hx hb dX12_count_105 rfl (lv_at hl 2 rfl) ?_
      refine iz_get (D := (dC, dI)) (ci := 12) (v := .ref (am 24)) (C := RX12) (T := TX12) (N := 49) hx hb hts hin hown hK hO rfl 24 (by decide) hL70 (fun _ h9 => h9) rfl dX12_count_106 ?_
      refine lv_iload_n hx hb dX12_count_109 rfl (lv_at hl 0 rfl) ?_
      obtain ⟨f24_8, c_f24_8, k_f24_8⟩ := iv_o20 hI g24
      refine iz_iald hx hb hK 0 c_f24_8 rfl (by omega) (by decide) dX12_count_110 ?_
      obtain ⟨v_9a, v_9b, v_9c⟩ := k_f24_8 k (by omega)
      clear v_9c
      obtain ⟨v_9, ev_9⟩ : ∃ z9 : Int, ge1 f24_8 k = z9 := ⟨_, rfl⟩
      rw [ev_9] at v_9a v_9b ⊢
      refine iz_gez (tgt := 118) hx hb dX12_count_111 (by decide) (by unfold rg2; omega) (fun br_10 => ?_) (fun br_10 => ?_)
      · refine lv_aload_n hx hb dX12_count_118 rfl (lv_at hl 2 rfl) ?_
        refine iz_get (D := (dC, dI)) (ci := 12) (v := .ref (am 14)) (C := RX12) (T := TX12) (N := 49) hx hb hts hin hown hK hO rfl 14 (by decide) hL45 (fun _ h9 => h9) rfl dX12_count_119 ?_
        refine lv_aload_n hx hb dX12_count_122 rfl (lv_at hl 2 rfl) ?_
        refine iz_get (D := (dC, dI)) (ci := 12) (v := .ref (am 24)) (C := RX12) (T := TX12) (N := 49) hx hb hts hin hown hK hO rfl 24 (by decide) hL70 (fun _ h9 => h9) rfl dX12_count_123 ?_
        refine lv_iload_n hx hb dX12_count_126 rfl (lv_at hl 0 rfl) ?_
        refine iz_iald hx hb hK 0 c_f24_8 rfl (by omega) (by decide) dX12_count_127 ?_
        rw [ev_9]
        obtain ⟨f14_11, c_f14_11, k_f14_11⟩ := iv_o20 hI g14
        refine iz_iald hx hb hK 0 c_f14_11 rfl (by omega) (by decide) dX12_count_128 ?_
        obtain ⟨v_12a, v_12b, v_12c⟩ := k_f14_11 v_9 (by omega)
        clear v_12c
        obtain ⟨v_12, ev_12⟩ : ∃ z9 : Int, ge1 f14_11 v_9 = z9 := ⟨_, rfl⟩
        rw [ev_12] at v_12a v_12b ⊢
        refine iz_iadd hx hb dX12_count_129 ?_
        refine iz_iadd hx hb dX12_count_130 ?_
        refine lv_istore_n (lv' := [(2, .int (kz (n1 + (v_7 + v_12)))), (3, .int (kz k)), (0, .ref o), (1, .int (kz 7))]) hx hb dX12_count_131 rfl hl (by decide) rfl (fun ls hl => ?_)
        refine lv_iinc (v := kz (k + 1)) (lv' := [(3, .int (kz (k + 1))), (2, .int (kz (n1 + (v_7 + v_12)))), (0, .ref o), (1, .int (kz 7))]) hx hb dX12_count_132 hl (k := 1) rfl (kz_add k 1) (by decide) rfl (fun ls hl => ?_)
        refine lv_goto (tgt := 85) hx hb dX12_count_135 (by decide) ?_
        exact ihn_2 (n_2 - 1) (by omega) (n1 + (v_7 + v_12)) (k + 1) _ ⟨by omega, by omega, by omega, lv_sub hl [0, 1, 2, 3] rfl⟩
      · refine lv_iconst (v := kz 0) hx hb dX12_count_114 rfl ?_
        refine lv_goto (tgt := 129) hx hb dX12_count_115 (by decide) ?_
        refine iz_iadd hx hb dX12_count_129 ?_
        refine iz_iadd hx hb dX12_count_130 ?_
        refine lv_istore_n (lv' := [(2, .int (kz (n1 + (v_7 + 0)))), (3, .int (kz k)), (0, .ref o), (1, .int (kz 7))]) hx hb dX12_count_131 rfl hl (by decide) rfl (fun ls hl => ?_)
        refine lv_iinc (v := kz (k + 1)) (lv' := [(3, .int (kz (k + 1))), (2, .int (kz (n1 + (v_7 + 0)))), (0, .ref o), (1, .int (kz 7))]) hx hb dX12_count_132 hl (k := 1) rfl (kz_add k 1) (by decide) rfl (fun ls hl => ?_)
        refine lv_goto (tgt := 85) hx hb dX12_count_135 (by decide) ?_
        exact ihn_2 (n_2 - 1) (by omega) (n1 + (v_7 + 0)) (k + 1) _ ⟨by omega, by omega, by omega, lv_sub hl [0, 1, 2, 3] rfl⟩
set_option maxHeartbeats 4000000 in
set_option maxRecDepth 100000 in
/-- X12_parted -/
theorem m_parted (l : Launch) (dC : Nat → ClassId) (dI : Nat → Nat → Nat) (ca : Nat → ClassId) (A : Nat → Prop) (X : kGh) (o : Nat) (am : Nat → Nat) (zi : Nat → Int) (zl : Nat → Int64) (hM : mS X A o am) (hz : mZ X am zi) (what : Int) (whatr : -2147483648 ≤ what ∧ what ≤ 2147483647) : Met l yX12_parted wsX12_parted ({ frames := 0, cells := 0, slots := 0, locals := 0 }) (va_Pc [.ref o, .int (kz what)] (fun U => va_K (dC, dI) vwCl (k_tys ca) U ∧ mI (dC, dI) ca A X o am zi zl U.heap)) (vp_Sl (fun r => True)) 0 0 (fun _ => False) := by
  refine Met.ofW (cc := cX12_parted) (maxL := 2) (ret := (some .long)) (by decide) rfl ?_
  intro p e s m args below meth c s₁ B hml hv
  obtain ⟨rfl, hK, hI, hO⟩ := hv
  have hx := B.exec
  have hb := B.bytes
  have hr := B.returns
  have hts := atoms_spec (ws := wsX12_parted) B.pre
  have hown : s.vm.findClass RX12 = some m.cls := findClass_of_methodNamed B.named
  have hin : ∀ w ∈ u_ws RX12 TX12 49, w ∈ wsX12_parted := by decide +kernel
  have hL223 := hts (.fieldLink RX12 223 "JoinBenchModel" "hasParted" "Z") (by decide +kernel)
  have hL230 := hts (.fieldLink RX12 230 "JoinBenchModel" "all" "J") (by decide +kernel)
  have hL234 := hts (.fieldLink RX12 234 "JoinBenchModel" "counted" "J") (by decide +kernel)
  have hL237 := hts (.fieldLink RX12 237 "JoinBenchModel" "isLeft" "Z") (by decide +kernel)
  have hL218 := hts (.fieldLink RX12 218 "JoinBenchModel" "told" "I") (by decide +kernel)
  obtain ⟨⟨z1a, z1b⟩, ⟨z2a, z2b⟩, ⟨z9a, z9b⟩, ⟨z20a, z20b⟩, ⟨z21a, z21b⟩, ⟨z22a, z22b⟩, ⟨z26a, z26b⟩, ⟨z28a, z28b⟩, ⟨z34a, z34b⟩, ⟨z35a, z35b⟩, ⟨z38a, z38b⟩, ⟨z39a, z39b⟩, ⟨z46a, z46b⟩, hzA, hzB⟩ := id hz
  have hl := lv_entry ([.ref o, .int (kz what)]) (n := 2) (Nat.le_of_ble_eq_true rfl)
  rw [lg_entry_eq]
  generalize (lg_sl ([.ref o, .int (kz what)]) ++ List.replicate (2 - (lg_sl ([.ref o, .int (kz what)])).length) Slot.unset).toArray = ls at hl ⊢
  have hl : lv_has ls 2 [(0, .ref o), (1, .int (kz what))] := hl
  refine lv_aload_n hx hb dX12_parted_0 rfl (lv_at hl 0 rfl) ?_
  refine iz_get (D := (dC, dI)) (ci := 12) (v := .int (kz (zi 35))) (C := RX12) (T := TX12) (N := 49) hx hb hts hin hown hK hO rfl 35 (by decide) hL223 (fun _ h9 => h9) rfl dX12_parted_1 ?_
  refine iz_nez (tgt := 11) hx hb dX12_parted_4 (by decide) (by unfold rg2; omega) (fun br_1 => ?_) (fun br_1 => ?_)
  · refine lv_iload_n hx hb dX12_parted_11 rfl (lv_at hl 1 rfl) ?_
    refine iz_nez (tgt := 22) hx hb dX12_parted_12 (by decide) (by unfold rg2; omega) (fun br_2 => ?_) (fun br_2 => ?_)
    · refine lv_iload_n hx hb dX12_parted_22 rfl (lv_at hl 1 rfl) ?_
      refine lv_iconst (v := kz 1) hx hb dX12_parted_23 rfl ?_
      refine iz_ne (tgt := 34) hx hb dX12_parted_24 (by decide) (by unfold rg2; omega) (fun br_3 => ?_) (fun br_3 => ?_)
      · refine lv_iload_n hx hb dX12_parted_34 rfl (lv_at hl 1 rfl) ?_
        refine lv_iconst (v := kz 2) hx hb dX12_parted_35 rfl ?_
        refine iz_ne (tgt := 54) hx hb dX12_parted_36 (by decide) (by unfold rg2; omega) (fun br_4 => ?_) (fun br_4 => ?_)
        · refine lv_iload_n hx hb dX12_parted_54 rfl (lv_at hl 1 rfl) ?_
          refine lv_iconst (v := kz 3) hx hb dX12_parted_55 rfl ?_
          refine iz_ne (tgt := 67) hx hb dX12_parted_56 (by decide) (by unfold rg2; omega) (fun br_5 => ?_) (fun br_5 => ?_)
          · refine lv_ldc2 (own := RX12) (v := (-1)) hx hb hown (hts (.constantLong RX12 221 (-1)) (by decide +kernel)) dX12_parted_67 ?_
            exact W.lret (v := (-1)) hx hb hr (fun t9 ht hW => ⟨(-1), rfl, trivial, ht⟩) (fun q h => absurd h List.not_mem_nil) dX12_parted_70
          · refine lv_aload_n hx hb dX12_parted_59 rfl (lv_at hl 0 rfl) ?_
            refine iz_get (D := (dC, dI)) (ci := 12) (v := .int (kz (zi 39))) (C := RX12) (T := TX12) (N := 49) hx hb hts hin hown hK hO rfl 39 (by decide) hL218 (fun _ h9 => h9) rfl dX12_parted_60 ?_
            refine lv_i2l (v := (kz (zi 39)).toInt64) hx hb dX12_parted_63 rfl ?_
            refine lv_goto (tgt := 70) hx hb dX12_parted_64 (by decide) ?_
            exact W.lret (v := ((kz (zi 39)).toInt64)) hx hb hr (fun t9 ht hW => ⟨((kz (zi 39)).toInt64), rfl, trivial, ht⟩) (fun q h => absurd h List.not_mem_nil) dX12_parted_70
        · refine lv_aload_n hx hb dX12_parted_39 rfl (lv_at hl 0 rfl) ?_
          refine iz_get (D := (dC, dI)) (ci := 12) (v := .int (kz (zi 38))) (C := RX12) (T := TX12) (N := 49) hx hb hts hin hown hK hO rfl 38 (by decide) hL237 (fun _ h9 => h9) rfl dX12_parted_40 ?_
          refine iz_eqz (tgt := 50) hx hb dX12_parted_43 (by decide) (by unfold rg2; omega) (fun br_6 => ?_) (fun br_6 => ?_)
          · refine lv_lconst (v := 0) hx hb dX12_parted_50 (by decide) ?_
            refine lv_goto (tgt := 70) hx hb dX12_parted_51 (by decide) ?_
            exact W.lret (v := 0) hx hb hr (fun t9 ht hW => ⟨0, rfl, trivial, ht⟩) (fun q h => absurd h List.not_mem_nil) dX12_parted_70
          · refine lv_lconst (v := 1) hx hb dX12_parted_46 (by decide) ?_
            refine lv_goto (tgt := 70) hx hb dX12_parted_47 (by decide) ?_
            exact W.lret (v := 1) hx hb hr (fun t9 ht hW => ⟨1, rfl, trivial, ht⟩) (fun q h => absurd h List.not_mem_nil) dX12_parted_70
      · refine lv_aload_n hx hb dX12_parted_27 rfl (lv_at hl 0 rfl) ?_
        refine iz_get (D := (dC, dI)) (ci := 12) (v := .long (zl 37)) (C := RX12) (T := TX12) (N := 49) hx hb hts hin hown hK hO rfl 37 (by decide) hL234 (fun _ h9 => h9) rfl dX12_parted_28 ?_
        refine lv_goto (tgt := 70) hx hb dX12_parted_31 (by decide) ?_
        exact W.lret (v := (zl 37)) hx hb hr (fun t9 ht hW => ⟨(zl 37), rfl, trivial, ht⟩) (fun q h => absurd h List.not_mem_nil) dX12_parted_70
    · refine lv_aload_n hx hb dX12_parted_15 rfl (lv_at hl 0 rfl) ?_
      refine iz_get (D := (dC, dI)) (ci := 12) (v := .long (zl 36)) (C := RX12) (T := TX12) (N := 49) hx hb hts hin hown hK hO rfl 36 (by decide) hL230 (fun _ h9 => h9) rfl dX12_parted_16 ?_
      refine lv_goto (tgt := 70) hx hb dX12_parted_19 (by decide) ?_
      exact W.lret (v := (zl 36)) hx hb hr (fun t9 ht hW => ⟨(zl 36), rfl, trivial, ht⟩) (fun q h => absurd h List.not_mem_nil) dX12_parted_70
  · refine lv_ldc2 (own := RX12) (v := (-1)) hx hb hown (hts (.constantLong RX12 221 (-1)) (by decide +kernel)) dX12_parted_7 ?_
    exact W.lret (v := (-1)) hx hb hr (fun t9 ht hW => ⟨(-1), rfl, trivial, ht⟩) (fun q h => absurd h List.not_mem_nil) dX12_parted_10
set_option maxHeartbeats 4000000 in
set_option maxRecDepth 100000 in
/-- X12_isTold -/
theorem m_isTold (l : Launch) (dC : Nat → ClassId) (dI : Nat → Nat → Nat) (ca : Nat → ClassId) (A : Nat → Prop) (X : kGh) (o : Nat) (am : Nat → Nat) (zi : Nat → Int) (zl : Nat → Int64) (hM : mS X A o am) (hz : mZ X am zi) (k : Int) (kr : -2147483648 ≤ k ∧ k ≤ 2147483647) : Met l yX12_isTold wsX12_isTold ({ frames := 1, cells := 0, slots := 0, locals := 22 }) (va_Pc [.ref o, .int (kz k)] (fun U => va_K (dC, dI) vwCl (k_tys ca) U ∧ mI (dC, dI) ca A X o am zi zl U.heap)) (vp_Si (fun r => (r = kz 1 ∧ 0 ≤ k ∧ k ≤ zi 39 - 1) ∨ r = kz 0)) 0 0 (fun _ => False) := by
  refine Met.ofW (cc := cX12_isTold) (maxL := 2) (ret := (some .boolean)) (by decide) rfl ?_
  intro p e s m args below meth c s₁ B hml hv
  obtain ⟨rfl, hK, hI, hO⟩ := hv
  have hx := B.exec
  have hb := B.bytes
  have hr := B.returns
  have hts := atoms_spec (ws := wsX12_isTold) B.pre
  have hown : s.vm.findClass RX12 = some m.cls := findClass_of_methodNamed B.named
  have hin : ∀ w ∈ u_ws RX12 TX12 49, w ∈ wsX12_isTold := by decide +kernel
  have hL223 := hts (.fieldLink RX12 223 "JoinBenchModel" "hasParted" "Z") (by decide +kernel)
  have hL218 := hts (.fieldLink RX12 218 "JoinBenchModel" "told" "I") (by decide +kernel)
  obtain ⟨⟨z1a, z1b⟩, ⟨z2a, z2b⟩, ⟨z9a, z9b⟩, ⟨z20a, z20b⟩, ⟨z21a, z21b⟩, ⟨z22a, z22b⟩, ⟨z26a, z26b⟩, ⟨z28a, z28b⟩, ⟨z34a, z34b⟩, ⟨z35a, z35b⟩, ⟨z38a, z38b⟩, ⟨z39a, z39b⟩, ⟨z46a, z46b⟩, hzA, hzB⟩ := id hz
  have hl := lv_entry ([.ref o, .int (kz k)]) (n := 2) (Nat.le_of_ble_eq_true rfl)
  rw [lg_entry_eq]
  generalize (lg_sl ([.ref o, .int (kz k)]) ++ List.replicate (2 - (lg_sl ([.ref o, .int (kz k)])).length) Slot.unset).toArray = ls at hl ⊢
  have hl : lv_has ls 2 [(0, .ref o), (1, .int (kz k))] := hl
  refine lv_aload_n hx hb dX12_isTold_0 rfl (lv_at hl 0 rfl) ?_
  refine iz_get (D := (dC, dI)) (ci := 12) (v := .int (kz (zi 35))) (C := RX12) (T := TX12) (N := 49) hx hb hts hin hown hK hO rfl 35 (by decide) hL223 (fun _ h9 => h9) rfl dX12_isTold_1 ?_
  refine iz_eqz (tgt := 25) hx hb dX12_isTold_4 (by decide) (by unfold rg2; omega) (fun br_1 => ?_) (fun br_1 => ?_)
  · refine lv_iconst (v := kz 0) hx hb dX12_isTold_25 rfl ?_
    exact W.zret (v := kz 0) hx hb hr (by decide) (fun t9 ht hW => ⟨kz 0, rfl, Or.inr rfl, ht⟩) (fun q h => absurd h List.not_mem_nil) dX12_isTold_26
  · refine lv_iload_n hx hb dX12_isTold_7 rfl (lv_at hl 1 rfl) ?_
    refine lv_iconst (v := kz 0) hx hb dX12_isTold_8 rfl ?_
    refine lv_aload_n hx hb dX12_isTold_9 rfl (lv_at hl 0 rfl) ?_
    refine iz_get (D := (dC, dI)) (ci := 12) (v := .int (kz (zi 39))) (C := RX12) (T := TX12) (N := 49) hx hb hts hin hown hK hO rfl 39 (by decide) hL218 (fun _ h9 => h9) rfl dX12_isTold_10 ?_
    refine lv_iconst (v := kz 1) hx hb dX12_isTold_13 rfl ?_
    refine iz_isub hx hb dX12_isTold_14 ?_
    refine vp_callSi (va_Run.run (va_runS (As := [.int (kz k), .int (kz 0), .int (kz (zi 39 - 1))]) (rest := []) ⟨hx, hb, hml, hown, hts⟩ (m_in l k 0 (zi 39 - 1) (by omega) (by omega) (by omega)) (va_cwS 3 hts gX12_isTold_X12_in rfl rfl rfl (by decide +kernel) ⟨Nat.le_of_ble_eq_true rfl, Nat.le_of_ble_eq_true rfl⟩) ⟨fun a U g mk q => q, fun U hU hW => ⟨rfl, trivial⟩⟩ rfl rfl hl.1 rfl (lv_room (Nat.le_of_ble_eq_true rfl)) dX12_isTold_15 ⟨Nat.le_of_ble_eq_true rfl, Nat.le_of_ble_eq_true rfl⟩)) (fun r_3 hw_2 => ?_)
    rcases hw_2 with ⟨rfl, hw_2⟩ | ⟨rfl, hw_2⟩
    · refine iz_eqz (tgt := 25) hx hb dX12_isTold_18 (by decide) (by unfold rg2; omega) (fun q9 => absurd q9 (by decide)) (fun _ => ?_)
      refine lv_iconst (v := kz 1) hx hb dX12_isTold_21 rfl ?_
      refine lv_goto (tgt := 26) hx hb dX12_isTold_22 (by decide) ?_
      exact W.zret (v := kz 1) hx hb hr (by decide) (fun t9 ht hW => ⟨kz 1, rfl, Or.inl ⟨rfl, by omega, by omega⟩, ht⟩) (fun q h => absurd h List.not_mem_nil) dX12_isTold_26
    · refine iz_eqz (tgt := 25) hx hb dX12_isTold_18 (by decide) (by unfold rg2; omega) (fun _ => ?_) (fun q9 => absurd q9 (by decide))
      refine lv_iconst (v := kz 0) hx hb dX12_isTold_25 rfl ?_
      exact W.zret (v := kz 0) hx hb hr (by decide) (fun t9 ht hW => ⟨kz 0, rfl, Or.inr rfl, ht⟩) (fun q h => absurd h List.not_mem_nil) dX12_isTold_26
set_option maxHeartbeats 4000000 in
set_option maxRecDepth 100000 in
/-- X12_parting -/
theorem m_parting (l : Launch) (dC : Nat → ClassId) (dI : Nat → Nat → Nat) (ca : Nat → ClassId) (A : Nat → Prop) (X : kGh) (o : Nat) (am : Nat → Nat) (zi : Nat → Int) (zl : Nat → Int64) (hM : mS X A o am) (hz : mZ X am zi) (k : Int) (what : Int) (kr : -2147483648 ≤ k ∧ k ≤ 2147483647) (whatr : -2147483648 ≤ what ∧ what ≤ 2147483647) : Met l yX12_parting wsX12_parting ({ frames := 2, cells := 0, slots := 0, locals := 43 }) (va_Pc [.ref o, .int (kz k), .int (kz what)] (fun U => va_K (dC, dI) vwCl (k_tys ca) U ∧ mI (dC, dI) ca A X o am zi zl U.heap)) (vp_Si (fun r => True)) 0 0 (fun _ => False) := by
  refine Met.ofW (cc := cX12_parting) (maxL := 3) (ret := (some .int)) (by decide) rfl ?_
  intro p e s m args below meth c s₁ B hml hv
  obtain ⟨rfl, hK, hI, hO⟩ := hv
  have hx := B.exec
  have hb := B.bytes
  have hr := B.returns
  have hts := atoms_spec (ws := wsX12_parting) B.pre
  have hown : s.vm.findClass RX12 = some m.cls := findClass_of_methodNamed B.named
  have hin : ∀ w ∈ u_ws RX12 TX12 49, w ∈ wsX12_parting := by decide +kernel
  have hL96 := hts (.fieldLink RX12 96 "JoinBenchModel" "toldCost" "[I") (by decide +kernel)
  have hL99 := hts (.fieldLink RX12 99 "JoinBenchModel" "toldMany" "[I") (by decide +kernel)
  have g40 : X.1 (am 40) = (140, 20, 8, -2147483648, 2147483647) := hM.1 40 _ rfl (by decide)
  have w40 : X.2 (am 40) = 0 := hM.2.2.2 40 _ rfl (by decide) (by decide) (by decide)
  have g41 : X.1 (am 41) = (141, 20, 8, 0, 40) := hM.1 41 _ rfl (by decide)
  obtain ⟨⟨z1a, z1b⟩, ⟨z2a, z2b⟩, ⟨z9a, z9b⟩, ⟨z20a, z20b⟩, ⟨z21a, z21b⟩, ⟨z22a, z22b⟩, ⟨z26a, z26b⟩, ⟨z28a, z28b⟩, ⟨z34a, z34b⟩, ⟨z35a, z35b⟩, ⟨z38a, z38b⟩, ⟨z39a, z39b⟩, ⟨z46a, z46b⟩, hzA, hzB⟩ := id hz
  have hl := lv_entry ([.ref o, .int (kz k), .int (kz what)]) (n := 3) (Nat.le_of_ble_eq_true rfl)
  rw [lg_entry_eq]
  generalize (lg_sl ([.ref o, .int (kz k), .int (kz what)]) ++ List.replicate (3 - (lg_sl ([.ref o, .int (kz k), .int (kz what)])).length) Slot.unset).toArray = ls at hl ⊢
  have hl : lv_has ls 3 [(0, .ref o), (1, .int (kz k)), (2, .int (kz what))] := hl
  refine lv_aload_n hx hb dX12_parting_0 rfl (lv_at hl 0 rfl) ?_
  refine lv_iload_n hx hb dX12_parting_1 rfl (lv_at hl 1 rfl) ?_
  refine vp_callSi (va_Run.run (va_runV (As := [.int (kz k)]) (rest := []) ⟨hx, hb, hml, hown, hts⟩ (m_isTold l dC dI ca A X o am zi zl hM hz k (by omega)) (cwV 1 hts gX12_parting_X12_isTold rfl rfl rfl (by decide +kernel) ⟨Nat.le_of_ble_eq_true rfl, Nat.le_of_ble_eq_true rfl⟩) ⟨fun a U g mk q => by obtain ⟨q0, qK, qI⟩ := q; exact ⟨q0, va_K.moved (u := U) (U := U.calling g mk a) (Vm.Alike.refl U.vm) qK, qI⟩, va_recv hK (at_P hO) (ci := 12) (q0 := 0) rfl rfl, fun U hU hW => ⟨rfl, va_K.moved hW.alike hK, by rw [hU]; exact ⟨hI, hO⟩⟩⟩ rfl rfl hl.1 rfl (lv_room (Nat.le_of_ble_eq_true rfl)) dX12_parting_2 ⟨Nat.le_of_ble_eq_true rfl, Nat.le_of_ble_eq_true rfl⟩)) (fun r_2 hw_1 => ?_)
  rcases hw_1 with ⟨rfl, hw_1a, hw_1b⟩ | rfl
  · refine iz_nez (tgt := 10) hx hb dX12_parting_5 (by decide) (by unfold rg2; omega) (fun _ => ?_) (fun q9 => absurd q9 (by decide))
    refine lv_iload_n hx hb dX12_parting_10 rfl (lv_at hl 2 rfl) ?_
    refine iz_nez (tgt := 23) hx hb dX12_parting_11 (by decide) (by unfold rg2; omega) (fun br_3 => ?_) (fun br_3 => ?_)
    · refine lv_iload_n hx hb dX12_parting_23 rfl (lv_at hl 2 rfl) ?_
      refine lv_iconst (v := kz 1) hx hb dX12_parting_24 rfl ?_
      refine iz_ne (tgt := 37) hx hb dX12_parting_25 (by decide) (by unfold rg2; omega) (fun br_4 => ?_) (fun br_4 => ?_)
      · refine lv_iload_n hx hb dX12_parting_37 rfl (lv_at hl 2 rfl) ?_
        refine lv_iconst (v := kz 2) hx hb dX12_parting_38 rfl ?_
        refine iz_ne (tgt := 58) hx hb dX12_parting_39 (by decide) (by unfold rg2; omega) (fun br_5 => ?_) (fun br_5 => ?_)
        · refine lv_iconst (v := kz (-1)) hx hb dX12_parting_58 rfl ?_
          exact W.iret (v := kz (-1)) hx hb hr (fun t9 ht hW => ⟨kz (-1), rfl, trivial, ht⟩) (fun q h => absurd h List.not_mem_nil) dX12_parting_59
        · refine lv_aload_n hx hb dX12_parting_42 rfl (lv_at hl 0 rfl) ?_
          refine iz_get (D := (dC, dI)) (ci := 12) (v := .ref (am 40)) (C := RX12) (T := TX12) (N := 49) hx hb hts hin hown hK hO rfl 40 (by decide) hL96 (fun _ h9 => h9) rfl dX12_parting_43 ?_
          refine lv_iload_n hx hb dX12_parting_46 rfl (lv_at hl 1 rfl) ?_
          obtain ⟨f40_6, c_f40_6, k_f40_6⟩ := iv_o20 hI g40
          refine iz_iald hx hb hK 0 c_f40_6 rfl (by omega) (by decide) dX12_parting_47 ?_
          obtain ⟨v_7a, v_7b, v_7c⟩ := k_f40_6 k (by omega)
          clear v_7c
          obtain ⟨v_7, ev_7⟩ : ∃ z9 : Int, ge1 f40_6 k = z9 := ⟨_, rfl⟩
          rw [ev_7] at v_7a v_7b ⊢
          refine lv_aload_n hx hb dX12_parting_48 rfl (lv_at hl 0 rfl) ?_
          refine iz_get (D := (dC, dI)) (ci := 12) (v := .ref (am 40)) (C := RX12) (T := TX12) (N := 49) hx hb hts hin hown hK hO rfl 40 (by decide) hL96 (fun _ h9 => h9) rfl dX12_parting_49 ?_
          refine lv_iconst (v := kz 0) hx hb dX12_parting_52 rfl ?_
          refine iz_iald hx hb hK 0 c_f40_6 rfl (by omega) (by decide) dX12_parting_53 ?_
          obtain ⟨v_8a, v_8b, v_8c⟩ := k_f40_6 0 (by omega)
          clear v_8c
          obtain ⟨v_8, ev_8⟩ : ∃ z9 : Int, ge1 f40_6 0 = z9 := ⟨_, rfl⟩
          rw [ev_8] at v_8a v_8b ⊢
          refine iz_isub hx hb dX12_parting_54 ?_
          refine lv_goto (tgt := 59) hx hb dX12_parting_55 (by decide) ?_
          exact W.iret (v := kz (v_7 - v_8)) hx hb hr (fun t9 ht hW => ⟨kz (v_7 - v_8), rfl, trivial, ht⟩) (fun q h => absurd h List.not_mem_nil) dX12_parting_59
      · refine lv_aload_n hx hb dX12_parting_28 rfl (lv_at hl 0 rfl) ?_
        refine iz_get (D := (dC, dI)) (ci := 12) (v := .ref (am 41)) (C := RX12) (T := TX12) (N := 49) hx hb hts hin hown hK hO rfl 41 (by decide) hL99 (fun _ h9 => h9) rfl dX12_parting_29 ?_
        refine lv_iload_n hx hb dX12_parting_32 rfl (lv_at hl 1 rfl) ?_
        obtain ⟨f41_9, c_f41_9, k_f41_9⟩ := iv_o20 hI g41
        refine iz_iald hx hb hK 0 c_f41_9 rfl (by omega) (by decide) dX12_parting_33 ?_
        obtain ⟨v_10a, v_10b, v_10c⟩ := k_f41_9 k (by omega)
        obtain ⟨v_10, ev_10⟩ : ∃ z9 : Int, ge1 f41_9 k = z9 := ⟨_, rfl⟩
        rw [ev_10] at v_10a v_10b v_10c ⊢
        refine lv_goto (tgt := 59) hx hb dX12_parting_34 (by decide) ?_
        exact W.iret (v := kz v_10) hx hb hr (fun t9 ht hW => ⟨kz v_10, rfl, trivial, ht⟩) (fun q h => absurd h List.not_mem_nil) dX12_parting_59
    · refine lv_aload_n hx hb dX12_parting_14 rfl (lv_at hl 0 rfl) ?_
      refine iz_get (D := (dC, dI)) (ci := 12) (v := .ref (am 40)) (C := RX12) (T := TX12) (N := 49) hx hb hts hin hown hK hO rfl 40 (by decide) hL96 (fun _ h9 => h9) rfl dX12_parting_15 ?_
      refine lv_iload_n hx hb dX12_parting_18 rfl (lv_at hl 1 rfl) ?_
      obtain ⟨f40_11, c_f40_11, k_f40_11⟩ := iv_o20 hI g40
      refine iz_iald hx hb hK 0 c_f40_11 rfl (by omega) (by decide) dX12_parting_19 ?_
      obtain ⟨v_12a, v_12b, v_12c⟩ := k_f40_11 k (by omega)
      clear v_12c
      obtain ⟨v_12, ev_12⟩ : ∃ z9 : Int, ge1 f40_11 k = z9 := ⟨_, rfl⟩
      rw [ev_12] at v_12a v_12b ⊢
      refine lv_goto (tgt := 59) hx hb dX12_parting_20 (by decide) ?_
      exact W.iret (v := kz v_12) hx hb hr (fun t9 ht hW => ⟨kz v_12, rfl, trivial, ht⟩) (fun q h => absurd h List.not_mem_nil) dX12_parting_59
  · refine iz_nez (tgt := 10) hx hb dX12_parting_5 (by decide) (by unfold rg2; omega) (fun q9 => absurd q9 (by decide)) (fun _ => ?_)
    refine lv_iconst (v := kz (-1)) hx hb dX12_parting_8 rfl ?_
    exact W.iret (v := kz (-1)) hx hb hr (fun t9 ht hW => ⟨kz (-1), rfl, trivial, ht⟩) (fun q h => absurd h List.not_mem_nil) dX12_parting_9
set_option maxHeartbeats 4000000 in
set_option maxRecDepth 100000 in
/-- X12_formOf -/
theorem m_formOf (l : Launch) (dC : Nat → ClassId) (dI : Nat → Nat → Nat) (ca : Nat → ClassId) (A : Nat → Prop) (X : kGh) (o : Nat) (am : Nat → Nat) (zi : Nat → Int) (zl : Nat → Int64) (hM : mS X A o am) (hz : mZ X am zi) (k : Int) (i1 : Int) (kr : -2147483648 ≤ k ∧ k ≤ 2147483647) (i1r : -2147483648 ≤ i1 ∧ i1 ≤ 2147483647) : Met l yX12_formOf wsX12_formOf ({ frames := 2, cells := 0, slots := 0, locals := 43 }) (va_Pc [.ref o, .int (kz k), .int (kz i1)] (fun U => va_K (dC, dI) vwCl (k_tys ca) U ∧ mI (dC, dI) ca A X o am zi zl U.heap)) (vp_Si (fun r => True)) 0 0 (fun _ => False) := by
  refine Met.ofW (cc := cX12_formOf) (maxL := 3) (ret := (some .int)) (by decide) rfl ?_
  intro p e s m args below meth c s₁ B hml hv
  obtain ⟨rfl, hK, hI, hO⟩ := hv
  have hx := B.exec
  have hb := B.bytes
  have hr := B.returns
  have hts := atoms_spec (ws := wsX12_formOf) B.pre
  have hown : s.vm.findClass RX12 = some m.cls := findClass_of_methodNamed B.named
  have hin : ∀ w ∈ u_ws RX12 TX12 49, w ∈ wsX12_formOf := by decide +kernel
  have hL99 := hts (.fieldLink RX12 99 "JoinBenchModel" "toldMany" "[I") (by decide +kernel)
  have hL102 := hts (.fieldLink RX12 102 "JoinBenchModel" "toldForm" "[I") (by decide +kernel)
  have g41 : X.1 (am 41) = (141, 20, 8, 0, 40) := hM.1 41 _ rfl (by decide)
  have g42 : X.1 (am 42) = (142, 20, 320, 0, 39) := hM.1 42 _ rfl (by decide)
  have w42 : X.2 (am 42) = 0 := hM.2.2.2 42 _ rfl (by decide) (by decide) (by decide)
  obtain ⟨⟨z1a, z1b⟩, ⟨z2a, z2b⟩, ⟨z9a, z9b⟩, ⟨z20a, z20b⟩, ⟨z21a, z21b⟩, ⟨z22a, z22b⟩, ⟨z26a, z26b⟩, ⟨z28a, z28b⟩, ⟨z34a, z34b⟩, ⟨z35a, z35b⟩, ⟨z38a, z38b⟩, ⟨z39a, z39b⟩, ⟨z46a, z46b⟩, hzA, hzB⟩ := id hz
  have hl := lv_entry ([.ref o, .int (kz k), .int (kz i1)]) (n := 3) (Nat.le_of_ble_eq_true rfl)
  rw [lg_entry_eq]
  generalize (lg_sl ([.ref o, .int (kz k), .int (kz i1)]) ++ List.replicate (3 - (lg_sl ([.ref o, .int (kz k), .int (kz i1)])).length) Slot.unset).toArray = ls at hl ⊢
  have hl : lv_has ls 3 [(0, .ref o), (1, .int (kz k)), (2, .int (kz i1))] := hl
  refine lv_aload_n hx hb dX12_formOf_0 rfl (lv_at hl 0 rfl) ?_
  refine lv_iload_n hx hb dX12_formOf_1 rfl (lv_at hl 1 rfl) ?_
  refine vp_callSi (va_Run.run (va_runV (As := [.int (kz k)]) (rest := []) ⟨hx, hb, hml, hown, hts⟩ (m_isTold l dC dI ca A X o am zi zl hM hz k (by omega)) (cwV 1 hts gX12_formOf_X12_isTold rfl rfl rfl (by decide +kernel) ⟨Nat.le_of_ble_eq_true rfl, Nat.le_of_ble_eq_true rfl⟩) ⟨fun a U g mk q => by obtain ⟨q0, qK, qI⟩ := q; exact ⟨q0, va_K.moved (u := U) (U := U.calling g mk a) (Vm.Alike.refl U.vm) qK, qI⟩, va_recv hK (at_P hO) (ci := 12) (q0 := 0) rfl rfl, fun U hU hW => ⟨rfl, va_K.moved hW.alike hK, by rw [hU]; exact ⟨hI, hO⟩⟩⟩ rfl rfl hl.1 rfl (lv_room (Nat.le_of_ble_eq_true rfl)) dX12_formOf_2 ⟨Nat.le_of_ble_eq_true rfl, Nat.le_of_ble_eq_true rfl⟩)) (fun r_2 hw_1 => ?_)
  rcases hw_1 with ⟨rfl, hw_1a, hw_1b⟩ | rfl
  · refine iz_eqz (tgt := 38) hx hb dX12_formOf_5 (by decide) (by unfold rg2; omega) (fun q9 => absurd q9 (by decide)) (fun _ => ?_)
    refine lv_iload_n hx hb dX12_formOf_8 rfl (lv_at hl 2 rfl) ?_
    refine lv_iconst (v := kz 0) hx hb dX12_formOf_9 rfl ?_
    refine lv_aload_n hx hb dX12_formOf_10 rfl (lv_at hl 0 rfl) ?_
    refine iz_get (D := (dC, dI)) (ci := 12) (v := .ref (am 41)) (C := RX12) (T := TX12) (N := 49) hx hb hts hin hown hK hO rfl 41 (by decide) hL99 (fun _ h9 => h9) rfl dX12_formOf_11 ?_
    refine lv_iload_n hx hb dX12_formOf_14 rfl (lv_at hl 1 rfl) ?_
    obtain ⟨f41_3, c_f41_3, k_f41_3⟩ := iv_o20 hI g41
    refine iz_iald hx hb hK 0 c_f41_3 rfl (by omega) (by decide) dX12_formOf_15 ?_
    obtain ⟨v_4a, v_4b, v_4c⟩ := k_f41_3 k (by omega)
    obtain ⟨v_4, ev_4⟩ : ∃ z9 : Int, ge1 f41_3 k = z9 := ⟨_, rfl⟩
    rw [ev_4] at v_4a v_4b v_4c ⊢
    refine lv_iconst (v := kz 1) hx hb dX12_formOf_16 rfl ?_
    refine iz_isub hx hb dX12_formOf_17 ?_
    refine vp_callSi (va_Run.run (va_runS (As := [.int (kz i1), .int (kz 0), .int (kz (v_4 - 1))]) (rest := []) ⟨hx, hb, hml, hown, hts⟩ (m_in l i1 0 (v_4 - 1) (by omega) (by omega) (by omega)) (va_cwS 3 hts gX12_formOf_X12_in rfl rfl rfl (by decide +kernel) ⟨Nat.le_of_ble_eq_true rfl, Nat.le_of_ble_eq_true rfl⟩) ⟨fun a U g mk q => q, fun U hU hW => ⟨rfl, trivial⟩⟩ rfl rfl hl.1 rfl (lv_room (Nat.le_of_ble_eq_true rfl)) dX12_formOf_18 ⟨Nat.le_of_ble_eq_true rfl, Nat.le_of_ble_eq_true rfl⟩)) (fun r_6 hw_5 => ?_)
    rcases hw_5 with ⟨rfl, hw_5⟩ | ⟨rfl, hw_5⟩
    · refine iz_eqz (tgt := 38) hx hb dX12_formOf_21 (by decide) (by unfold rg2; omega) (fun q9 => absurd q9 (by decide)) (fun _ => ?_)
      refine lv_aload_n hx hb dX12_formOf_24 rfl (lv_at hl 0 rfl) ?_
      refine iz_get (D := (dC, dI)) (ci := 12) (v := .ref (am 42)) (C := RX12) (T := TX12) (N := 49) hx hb hts hin hown hK hO rfl 42 (by decide) hL102 (fun _ h9 => h9) rfl dX12_formOf_25 ?_
      refine lv_bipush (v := kz 40) hx hb dX12_formOf_28 (by decide) ?_
      refine lv_iload_n hx hb dX12_formOf_30 rfl (lv_at hl 1 rfl) ?_
      refine iz_imul hx hb dX12_formOf_31 ?_
      refine lv_iload_n hx hb dX12_formOf_32 rfl (lv_at hl 2 rfl) ?_
      refine iz_iadd hx hb dX12_formOf_33 ?_
      obtain ⟨f42_7, c_f42_7, k_f42_7⟩ := iv_o20 hI g42
      refine iz_iald hx hb hK 0 c_f42_7 rfl (by omega) (by decide) dX12_formOf_34 ?_
      obtain ⟨v_8a, v_8b, v_8c⟩ := k_f42_7 ((40 * k) + i1) (by omega)
      clear v_8c
      obtain ⟨v_8, ev_8⟩ : ∃ z9 : Int, ge1 f42_7 ((40 * k) + i1) = z9 := ⟨_, rfl⟩
      rw [ev_8] at v_8a v_8b ⊢
      refine lv_goto (tgt := 39) hx hb dX12_formOf_35 (by decide) ?_
      exact W.iret (v := kz v_8) hx hb hr (fun t9 ht hW => ⟨kz v_8, rfl, trivial, ht⟩) (fun q h => absurd h List.not_mem_nil) dX12_formOf_39
    · refine iz_eqz (tgt := 38) hx hb dX12_formOf_21 (by decide) (by unfold rg2; omega) (fun _ => ?_) (fun q9 => absurd q9 (by decide))
      refine lv_iconst (v := kz (-1)) hx hb dX12_formOf_38 rfl ?_
      exact W.iret (v := kz (-1)) hx hb hr (fun t9 ht hW => ⟨kz (-1), rfl, trivial, ht⟩) (fun q h => absurd h List.not_mem_nil) dX12_formOf_39
  · refine iz_eqz (tgt := 38) hx hb dX12_formOf_5 (by decide) (by unfold rg2; omega) (fun _ => ?_) (fun q9 => absurd q9 (by decide))
    refine lv_iconst (v := kz (-1)) hx hb dX12_formOf_38 rfl ?_
    exact W.iret (v := kz (-1)) hx hb hr (fun t9 ht hW => ⟨kz (-1), rfl, trivial, ht⟩) (fun q h => absurd h List.not_mem_nil) dX12_formOf_39
set_option maxHeartbeats 4000000 in
set_option maxRecDepth 100000 in
/-- X12_ruleOf -/
theorem m_ruleOf (l : Launch) (dC : Nat → ClassId) (dI : Nat → Nat → Nat) (ca : Nat → ClassId) (A : Nat → Prop) (X : kGh) (o : Nat) (am : Nat → Nat) (zi : Nat → Int) (zl : Nat → Int64) (hM : mS X A o am) (hz : mZ X am zi) (k : Int) (i1 : Int) (kr : -2147483648 ≤ k ∧ k ≤ 2147483647) (i1r : -2147483648 ≤ i1 ∧ i1 ≤ 2147483647) : Met l yX12_ruleOf wsX12_ruleOf ({ frames := 2, cells := 0, slots := 0, locals := 43 }) (va_Pc [.ref o, .int (kz k), .int (kz i1)] (fun U => va_K (dC, dI) vwCl (k_tys ca) U ∧ mI (dC, dI) ca A X o am zi zl U.heap)) (vp_Si (fun r => True)) 0 0 (fun _ => False) := by
  refine Met.ofW (cc := cX12_ruleOf) (maxL := 3) (ret := (some .int)) (by decide) rfl ?_
  intro p e s m args below meth c s₁ B hml hv
  obtain ⟨rfl, hK, hI, hO⟩ := hv
  have hx := B.exec
  have hb := B.bytes
  have hr := B.returns
  have hts := atoms_spec (ws := wsX12_ruleOf) B.pre
  have hown : s.vm.findClass RX12 = some m.cls := findClass_of_methodNamed B.named
  have hin : ∀ w ∈ u_ws RX12 TX12 49, w ∈ wsX12_ruleOf := by decide +kernel
  have hL99 := hts (.fieldLink RX12 99 "JoinBenchModel" "toldMany" "[I") (by decide +kernel)
  have hL105 := hts (.fieldLink RX12 105 "JoinBenchModel" "toldRule" "[I") (by decide +kernel)
  have g41 : X.1 (am 41) = (141, 20, 8, 0, 40) := hM.1 41 _ rfl (by decide)
  have g43 : X.1 (am 43) = (143, 20, 320, -2147483648, 2147483647) := hM.1 43 _ rfl (by decide)
  have w43 : X.2 (am 43) = 0 := hM.2.2.2 43 _ rfl (by decide) (by decide) (by decide)
  obtain ⟨⟨z1a, z1b⟩, ⟨z2a, z2b⟩, ⟨z9a, z9b⟩, ⟨z20a, z20b⟩, ⟨z21a, z21b⟩, ⟨z22a, z22b⟩, ⟨z26a, z26b⟩, ⟨z28a, z28b⟩, ⟨z34a, z34b⟩, ⟨z35a, z35b⟩, ⟨z38a, z38b⟩, ⟨z39a, z39b⟩, ⟨z46a, z46b⟩, hzA, hzB⟩ := id hz
  have hl := lv_entry ([.ref o, .int (kz k), .int (kz i1)]) (n := 3) (Nat.le_of_ble_eq_true rfl)
  rw [lg_entry_eq]
  generalize (lg_sl ([.ref o, .int (kz k), .int (kz i1)]) ++ List.replicate (3 - (lg_sl ([.ref o, .int (kz k), .int (kz i1)])).length) Slot.unset).toArray = ls at hl ⊢
  have hl : lv_has ls 3 [(0, .ref o), (1, .int (kz k)), (2, .int (kz i1))] := hl
  refine lv_aload_n hx hb dX12_ruleOf_0 rfl (lv_at hl 0 rfl) ?_
  refine lv_iload_n hx hb dX12_ruleOf_1 rfl (lv_at hl 1 rfl) ?_
  refine vp_callSi (va_Run.run (va_runV (As := [.int (kz k)]) (rest := []) ⟨hx, hb, hml, hown, hts⟩ (m_isTold l dC dI ca A X o am zi zl hM hz k (by omega)) (cwV 1 hts gX12_ruleOf_X12_isTold rfl rfl rfl (by decide +kernel) ⟨Nat.le_of_ble_eq_true rfl, Nat.le_of_ble_eq_true rfl⟩) ⟨fun a U g mk q => by obtain ⟨q0, qK, qI⟩ := q; exact ⟨q0, va_K.moved (u := U) (U := U.calling g mk a) (Vm.Alike.refl U.vm) qK, qI⟩, va_recv hK (at_P hO) (ci := 12) (q0 := 0) rfl rfl, fun U hU hW => ⟨rfl, va_K.moved hW.alike hK, by rw [hU]; exact ⟨hI, hO⟩⟩⟩ rfl rfl hl.1 rfl (lv_room (Nat.le_of_ble_eq_true rfl)) dX12_ruleOf_2 ⟨Nat.le_of_ble_eq_true rfl, Nat.le_of_ble_eq_true rfl⟩)) (fun r_2 hw_1 => ?_)
  rcases hw_1 with ⟨rfl, hw_1a, hw_1b⟩ | rfl
  · refine iz_eqz (tgt := 38) hx hb dX12_ruleOf_5 (by decide) (by unfold rg2; omega) (fun q9 => absurd q9 (by decide)) (fun _ => ?_)
    refine lv_iload_n hx hb dX12_ruleOf_8 rfl (lv_at hl 2 rfl) ?_
    refine lv_iconst (v := kz 0) hx hb dX12_ruleOf_9 rfl ?_
    refine lv_aload_n hx hb dX12_ruleOf_10 rfl (lv_at hl 0 rfl) ?_
    refine iz_get (D := (dC, dI)) (ci := 12) (v := .ref (am 41)) (C := RX12) (T := TX12) (N := 49) hx hb hts hin hown hK hO rfl 41 (by decide) hL99 (fun _ h9 => h9) rfl dX12_ruleOf_11 ?_
    refine lv_iload_n hx hb dX12_ruleOf_14 rfl (lv_at hl 1 rfl) ?_
    obtain ⟨f41_3, c_f41_3, k_f41_3⟩ := iv_o20 hI g41
    refine iz_iald hx hb hK 0 c_f41_3 rfl (by omega) (by decide) dX12_ruleOf_15 ?_
    obtain ⟨v_4a, v_4b, v_4c⟩ := k_f41_3 k (by omega)
    obtain ⟨v_4, ev_4⟩ : ∃ z9 : Int, ge1 f41_3 k = z9 := ⟨_, rfl⟩
    rw [ev_4] at v_4a v_4b v_4c ⊢
    refine lv_iconst (v := kz 1) hx hb dX12_ruleOf_16 rfl ?_
    refine iz_isub hx hb dX12_ruleOf_17 ?_
    refine vp_callSi (va_Run.run (va_runS (As := [.int (kz i1), .int (kz 0), .int (kz (v_4 - 1))]) (rest := []) ⟨hx, hb, hml, hown, hts⟩ (m_in l i1 0 (v_4 - 1) (by omega) (by omega) (by omega)) (va_cwS 3 hts gX12_ruleOf_X12_in rfl rfl rfl (by decide +kernel) ⟨Nat.le_of_ble_eq_true rfl, Nat.le_of_ble_eq_true rfl⟩) ⟨fun a U g mk q => q, fun U hU hW => ⟨rfl, trivial⟩⟩ rfl rfl hl.1 rfl (lv_room (Nat.le_of_ble_eq_true rfl)) dX12_ruleOf_18 ⟨Nat.le_of_ble_eq_true rfl, Nat.le_of_ble_eq_true rfl⟩)) (fun r_6 hw_5 => ?_)
    rcases hw_5 with ⟨rfl, hw_5⟩ | ⟨rfl, hw_5⟩
    · refine iz_eqz (tgt := 38) hx hb dX12_ruleOf_21 (by decide) (by unfold rg2; omega) (fun q9 => absurd q9 (by decide)) (fun _ => ?_)
      refine lv_aload_n hx hb dX12_ruleOf_24 rfl (lv_at hl 0 rfl) ?_
      refine iz_get (D := (dC, dI)) (ci := 12) (v := .ref (am 43)) (C := RX12) (T := TX12) (N := 49) hx hb hts hin hown hK hO rfl 43 (by decide) hL105 (fun _ h9 => h9) rfl dX12_ruleOf_25 ?_
      refine lv_bipush (v := kz 40) hx hb dX12_ruleOf_28 (by decide) ?_
      refine lv_iload_n hx hb dX12_ruleOf_30 rfl (lv_at hl 1 rfl) ?_
      refine iz_imul hx hb dX12_ruleOf_31 ?_
      refine lv_iload_n hx hb dX12_ruleOf_32 rfl (lv_at hl 2 rfl) ?_
      refine iz_iadd hx hb dX12_ruleOf_33 ?_
      obtain ⟨f43_7, c_f43_7, k_f43_7⟩ := iv_o20 hI g43
      refine iz_iald hx hb hK 0 c_f43_7 rfl (by omega) (by decide) dX12_ruleOf_34 ?_
      obtain ⟨v_8a, v_8b, v_8c⟩ := k_f43_7 ((40 * k) + i1) (by omega)
      clear v_8c
      obtain ⟨v_8, ev_8⟩ : ∃ z9 : Int, ge1 f43_7 ((40 * k) + i1) = z9 := ⟨_, rfl⟩
      rw [ev_8] at v_8a v_8b ⊢
      refine lv_goto (tgt := 39) hx hb dX12_ruleOf_35 (by decide) ?_
      exact W.iret (v := kz v_8) hx hb hr (fun t9 ht hW => ⟨kz v_8, rfl, trivial, ht⟩) (fun q h => absurd h List.not_mem_nil) dX12_ruleOf_39
    · refine iz_eqz (tgt := 38) hx hb dX12_ruleOf_21 (by decide) (by unfold rg2; omega) (fun _ => ?_) (fun q9 => absurd q9 (by decide))
      refine lv_iconst (v := kz (-1)) hx hb dX12_ruleOf_38 rfl ?_
      exact W.iret (v := kz (-1)) hx hb hr (fun t9 ht hW => ⟨kz (-1), rfl, trivial, ht⟩) (fun q h => absurd h List.not_mem_nil) dX12_ruleOf_39
  · refine iz_eqz (tgt := 38) hx hb dX12_ruleOf_5 (by decide) (by unfold rg2; omega) (fun _ => ?_) (fun q9 => absurd q9 (by decide))
    refine lv_iconst (v := kz (-1)) hx hb dX12_ruleOf_38 rfl ?_
    exact W.iret (v := kz (-1)) hx hb hr (fun t9 ht hW => ⟨kz (-1), rfl, trivial, ht⟩) (fun q h => absurd h List.not_mem_nil) dX12_ruleOf_39
set_option maxHeartbeats 4000000 in
set_option maxRecDepth 100000 in
/-- X12_times -/
theorem m_times (l : Launch) (a1 : Int64) (b1 : Int64) : Met l yX12_times wsX12_times ({ frames := 0, cells := 0, slots := 0, locals := 0 }) (va_Pc [.long a1, .long b1] (fun U => True)) (vp_Sl (fun r => True)) 0 0 (fun _ => False) := by
  refine Met.ofW (cc := cX12_times) (maxL := 4) (ret := (some .long)) (by decide) rfl ?_
  intro p e s m args below meth c s₁ B hml hv
  obtain ⟨rfl, -⟩ := hv
  have hx := B.exec
  have hb := B.bytes
  have hr := B.returns
  have hts := atoms_spec (ws := wsX12_times) B.pre
  have hown : s.vm.findClass RX12 = some m.cls := findClass_of_methodNamed B.named
  have hl := lv_entry ([.long a1, .long b1]) (n := 4) (Nat.le_of_ble_eq_true rfl)
  rw [lg_entry_eq]
  generalize (lg_sl ([.long a1, .long b1]) ++ List.replicate (4 - (lg_sl ([.long a1, .long b1])).length) Slot.unset).toArray = ls at hl ⊢
  have hl : lv_has ls 4 [(0, .long a1), (2, .long b1)] := hl
  refine lv_lload_n hx hb dX12_times_0 rfl (lv_at hl 0 rfl) ?_
  refine lv_lconst (v := 0) hx hb dX12_times_1 (by decide) ?_
  refine W.lcmp hx hb dX12_times_2 ?_
  refine iz_any (fun z_1 z_1a z_1b z_1e => ?_)
  refine iz_eqz (tgt := 12) hx hb dX12_times_3 (by decide) (by unfold rg2; omega) (fun br_2 => ?_) (fun br_2 => ?_)
  · refine lv_lconst (v := 0) hx hb dX12_times_12 (by decide) ?_
    exact W.lret (v := 0) hx hb hr (fun t9 ht hW => ⟨0, rfl, trivial, ht⟩) (fun q h => absurd h List.not_mem_nil) dX12_times_13
  · refine lv_lload_n hx hb dX12_times_6 rfl (lv_at hl 1 rfl) ?_
    refine lv_lconst (v := 0) hx hb dX12_times_7 (by decide) ?_
    refine W.lcmp hx hb dX12_times_8 ?_
    refine iz_any (fun z_3 z_3a z_3b z_3e => ?_)
    refine iz_nez (tgt := 14) hx hb dX12_times_9 (by decide) (by unfold rg2; omega) (fun br_4 => ?_) (fun br_4 => ?_)
    · refine lv_lload_n hx hb dX12_times_14 rfl (lv_at hl 0 rfl) ?_
      refine lv_ldc2 (own := RX12) (v := 1000000000000000) hx hb hown (hts (.constantLong RX12 199 (1000000000000000)) (by decide +kernel)) dX12_times_15 ?_
      refine lv_lload_n hx hb dX12_times_18 rfl (lv_at hl 1 rfl) ?_
      refine lv_ldiv hx hb dX12_times_19 (lc0 z_3e (by omega)) ?_
      refine lv_topl (fun y_5 ey_5 => ?_)
      refine W.lcmp hx hb dX12_times_20 ?_
      refine iz_any (fun z_6 z_6a z_6b z_6e => ?_)
      refine iz_lez (tgt := 30) hx hb dX12_times_21 (by decide) (by unfold rg2; omega) (fun br_7 => ?_) (fun br_7 => ?_)
      · refine lv_lload_n hx hb dX12_times_30 rfl (lv_at hl 0 rfl) ?_
        refine lv_lload_n hx hb dX12_times_31 rfl (lv_at hl 1 rfl) ?_
        refine lv_lmul hx hb dX12_times_32 ?_
        refine lv_topl (fun y_8 ey_8 => ?_)
        exact W.lret (v := y_8) hx hb hr (fun t9 ht hW => ⟨y_8, rfl, trivial, ht⟩) (fun q h => absurd h List.not_mem_nil) dX12_times_33
      · refine lv_ldc2 (own := RX12) (v := 1000000000000000) hx hb hown (hts (.constantLong RX12 199 (1000000000000000)) (by decide +kernel)) dX12_times_24 ?_
        refine lv_goto (tgt := 33) hx hb dX12_times_27 (by decide) ?_
        exact W.lret (v := 1000000000000000) hx hb hr (fun t9 ht hW => ⟨1000000000000000, rfl, trivial, ht⟩) (fun q h => absurd h List.not_mem_nil) dX12_times_33
    · refine lv_lconst (v := 0) hx hb dX12_times_12 (by decide) ?_
      exact W.lret (v := 0) hx hb hr (fun t9 ht hW => ⟨0, rfl, trivial, ht⟩) (fun q h => absurd h List.not_mem_nil) dX12_times_13
set_option maxHeartbeats 4000000 in
set_option maxRecDepth 100000 in
/-- X12_plus -/
theorem m_plus (l : Launch) (a1 : Int64) (b1 : Int64) : Met l yX12_plus wsX12_plus ({ frames := 0, cells := 0, slots := 0, locals := 0 }) (va_Pc [.long a1, .long b1] (fun U => True)) (vp_Sl (fun r => True)) 0 0 (fun _ => False) := by
  refine Met.ofW (cc := cX12_plus) (maxL := 4) (ret := (some .long)) (by decide) rfl ?_
  intro p e s m args below meth c s₁ B hml hv
  obtain ⟨rfl, -⟩ := hv
  have hx := B.exec
  have hb := B.bytes
  have hr := B.returns
  have hts := atoms_spec (ws := wsX12_plus) B.pre
  have hown : s.vm.findClass RX12 = some m.cls := findClass_of_methodNamed B.named
  have hl := lv_entry ([.long a1, .long b1]) (n := 4) (Nat.le_of_ble_eq_true rfl)
  rw [lg_entry_eq]
  generalize (lg_sl ([.long a1, .long b1]) ++ List.replicate (4 - (lg_sl ([.long a1, .long b1])).length) Slot.unset).toArray = ls at hl ⊢
  have hl : lv_has ls 4 [(0, .long a1), (2, .long b1)] := hl
  refine lv_lload_n hx hb dX12_plus_0 rfl (lv_at hl 0 rfl) ?_
  refine lv_lload_n hx hb dX12_plus_1 rfl (lv_at hl 1 rfl) ?_
  refine lv_ladd hx hb dX12_plus_2 ?_
  refine lv_topl (fun y_1 ey_1 => ?_)
  refine lv_ldc2 (own := RX12) (v := 1000000000000000) hx hb hown (hts (.constantLong RX12 199 (1000000000000000)) (by decide +kernel)) dX12_plus_3 ?_
  refine W.lcmp hx hb dX12_plus_6 ?_
  refine iz_any (fun z_2 z_2a z_2b z_2e => ?_)
  refine iz_lez (tgt := 16) hx hb dX12_plus_7 (by decide) (by unfold rg2; omega) (fun br_3 => ?_) (fun br_3 => ?_)
  · refine lv_lload_n hx hb dX12_plus_16 rfl (lv_at hl 0 rfl) ?_
    refine lv_lload_n hx hb dX12_plus_17 rfl (lv_at hl 1 rfl) ?_
    refine lv_ladd hx hb dX12_plus_18 ?_
    refine lv_topl (fun y_4 ey_4 => ?_)
    exact W.lret (v := y_4) hx hb hr (fun t9 ht hW => ⟨y_4, rfl, trivial, ht⟩) (fun q h => absurd h List.not_mem_nil) dX12_plus_19
  · refine lv_ldc2 (own := RX12) (v := 1000000000000000) hx hb hown (hts (.constantLong RX12 199 (1000000000000000)) (by decide +kernel)) dX12_plus_10 ?_
    refine lv_goto (tgt := 19) hx hb dX12_plus_13 (by decide) ?_
    exact W.lret (v := 1000000000000000) hx hb hr (fun t9 ht hW => ⟨1000000000000000, rfl, trivial, ht⟩) (fun q h => absurd h List.not_mem_nil) dX12_plus_19
set_option maxHeartbeats 4000000 in
set_option maxRecDepth 100000 in
/-- X12_trees -/
theorem m_trees (l : Launch) (dC : Nat → ClassId) (dI : Nat → Nat → Nat) (ca : Nat → ClassId) (A : Nat → Prop) (X : kGh) (o : Nat) (am : Nat → Nat) (zi : Nat → Int) (zl : Nat → Int64) (hM : mS X A o am) (hz : mZ X am zi) (k : Int) (to : Int) (kr : -2147483648 ≤ k ∧ k ≤ 2147483647) (tor : -2147483648 ≤ to ∧ to ≤ 2147483647) : Met l yX12_trees wsX12_trees ({ frames := 2, cells := 0, slots := 0, locals := 43 }) (va_Pc [.ref o, .int (kz k), .int (kz to)] (fun U => va_K (dC, dI) vwCl (k_tys ca) U ∧ mI (dC, dI) ca A X o am zi zl U.heap)) (va_Ql (fun (r : Int64) (u : (Nat → Int) × (Nat → Int64)) => mZ X am u.1 ∧ u.1 20 = zi 20) (fun u U => va_K (dC, dI) vwCl (k_tys ca) U ∧ mI (dC, dI) ca A X o am u.1 u.2 U.heap) A) 0 0 A := by
  refine Met.ofW (cc := cX12_trees) (maxL := 10) (ret := (some .long)) (by decide) rfl ?_
  intro p e s m args below meth c s₁ B hml hv
  obtain ⟨rfl, hK, hI, hO⟩ := hv
  have hx := B.exec
  have hb := B.bytes
  have hr := B.returns
  have hts := atoms_spec (ws := wsX12_trees) B.pre
  have hown : s.vm.findClass RX12 = some m.cls := findClass_of_methodNamed B.named
  have hin : ∀ w ∈ u_ws RX12 TX12 49, w ∈ wsX12_trees := by decide +kernel
  have hL99 := hts (.fieldLink RX12 99 "JoinBenchModel" "toldMany" "[I") (by decide +kernel)
  have hL111 := hts (.fieldLink RX12 111 "JoinBenchModel" "grown" "[J") (by decide +kernel)
  have hL20 := hts (.fieldLink RX12 20 "JoinBenchModel" "kind" "[I") (by decide +kernel)
  have hL102 := hts (.fieldLink RX12 102 "JoinBenchModel" "toldForm" "[I") (by decide +kernel)
  have hL57 := hts (.fieldLink RX12 57 "JoinBenchModel" "tree" "[I") (by decide +kernel)
  have g41 : X.1 (am 41) = (141, 20, 8, 0, 40) := hM.1 41 _ rfl (by decide)
  have g45 : X.1 (am 45) = (145, 23, 9600, 0, 0) := hM.1 45 _ rfl (by decide)
  have g5 : X.1 (am 5) = (105, 20, 40, 0, 5) := hM.1 5 _ rfl (by decide)
  have w5 : X.2 (am 5) = 0 := hM.2.2.2 5 _ rfl (by decide) (by decide) (by decide)
  have g42 : X.1 (am 42) = (142, 20, 320, 0, 39) := hM.1 42 _ rfl (by decide)
  have w42 : X.2 (am 42) = 0 := hM.2.2.2 42 _ rfl (by decide) (by decide) (by decide)
  have g18 : X.1 (am 18) = (118, 20, 36, -1, 5) := hM.1 18 _ rfl (by decide)
  have w18 : X.2 (am 18) = 0 := hM.2.2.2 18 _ rfl (by decide) (by decide) (by decide)
  obtain ⟨⟨z1a, z1b⟩, ⟨z2a, z2b⟩, ⟨z9a, z9b⟩, ⟨z20a, z20b⟩, ⟨z21a, z21b⟩, ⟨z22a, z22b⟩, ⟨z26a, z26b⟩, ⟨z28a, z28b⟩, ⟨z34a, z34b⟩, ⟨z35a, z35b⟩, ⟨z38a, z38b⟩, ⟨z39a, z39b⟩, ⟨z46a, z46b⟩, hzA, hzB⟩ := id hz
  obtain ⟨H, hH⟩ : ∃ H : Heap, H = s.heap := ⟨_, rfl⟩
  have hS : va_S A s.heap H [] := by rw [hH]; exact va_S.rf
  rw [← hH] at hI hO ⊢
  clear hH
  have hl := lv_entry ([.ref o, .int (kz k), .int (kz to)]) (n := 10) (Nat.le_of_ble_eq_true rfl)
  rw [lg_entry_eq]
  generalize (lg_sl ([.ref o, .int (kz k), .int (kz to)]) ++ List.replicate (10 - (lg_sl ([.ref o, .int (kz k), .int (kz to)])).length) Slot.unset).toArray = ls at hl ⊢
  have hl : lv_has ls 10 [(0, .ref o), (1, .int (kz k)), (2, .int (kz to))] := hl
  refine lv_aload_n hx hb dX12_trees_0 rfl (lv_at hl 0 rfl) ?_
  refine lv_iload_n hx hb dX12_trees_1 rfl (lv_at hl 1 rfl) ?_
  refine vp_callSi (va_Run.run (va_runV (As := [.int (kz k)]) (rest := []) ⟨hx, hb, hml, hown, hts⟩ (m_isTold l dC dI ca A X o am zi zl hM hz k (by omega)) (cwV 1 hts gX12_trees_X12_isTold rfl rfl rfl (by decide +kernel) ⟨Nat.le_of_ble_eq_true rfl, Nat.le_of_ble_eq_true rfl⟩) ⟨fun a U g mk q => by obtain ⟨q0, qK, qI⟩ := q; exact ⟨q0, va_K.moved (u := U) (U := U.calling g mk a) (Vm.Alike.refl U.vm) qK, qI⟩, va_recv hK (at_P hO) (ci := 12) (q0 := 0) rfl rfl, fun U hU hW => ⟨rfl, va_K.moved hW.alike hK, by rw [hU]; exact ⟨hI, hO⟩⟩⟩ rfl rfl hl.1 rfl (lv_room (Nat.le_of_ble_eq_true rfl)) dX12_trees_2 ⟨Nat.le_of_ble_eq_true rfl, Nat.le_of_ble_eq_true rfl⟩)) (fun r_2 hw_1 => ?_)
  rcases hw_1 with ⟨rfl, hw_1a, hw_1b⟩ | rfl
  · refine iz_eqz (tgt := 15) hx hb dX12_trees_5 (by decide) (by unfold rg2; omega) (fun q9 => absurd q9 (by decide)) (fun _ => ?_)
    refine lv_iload_n hx hb dX12_trees_8 rfl (lv_at hl 2 rfl) ?_
    refine vp_callSi (va_Run.run (va_runS (As := [.int (kz to)]) (rest := []) ⟨hx, hb, hml, hown, hts⟩ (m_isKind l to (by omega)) (va_cwS 1 hts gX12_trees_X12_isKind rfl rfl rfl (by decide +kernel) ⟨Nat.le_of_ble_eq_true rfl, Nat.le_of_ble_eq_true rfl⟩) ⟨fun a U g mk q => q, fun U hU hW => ⟨rfl, trivial⟩⟩ rfl rfl hl.1 rfl (lv_room (Nat.le_of_ble_eq_true rfl)) dX12_trees_9 ⟨Nat.le_of_ble_eq_true rfl, Nat.le_of_ble_eq_true rfl⟩)) (fun r_4 hw_3 => ?_)
    rcases hw_3 with ⟨rfl, hw_3⟩ | ⟨rfl, hw_3⟩
    · refine iz_nez (tgt := 19) hx hb dX12_trees_12 (by decide) (by unfold rg2; omega) (fun _ => ?_) (fun q9 => absurd q9 (by decide))
      refine lv_iconst (v := kz 1) hx hb dX12_trees_19 rfl ?_
      refine lv_istore_n (lv' := [(3, .int (kz 1)), (0, .ref o), (1, .int (kz k)), (2, .int (kz to))]) hx hb dX12_trees_20 rfl hl (by decide) rfl (fun ls hl => ?_)
      refine iz_loop1 (P := fun N9 n1 H locs ls => 1 ≤ n1 ∧ n1 ≤ 41 ∧ 41 - n1 ≤ (N9 : Int) ∧ lv_has ls 10 [(3, .int (kz n1)), (0, .ref o), (1, .int (kz k)), (2, .int (kz to))] ∧ iv (dC, dI) ca A X H ∧ va_at (dC, dI) vwCl (o, .inr (12, mM am zi zl)) H ∧ va_S A s.heap H locs) 100000 (x0 := 1) ?_ ⟨by omega, by omega, by omega, lv_sub hl [0, 1, 2, 3] rfl, hI, hO, hS⟩
      intro n_5 n1 H locs ls ⟨n_5f0, n_5f1, n_5f2, hl, hI, hO, hS⟩ ihn_5
      refine lv_iload_n hx hb dX12_trees_21 rfl (lv_at hl 0 rfl) ?_
      refine lv_aload_n hx hb dX12_trees_22 rfl (lv_at hl 1 rfl) ?_
      refine iz_get (D := (dC, dI)) (ci := 12) (v := .ref (am 41)) (C := RX12) (T := TX12) (N := 49) hx hb hts hin hown hK hO rfl 41 (by decide) hL99 (fun _ h9 => h9) rfl dX12_trees_23 ?_
      refine lv_iload_n hx hb dX12_trees_26 rfl (lv_at hl 2 rfl) ?_
      obtain ⟨f41_6, c_f41_6, k_f41_6⟩ := iv_o20 hI g41
      refine iz_iald hx hb hK 0 c_f41_6 rfl (by omega) (by decide) dX12_trees_27 ?_
      obtain ⟨v_7a, v_7b, v_7c⟩ := k_f41_6 k (by omega)
      obtain ⟨v_7, ev_7⟩ : ∃ z9 : Int, ge1 f41_6 k = z9 := ⟨_, rfl⟩
      rw [ev_7] at v_7a v_7b v_7c ⊢
      refine iz_gt (tgt := 274) hx hb dX12_trees_28 (by decide) (by unfold rg2; omega) (fun br_8 => ?_) (fun br_8 => ?_)
      · refine lv_aload_n hx hb dX12_trees_274 rfl (lv_at hl 1 rfl) ?_
        refine iz_get (D := (dC, dI)) (ci := 12) (v := .ref (am 45)) (C := RX12) (T := TX12) (N := 49) hx hb hts hin hown hK hO rfl 45 (by decide) hL111 (fun _ h9 => h9) rfl dX12_trees_275 ?_
        refine lv_aload_n hx hb dX12_trees_278 rfl (lv_at hl 1 rfl) ?_
        refine iz_get (D := (dC, dI)) (ci := 12) (v := .ref (am 41)) (C := RX12) (T := TX12) (N := 49) hx hb hts hin hown hK hO rfl 41 (by decide) hL99 (fun _ h9 => h9) rfl dX12_trees_279 ?_
        refine lv_iload_n hx hb dX12_trees_282 rfl (lv_at hl 2 rfl) ?_
        refine iz_iald hx hb hK 0 c_f41_6 rfl (by omega) (by decide) dX12_trees_283 ?_
        rw [ev_7]
        refine lv_iconst (v := kz 1) hx hb dX12_trees_284 rfl ?_
        refine iz_isub hx hb dX12_trees_285 ?_
        refine lv_bipush (v := kz 6) hx hb dX12_trees_286 (by decide) ?_
        refine iz_imul hx hb dX12_trees_288 ?_
        refine lv_iload_n hx hb dX12_trees_289 rfl (lv_at hl 3 rfl) ?_
        refine iz_iadd hx hb dX12_trees_290 ?_
        obtain ⟨f45_9, c_f45_9⟩ := iv_o23 hI g45
        refine iz_lald hx hb hK 3 c_f45_9 rfl (by omega) (by decide) dX12_trees_291 ?_
        refine lv_topl (fun y_10 ey_10 => ?_)
        exact W.lret (v := y_10) hx hb hr (fun t9 ht hW => ⟨⟨y_10, (zi, zl), rfl, ⟨hz, rfl⟩, va_K.moved hW.alike hK, by rw [ht]; exact ⟨hI, hO⟩⟩, hS.F ht⟩) hS.2.2 dX12_trees_292
      · refine lv_iconst (v := kz 0) hx hb dX12_trees_31 rfl ?_
        refine lv_istore (lv' := [(4, .int (kz 0)), (3, .int (kz n1)), (0, .ref o), (1, .int (kz k)), (2, .int (kz to))]) hx hb dX12_trees_32 hl (by decide) rfl (fun ls hl => ?_)
        refine iz_loop1 (P := fun N9 i1 H locs ls => 0 ≤ i1 ∧ i1 ≤ 40 ∧ 40 - i1 ≤ (N9 : Int) ∧ lv_has ls 10 [(4, .int (kz i1)), (3, .int (kz n1)), (0, .ref o), (1, .int (kz k)), (2, .int (kz to))] ∧ iv (dC, dI) ca A X H ∧ va_at (dC, dI) vwCl (o, .inr (12, mM am zi zl)) H ∧ va_S A s.heap H locs) 100000 (x0 := 0) ?_ ⟨by omega, by omega, by omega, lv_sub hl [0, 1, 2, 3, 4] rfl, hI, hO, hS⟩
        intro n_11 i1 H locs ls ⟨n_11f0, n_11f1, n_11f2, hl, hI, hO, hS⟩ ihn_11
        refine lv_iload hx hb dX12_trees_34 (lv_at hl 0 rfl) ?_
        refine lv_iload_n hx hb dX12_trees_36 rfl (lv_at hl 1 rfl) ?_
        refine iz_iadd hx hb dX12_trees_37 ?_
        refine lv_aload_n hx hb dX12_trees_38 rfl (lv_at hl 2 rfl) ?_
        refine iz_get (D := (dC, dI)) (ci := 12) (v := .ref (am 41)) (C := RX12) (T := TX12) (N := 49) hx hb hts hin hown hK hO rfl 41 (by decide) hL99 (fun _ h9 => h9) rfl dX12_trees_39 ?_
        refine lv_iload_n hx hb dX12_trees_42 rfl (lv_at hl 3 rfl) ?_
        obtain ⟨f41_12, c_f41_12, k_f41_12⟩ := iv_o20 hI g41
        refine iz_iald hx hb hK 0 c_f41_12 rfl (by omega) (by decide) dX12_trees_43 ?_
        obtain ⟨v_13a, v_13b, v_13c⟩ := k_f41_12 k (by omega)
        obtain ⟨v_13, ev_13⟩ : ∃ z9 : Int, ge1 f41_12 k = z9 := ⟨_, rfl⟩
        rw [ev_13] at v_13a v_13b v_13c ⊢
        refine iz_gt (tgt := 268) hx hb dX12_trees_44 (by decide) (by unfold rg2; omega) (fun br_14 => ?_) (fun br_14 => ?_)
        · refine lv_iinc (v := kz (n1 + 1)) (lv' := [(3, .int (kz (n1 + 1))), (4, .int (kz i1)), (0, .ref o), (1, .int (kz k)), (2, .int (kz to))]) hx hb dX12_trees_268 hl (k := 1) rfl (kz_add n1 1) (by decide) rfl (fun ls hl => ?_)
          refine lv_goto (tgt := 21) hx hb dX12_trees_271 (by decide) ?_
          exact ihn_5 (n_5 - 1) (by omega) (n1 + 1) _ _ _ ⟨by omega, by omega, by omega, lv_sub hl [0, 2, 3, 4] rfl, hI, hO, hS⟩
        · refine lv_bipush (v := kz 40) hx hb dX12_trees_47 (by decide) ?_
          refine lv_iload hx hb dX12_trees_49 (lv_at hl 0 rfl) ?_
          refine iz_imul hx hb dX12_trees_51 ?_
          refine lv_iload_n hx hb dX12_trees_52 rfl (lv_at hl 1 rfl) ?_
          refine iz_iadd hx hb dX12_trees_53 ?_
          refine lv_iconst (v := kz 1) hx hb dX12_trees_54 rfl ?_
          refine iz_isub hx hb dX12_trees_55 ?_
          refine lv_bipush (v := kz 6) hx hb dX12_trees_56 (by decide) ?_
          refine iz_imul hx hb dX12_trees_58 ?_
          obtain ⟨z_15, ez_15⟩ : ∃ z9 : Int, z9 = ((((40 * i1) + n1) - 1) * 6) := ⟨_, rfl⟩
          rw [← ez_15]
          refine lv_istore (lv' := [(5, .int (kz z_15)), (4, .int (kz i1)), (3, .int (kz n1)), (0, .ref o), (1, .int (kz k)), (2, .int (kz to))]) hx hb dX12_trees_59 hl (by decide) rfl (fun ls hl => ?_)
          refine lv_iconst (v := kz 0) hx hb dX12_trees_61 rfl ?_
          refine lv_istore (lv' := [(6, .int (kz 0)), (5, .int (kz z_15)), (4, .int (kz i1)), (3, .int (kz n1)), (0, .ref o), (1, .int (kz k)), (2, .int (kz to))]) hx hb dX12_trees_62 hl (by decide) rfl (fun ls hl => ?_)
          refine iz_loop1 (P := fun N9 c1 H locs ls => 0 ≤ c1 ∧ c1 ≤ 6 ∧ 6 - c1 ≤ (N9 : Int) ∧ lv_has ls 10 [(6, .int (kz c1)), (5, .int (kz z_15)), (4, .int (kz i1)), (3, .int (kz n1)), (0, .ref o), (1, .int (kz k)), (2, .int (kz to))] ∧ iv (dC, dI) ca A X H ∧ va_at (dC, dI) vwCl (o, .inr (12, mM am zi zl)) H ∧ va_S A s.heap H locs) 100000 (x0 := 0) ?_ ⟨by omega, by omega, by omega, lv_sub hl [0, 1, 2, 3, 4, 5, 6] rfl, hI, hO, hS⟩
          intro n_16 c1 H locs ls ⟨n_16f0, n_16f1, n_16f2, hl, hI, hO, hS⟩ ihn_16
          refine lv_iload hx hb dX12_trees_64 (lv_at hl 0 rfl) ?_
          refine lv_bipush (v := kz 6) hx hb dX12_trees_66 (by decide) ?_
          refine iz_ge (tgt := 119) hx hb dX12_trees_68 (by decide) (by unfold rg2; omega) (fun br_17 => ?_) (fun br_17 => ?_)
          · refine lv_iconst (v := kz 1) hx hb dX12_trees_119 rfl ?_
            refine lv_istore (lv' := [(6, .int (kz 1)), (5, .int (kz z_15)), (4, .int (kz i1)), (3, .int (kz n1)), (0, .ref o), (1, .int (kz k)), (2, .int (kz to))]) hx hb dX12_trees_120 hl (by decide) rfl (fun ls hl => ?_)
            refine iz_loop1 (P := fun N9 m1 H locs ls => 1 ≤ m1 ∧ m1 ≤ 41 ∧ 41 - m1 ≤ (N9 : Int) ∧ lv_has ls 10 [(6, .int (kz m1)), (5, .int (kz z_15)), (4, .int (kz i1)), (3, .int (kz n1)), (0, .ref o), (1, .int (kz k)), (2, .int (kz to))] ∧ iv (dC, dI) ca A X H ∧ va_at (dC, dI) vwCl (o, .inr (12, mM am zi zl)) H ∧ va_S A s.heap H locs) 100000 (x0 := 1) ?_ ⟨by omega, by omega, by omega, lv_sub hl [0, 1, 2, 3, 4, 5, 6] rfl, hI, hO, hS⟩
            intro n_18 m1 H locs ls ⟨n_18f0, n_18f1, n_18f2, hl, hI, hO, hS⟩ ihn_18
            refine lv_iload hx hb dX12_trees_122 (lv_at hl 0 rfl) ?_
            refine lv_iload_n hx hb dX12_trees_124 rfl (lv_at hl 3 rfl) ?_
            refine iz_ge (tgt := 262) hx hb dX12_trees_125 (by decide) (by unfold rg2; omega) (fun br_19 => ?_) (fun br_19 => ?_)
            · refine lv_iinc (v := kz (i1 + 1)) (lv' := [(4, .int (kz (i1 + 1))), (6, .int (kz m1)), (5, .int (kz z_15)), (3, .int (kz n1)), (0, .ref o), (1, .int (kz k)), (2, .int (kz to))]) hx hb dX12_trees_262 hl (k := 2) rfl (kz_add i1 1) (by decide) rfl (fun ls hl => ?_)
              refine lv_goto (tgt := 34) hx hb dX12_trees_265 (by decide) ?_
              exact ihn_11 (n_11 - 1) (by omega) (i1 + 1) _ _ _ ⟨by omega, by omega, by omega, lv_sub hl [0, 3, 4, 5, 6] rfl, hI, hO, hS⟩
            · refine lv_iconst (v := kz 0) hx hb dX12_trees_128 rfl ?_
              refine lv_istore (lv' := [(7, .int (kz 0)), (6, .int (kz m1)), (5, .int (kz z_15)), (4, .int (kz i1)), (3, .int (kz n1)), (0, .ref o), (1, .int (kz k)), (2, .int (kz to))]) hx hb dX12_trees_129 hl (by decide) rfl (fun ls hl => ?_)
              refine iz_loop1 (P := fun N9 a1 H locs ls => 0 ≤ a1 ∧ a1 ≤ 6 ∧ 6 - a1 ≤ (N9 : Int) ∧ lv_has ls 10 [(7, .int (kz a1)), (6, .int (kz m1)), (5, .int (kz z_15)), (4, .int (kz i1)), (3, .int (kz n1)), (0, .ref o), (1, .int (kz k)), (2, .int (kz to))] ∧ iv (dC, dI) ca A X H ∧ va_at (dC, dI) vwCl (o, .inr (12, mM am zi zl)) H ∧ va_S A s.heap H locs) 100000 (x0 := 0) ?_ ⟨by omega, by omega, by omega, lv_sub hl [0, 1, 2, 3, 4, 5, 6, 7] rfl, hI, hO, hS⟩
              intro n_20 a1 H locs ls ⟨n_20f0, n_20f1, n_20f2, hl, hI, hO, hS⟩ ihn_20
              refine lv_iload hx hb dX12_trees_131 (lv_at hl 0 rfl) ?_
              refine lv_bipush (v := kz 6) hx hb dX12_trees_133 (by decide) ?_
              refine iz_ge (tgt := 256) hx hb dX12_trees_135 (by decide) (by unfold rg2; omega) (fun br_21 => ?_) (fun br_21 => ?_)
              · refine lv_iinc (v := kz (m1 + 1)) (lv' := [(6, .int (kz (m1 + 1))), (7, .int (kz a1)), (5, .int (kz z_15)), (4, .int (kz i1)), (3, .int (kz n1)), (0, .ref o), (1, .int (kz k)), (2, .int (kz to))]) hx hb dX12_trees_256 hl (k := 1) rfl (kz_add m1 1) (by decide) rfl (fun ls hl => ?_)
                refine lv_goto (tgt := 122) hx hb dX12_trees_259 (by decide) ?_
                exact ihn_18 (n_18 - 1) (by omega) (m1 + 1) _ _ _ ⟨by omega, by omega, by omega, lv_sub hl [0, 2, 3, 4, 5, 6, 7] rfl, hI, hO, hS⟩
              · refine lv_iconst (v := kz 0) hx hb dX12_trees_138 rfl ?_
                refine lv_istore (lv' := [(8, .int (kz 0)), (7, .int (kz a1)), (6, .int (kz m1)), (5, .int (kz z_15)), (4, .int (kz i1)), (3, .int (kz n1)), (0, .ref o), (1, .int (kz k)), (2, .int (kz to))]) hx hb dX12_trees_139 hl (by decide) rfl (fun ls hl => ?_)
                refine iz_loop1 (P := fun N9 b1 H locs ls => 0 ≤ b1 ∧ b1 ≤ 6 ∧ 6 - b1 ≤ (N9 : Int) ∧ lv_has ls 10 [(8, .int (kz b1)), (7, .int (kz a1)), (6, .int (kz m1)), (5, .int (kz z_15)), (4, .int (kz i1)), (3, .int (kz n1)), (0, .ref o), (1, .int (kz k)), (2, .int (kz to))] ∧ iv (dC, dI) ca A X H ∧ va_at (dC, dI) vwCl (o, .inr (12, mM am zi zl)) H ∧ va_S A s.heap H locs) 100000 (x0 := 0) ?_ ⟨by omega, by omega, by omega, lv_sub hl [0, 1, 2, 3, 4, 5, 6, 7, 8] rfl, hI, hO, hS⟩
                intro n_22 b1 H locs ls ⟨n_22f0, n_22f1, n_22f2, hl, hI, hO, hS⟩ ihn_22
                refine lv_iload hx hb dX12_trees_141 (lv_at hl 0 rfl) ?_
                refine lv_bipush (v := kz 6) hx hb dX12_trees_143 (by decide) ?_
                refine iz_ge (tgt := 250) hx hb dX12_trees_145 (by decide) (by unfold rg2; omega) (fun br_23 => ?_) (fun br_23 => ?_)
                · refine lv_iinc (v := kz (a1 + 1)) (lv' := [(7, .int (kz (a1 + 1))), (8, .int (kz b1)), (6, .int (kz m1)), (5, .int (kz z_15)), (4, .int (kz i1)), (3, .int (kz n1)), (0, .ref o), (1, .int (kz k)), (2, .int (kz to))]) hx hb dX12_trees_250 hl (k := 1) rfl (kz_add a1 1) (by decide) rfl (fun ls hl => ?_)
                  refine lv_goto (tgt := 131) hx hb dX12_trees_253 (by decide) ?_
                  exact ihn_20 (n_20 - 1) (by omega) (a1 + 1) _ _ _ ⟨by omega, by omega, by omega, lv_sub hl [0, 2, 3, 4, 5, 6, 7, 8] rfl, hI, hO, hS⟩
                · refine lv_aload_n hx hb dX12_trees_148 rfl (lv_at hl 6 rfl) ?_
                  refine iz_get (D := (dC, dI)) (ci := 12) (v := .ref (am 18)) (C := RX12) (T := TX12) (N := 49) hx hb hts hin hown hK hO rfl 18 (by decide) hL57 (fun _ h9 => h9) rfl dX12_trees_149 ?_
                  refine lv_bipush (v := kz 6) hx hb dX12_trees_152 (by decide) ?_
                  refine lv_iload hx hb dX12_trees_154 (lv_at hl 1 rfl) ?_
                  refine iz_imul hx hb dX12_trees_156 ?_
                  refine lv_iload hx hb dX12_trees_157 (lv_at hl 0 rfl) ?_
                  refine iz_iadd hx hb dX12_trees_159 ?_
                  obtain ⟨f18_24, c_f18_24, k_f18_24⟩ := iv_o20 hI g18
                  refine iz_iald hx hb hK 0 c_f18_24 rfl (by omega) (by decide) dX12_trees_160 ?_
                  obtain ⟨v_25a, v_25b, v_25c⟩ := k_f18_24 ((6 * a1) + b1) (by omega)
                  clear v_25c
                  obtain ⟨v_25, ev_25⟩ : ∃ z9 : Int, ge1 f18_24 ((6 * a1) + b1) = z9 := ⟨_, rfl⟩
                  rw [ev_25] at v_25a v_25b ⊢
                  refine lv_istore (lv' := [(9, .int (kz v_25)), (8, .int (kz b1)), (7, .int (kz a1)), (6, .int (kz m1)), (5, .int (kz z_15)), (4, .int (kz i1)), (3, .int (kz n1)), (0, .ref o), (1, .int (kz k)), (2, .int (kz to))]) hx hb dX12_trees_161 hl (by decide) rfl (fun ls hl => ?_)
                  refine lv_iload hx hb dX12_trees_163 (lv_at hl 0 rfl) ?_
                  refine iz_gez (tgt := 171) hx hb dX12_trees_165 (by decide) (by unfold rg2; omega) (fun br_26 => ?_) (fun br_26 => ?_)
                  · refine lv_aload_n hx hb dX12_trees_171 rfl (lv_at hl 7 rfl) ?_
                    refine iz_get (D := (dC, dI)) (ci := 12) (v := .ref (am 45)) (C := RX12) (T := TX12) (N := 49) hx hb hts hin hown hK hO rfl 45 (by decide) hL111 (fun _ h9 => h9) rfl dX12_trees_172 ?_
                    refine lv_iload hx hb dX12_trees_175 (lv_at hl 4 rfl) ?_
                    refine lv_iload hx hb dX12_trees_177 (lv_at hl 0 rfl) ?_
                    refine iz_iadd hx hb dX12_trees_179 ?_
                    refine lv_aload_n hx hb dX12_trees_180 rfl (lv_at hl 7 rfl) ?_
                    refine iz_get (D := (dC, dI)) (ci := 12) (v := .ref (am 45)) (C := RX12) (T := TX12) (N := 49) hx hb hts hin hown hK hO rfl 45 (by decide) hL111 (fun _ h9 => h9) rfl dX12_trees_181 ?_
                    refine lv_iload hx hb dX12_trees_184 (lv_at hl 4 rfl) ?_
                    refine lv_iload hx hb dX12_trees_186 (lv_at hl 0 rfl) ?_
                    refine iz_iadd hx hb dX12_trees_188 ?_
                    obtain ⟨f45_27, c_f45_27⟩ := iv_o23 hI g45
                    refine iz_lald hx hb hK 3 c_f45_27 rfl (by omega) (by decide) dX12_trees_189 ?_
                    refine lv_topl (fun y_28 ey_28 => ?_)
                    refine lv_aload_n hx hb dX12_trees_190 rfl (lv_at hl 7 rfl) ?_
                    refine iz_get (D := (dC, dI)) (ci := 12) (v := .ref (am 45)) (C := RX12) (T := TX12) (N := 49) hx hb hts hin hown hK hO rfl 45 (by decide) hL111 (fun _ h9 => h9) rfl dX12_trees_191 ?_
                    refine lv_bipush (v := kz 40) hx hb dX12_trees_194 (by decide) ?_
                    refine lv_iload hx hb dX12_trees_196 (lv_at hl 5 rfl) ?_
                    refine iz_imul hx hb dX12_trees_198 ?_
                    refine lv_iload hx hb dX12_trees_199 (lv_at hl 3 rfl) ?_
                    refine iz_iadd hx hb dX12_trees_201 ?_
                    refine lv_iconst (v := kz 1) hx hb dX12_trees_202 rfl ?_
                    refine iz_isub hx hb dX12_trees_203 ?_
                    refine lv_bipush (v := kz 6) hx hb dX12_trees_204 (by decide) ?_
                    refine iz_imul hx hb dX12_trees_206 ?_
                    refine lv_iload hx hb dX12_trees_207 (lv_at hl 2 rfl) ?_
                    refine iz_iadd hx hb dX12_trees_209 ?_
                    refine iz_lald hx hb hK 3 c_f45_27 rfl (by omega) (by decide) dX12_trees_210 ?_
                    refine lv_topl (fun y_29 ey_29 => ?_)
                    refine lv_aload_n hx hb dX12_trees_211 rfl (lv_at hl 7 rfl) ?_
                    refine iz_get (D := (dC, dI)) (ci := 12) (v := .ref (am 45)) (C := RX12) (T := TX12) (N := 49) hx hb hts hin hown hK hO rfl 45 (by decide) hL111 (fun _ h9 => h9) rfl dX12_trees_212 ?_
                    refine lv_bipush (v := kz 40) hx hb dX12_trees_215 (by decide) ?_
                    refine lv_iload hx hb dX12_trees_217 (lv_at hl 5 rfl) ?_
                    refine lv_iload hx hb dX12_trees_219 (lv_at hl 3 rfl) ?_
                    refine iz_iadd hx hb dX12_trees_221 ?_
                    refine iz_imul hx hb dX12_trees_222 ?_
                    refine lv_iload_n hx hb dX12_trees_223 rfl (lv_at hl 6 rfl) ?_
                    refine iz_iadd hx hb dX12_trees_224 ?_
                    refine lv_iload hx hb dX12_trees_225 (lv_at hl 3 rfl) ?_
                    refine iz_isub hx hb dX12_trees_227 ?_
                    refine lv_iconst (v := kz 1) hx hb dX12_trees_228 rfl ?_
                    refine iz_isub hx hb dX12_trees_229 ?_
                    refine lv_bipush (v := kz 6) hx hb dX12_trees_230 (by decide) ?_
                    refine iz_imul hx hb dX12_trees_232 ?_
                    refine lv_iload hx hb dX12_trees_233 (lv_at hl 1 rfl) ?_
                    refine iz_iadd hx hb dX12_trees_235 ?_
                    refine iz_lald hx hb hK 3 c_f45_27 rfl (by omega) (by decide) dX12_trees_236 ?_
                    refine lv_topl (fun y_30 ey_30 => ?_)
                    refine vp_callSl (va_Run.run (va_runS (As := [.long y_29, .long y_30]) (rest := [.long y_28, .int (kz (z_15 + v_25)), .ref (am 45)]) ⟨hx, hb, hml, hown, hts⟩ (m_times l y_29 y_30) (va_cwS 2 hts gX12_trees_X12_times rfl rfl rfl (by decide +kernel) ⟨Nat.le_of_ble_eq_true rfl, Nat.le_of_ble_eq_true rfl⟩) ⟨fun a U g mk q => q, fun U hU hW => ⟨rfl, trivial⟩⟩ rfl rfl hl.1 rfl (lv_room (Nat.le_of_ble_eq_true rfl)) dX12_trees_237 ⟨Nat.le_of_ble_eq_true rfl, Nat.le_of_ble_eq_true rfl⟩)) (fun r_32 hw_31 => ?_)
                    refine vp_callSl (va_Run.run (va_runS (As := [.long y_28, .long r_32]) (rest := [.int (kz (z_15 + v_25)), .ref (am 45)]) ⟨hx, hb, hml, hown, hts⟩ (m_plus l y_28 r_32) (va_cwS 2 hts gX12_trees_X12_plus rfl rfl rfl (by decide +kernel) ⟨Nat.le_of_ble_eq_true rfl, Nat.le_of_ble_eq_true rfl⟩) ⟨fun a U g mk q => q, fun U hU hW => ⟨rfl, trivial⟩⟩ rfl rfl hl.1 rfl (lv_room (Nat.le_of_ble_eq_true rfl)) dX12_trees_240 ⟨Nat.le_of_ble_eq_true rfl, Nat.le_of_ble_eq_true rfl⟩)) (fun r_34 hw_33 => ?_)
                    refine iz_last hx hb hK 3 c_f45_27 hS (iv_A hI g45 (by decide)) rfl (by omega) (by decide) dX12_trees_243 (fun H locs c9 oq hS => ?_)
                    have hI := iv_s23 hI g45 c9 oq
                    have hO := hO.kept (oq _ (iv_ne0 g45 hM.2.1 (by decide)).symm)
                    have c_f18_24 := c_f18_24.kept (oq _ (iv_ne g18 g45 (by decide)))
                    clear oq c9
                    refine lv_iinc (v := kz (b1 + 1)) (lv' := [(8, .int (kz (b1 + 1))), (9, .int (kz v_25)), (7, .int (kz a1)), (6, .int (kz m1)), (5, .int (kz z_15)), (4, .int (kz i1)), (3, .int (kz n1)), (0, .ref o), (1, .int (kz k)), (2, .int (kz to))]) hx hb dX12_trees_244 hl (k := 1) rfl (kz_add b1 1) (by decide) rfl (fun ls hl => ?_)
                    refine lv_goto (tgt := 141) hx hb dX12_trees_247 (by decide) ?_
                    exact ihn_22 (n_22 - 1) (by omega) (b1 + 1) _ _ _ ⟨by omega, by omega, by omega, lv_sub hl [0, 2, 3, 4, 5, 6, 7, 8, 9] rfl, hI, hO, hS⟩
                  · refine lv_goto (tgt := 244) hx hb dX12_trees_168 (by decide) ?_
                    refine lv_iinc (v := kz (b1 + 1)) (lv' := [(8, .int (kz (b1 + 1))), (9, .int (kz v_25)), (7, .int (kz a1)), (6, .int (kz m1)), (5, .int (kz z_15)), (4, .int (kz i1)), (3, .int (kz n1)), (0, .ref o), (1, .int (kz k)), (2, .int (kz to))]) hx hb dX12_trees_244 hl (k := 1) rfl (kz_add b1 1) (by decide) rfl (fun ls hl => ?_)
                    refine lv_goto (tgt := 141) hx hb dX12_trees_247 (by decide) ?_
                    exact ihn_22 (n_22 - 1) (by omega) (b1 + 1) _ _ _ ⟨by omega, by omega, by omega, lv_sub hl [0, 2, 3, 4, 5, 6, 7, 8, 9] rfl, hI, hO, hS⟩
          · refine lv_aload_n hx hb dX12_trees_71 rfl (lv_at hl 4 rfl) ?_
            refine iz_get (D := (dC, dI)) (ci := 12) (v := .ref (am 45)) (C := RX12) (T := TX12) (N := 49) hx hb hts hin hown hK hO rfl 45 (by decide) hL111 (fun _ h9 => h9) rfl dX12_trees_72 ?_
            refine lv_iload hx hb dX12_trees_75 (lv_at hl 1 rfl) ?_
            refine lv_iload hx hb dX12_trees_77 (lv_at hl 0 rfl) ?_
            refine iz_iadd hx hb dX12_trees_79 ?_
            refine lv_iload_n hx hb dX12_trees_80 rfl (lv_at hl 3 rfl) ?_
            refine lv_iconst (v := kz 1) hx hb dX12_trees_81 rfl ?_
            refine iz_ne (tgt := 111) hx hb dX12_trees_82 (by decide) (by unfold rg2; omega) (fun br_35 => ?_) (fun br_35 => ?_)
            · refine lv_lconst (v := 0) hx hb dX12_trees_111 (by decide) ?_
              obtain ⟨f45_36, c_f45_36⟩ := iv_o23 hI g45
              refine iz_last hx hb hK 3 c_f45_36 hS (iv_A hI g45 (by decide)) rfl (by omega) (by decide) dX12_trees_112 (fun H locs c9 oq hS => ?_)
              have hI := iv_s23 hI g45 c9 oq
              have hO := hO.kept (oq _ (iv_ne0 g45 hM.2.1 (by decide)).symm)
              clear oq c9
              refine lv_iinc (v := kz (c1 + 1)) (lv' := [(6, .int (kz (c1 + 1))), (5, .int (kz z_15)), (4, .int (kz i1)), (3, .int (kz n1)), (0, .ref o), (1, .int (kz k)), (2, .int (kz to))]) hx hb dX12_trees_113 hl (k := 0) rfl (kz_add c1 1) (by decide) rfl (fun ls hl => ?_)
              refine lv_goto (tgt := 64) hx hb dX12_trees_116 (by decide) ?_
              exact ihn_16 (n_16 - 1) (by omega) (c1 + 1) _ _ _ ⟨by omega, by omega, by omega, lv_sub hl [0, 1, 2, 3, 4, 5, 6] rfl, hI, hO, hS⟩
            · refine lv_aload_n hx hb dX12_trees_85 rfl (lv_at hl 4 rfl) ?_
              refine iz_get (D := (dC, dI)) (ci := 12) (v := .ref (am 5)) (C := RX12) (T := TX12) (N := 49) hx hb hts hin hown hK hO rfl 5 (by decide) hL20 (fun _ h9 => h9) rfl dX12_trees_86 ?_
              refine lv_aload_n hx hb dX12_trees_89 rfl (lv_at hl 4 rfl) ?_
              refine iz_get (D := (dC, dI)) (ci := 12) (v := .ref (am 42)) (C := RX12) (T := TX12) (N := 49) hx hb hts hin hown hK hO rfl 42 (by decide) hL102 (fun _ h9 => h9) rfl dX12_trees_90 ?_
              refine lv_bipush (v := kz 40) hx hb dX12_trees_93 (by decide) ?_
              refine lv_iload_n hx hb dX12_trees_95 rfl (lv_at hl 5 rfl) ?_
              refine iz_imul hx hb dX12_trees_96 ?_
              refine lv_iload hx hb dX12_trees_97 (lv_at hl 2 rfl) ?_
              refine iz_iadd hx hb dX12_trees_99 ?_
              obtain ⟨f42_37, c_f42_37, k_f42_37⟩ := iv_o20 hI g42
              refine iz_iald hx hb hK 0 c_f42_37 rfl (by omega) (by decide) dX12_trees_100 ?_
              obtain ⟨v_38a, v_38b, v_38c⟩ := k_f42_37 ((40 * k) + i1) (by omega)
              clear v_38c
              obtain ⟨v_38, ev_38⟩ : ∃ z9 : Int, ge1 f42_37 ((40 * k) + i1) = z9 := ⟨_, rfl⟩
              rw [ev_38] at v_38a v_38b ⊢
              obtain ⟨f5_39, c_f5_39, k_f5_39⟩ := iv_o20 hI g5
              refine iz_iald hx hb hK 0 c_f5_39 rfl (by omega) (by decide) dX12_trees_101 ?_
              obtain ⟨v_40a, v_40b, v_40c⟩ := k_f5_39 v_38 (by omega)
              clear v_40c
              obtain ⟨v_40, ev_40⟩ : ∃ z9 : Int, ge1 f5_39 v_38 = z9 := ⟨_, rfl⟩
              rw [ev_40] at v_40a v_40b ⊢
              refine lv_iload hx hb dX12_trees_102 (lv_at hl 0 rfl) ?_
              refine iz_ne (tgt := 111) hx hb dX12_trees_104 (by decide) (by unfold rg2; omega) (fun br_41 => ?_) (fun br_41 => ?_)
              · refine lv_lconst (v := 0) hx hb dX12_trees_111 (by decide) ?_
                obtain ⟨f45_42, c_f45_42⟩ := iv_o23 hI g45
                refine iz_last hx hb hK 3 c_f45_42 hS (iv_A hI g45 (by decide)) rfl (by omega) (by decide) dX12_trees_112 (fun H locs c9 oq hS => ?_)
                have hI := iv_s23 hI g45 c9 oq
                have hO := hO.kept (oq _ (iv_ne0 g45 hM.2.1 (by decide)).symm)
                have c_f42_37 := c_f42_37.kept (oq _ (iv_ne g42 g45 (by decide)))
                have c_f5_39 := c_f5_39.kept (oq _ (iv_ne g5 g45 (by decide)))
                clear oq c9
                refine lv_iinc (v := kz (c1 + 1)) (lv' := [(6, .int (kz (c1 + 1))), (5, .int (kz z_15)), (4, .int (kz i1)), (3, .int (kz n1)), (0, .ref o), (1, .int (kz k)), (2, .int (kz to))]) hx hb dX12_trees_113 hl (k := 0) rfl (kz_add c1 1) (by decide) rfl (fun ls hl => ?_)
                refine lv_goto (tgt := 64) hx hb dX12_trees_116 (by decide) ?_
                exact ihn_16 (n_16 - 1) (by omega) (c1 + 1) _ _ _ ⟨by omega, by omega, by omega, lv_sub hl [0, 1, 2, 3, 4, 5, 6] rfl, hI, hO, hS⟩
              · refine lv_lconst (v := 1) hx hb dX12_trees_107 (by decide) ?_
                refine lv_goto (tgt := 112) hx hb dX12_trees_108 (by decide) ?_
                obtain ⟨f45_43, c_f45_43⟩ := iv_o23 hI g45
                refine iz_last hx hb hK 3 c_f45_43 hS (iv_A hI g45 (by decide)) rfl (by omega) (by decide) dX12_trees_112 (fun H locs c9 oq hS => ?_)
                have hI := iv_s23 hI g45 c9 oq
                have hO := hO.kept (oq _ (iv_ne0 g45 hM.2.1 (by decide)).symm)
                have c_f42_37 := c_f42_37.kept (oq _ (iv_ne g42 g45 (by decide)))
                have c_f5_39 := c_f5_39.kept (oq _ (iv_ne g5 g45 (by decide)))
                clear oq c9
                refine lv_iinc (v := kz (c1 + 1)) (lv' := [(6, .int (kz (c1 + 1))), (5, .int (kz z_15)), (4, .int (kz i1)), (3, .int (kz n1)), (0, .ref o), (1, .int (kz k)), (2, .int (kz to))]) hx hb dX12_trees_113 hl (k := 0) rfl (kz_add c1 1) (by decide) rfl (fun ls hl => ?_)
                refine lv_goto (tgt := 64) hx hb dX12_trees_116 (by decide) ?_
                exact ihn_16 (n_16 - 1) (by omega) (c1 + 1) _ _ _ ⟨by omega, by omega, by omega, lv_sub hl [0, 1, 2, 3, 4, 5, 6] rfl, hI, hO, hS⟩
    · refine iz_nez (tgt := 19) hx hb dX12_trees_12 (by decide) (by unfold rg2; omega) (fun q9 => absurd q9 (by decide)) (fun _ => ?_)
      refine lv_ldc2 (own := RX12) (v := (-1)) hx hb hown (hts (.constantLong RX12 221 (-1)) (by decide +kernel)) dX12_trees_15 ?_
      exact W.lret (v := (-1)) hx hb hr (fun t9 ht hW => ⟨⟨(-1), (zi, zl), rfl, ⟨hz, rfl⟩, va_K.moved hW.alike hK, by rw [ht]; exact ⟨hI, hO⟩⟩, hS.F ht⟩) hS.2.2 dX12_trees_18
  · refine iz_eqz (tgt := 15) hx hb dX12_trees_5 (by decide) (by unfold rg2; omega) (fun _ => ?_) (fun q9 => absurd q9 (by decide))
    refine lv_ldc2 (own := RX12) (v := (-1)) hx hb hown (hts (.constantLong RX12 221 (-1)) (by decide +kernel)) dX12_trees_15 ?_
    exact W.lret (v := (-1)) hx hb hr (fun t9 ht hW => ⟨⟨(-1), (zi, zl), rfl, ⟨hz, rfl⟩, va_K.moved hW.alike hK, by rw [ht]; exact ⟨hI, hO⟩⟩, hS.F ht⟩) hS.2.2 dX12_trees_18
set_option maxHeartbeats 4000000 in
set_option maxRecDepth 100000 in
/-- X12_choose -/
theorem m_choose (l : Launch) (dC : Nat → ClassId) (dI : Nat → Nat → Nat) (ca : Nat → ClassId) (A : Nat → Prop) (X : kGh) (o : Nat) (am : Nat → Nat) (zi : Nat → Int) (zl : Nat → Int64) (hM : mS X A o am) (hz : mZ X am zi) (k : Int) (kr : -2147483648 ≤ k ∧ k ≤ 2147483647) : Met l yX12_choose wsX12_choose ({ frames := 2, cells := 0, slots := 0, locals := 43 }) (va_Pc [.ref o, .int (kz k)] (fun U => va_K (dC, dI) vwCl (k_tys ca) U ∧ mI (dC, dI) ca A X o am zi zl U.heap)) (va_Qi (fun (r : Int32) (u : (Nat → Int) × (Nat → Int64)) => mZ X am u.1 ∧ u.1 20 = zi 20) (fun u U => va_K (dC, dI) vwCl (k_tys ca) U ∧ mI (dC, dI) ca A X o am u.1 u.2 U.heap) A) 0 0 A := by
  refine Met.ofW (cc := cX12_choose) (maxL := 5) (ret := (some .int)) (by decide) rfl ?_
  intro p e s m args below meth c s₁ B hml hv
  obtain ⟨rfl, hK, hI, hO⟩ := hv
  have hx := B.exec
  have hb := B.bytes
  have hr := B.returns
  have hts := atoms_spec (ws := wsX12_choose) B.pre
  have hown : s.vm.findClass RX12 = some m.cls := findClass_of_methodNamed B.named
  have hin : ∀ w ∈ u_ws RX12 TX12 49, w ∈ wsX12_choose := by decide +kernel
  have hL250 := hts (.fieldLink RX12 250 "JoinBenchModel" "choices" "I") (by decide +kernel)
  have hL117 := hts (.fieldLink RX12 117 "JoinBenchModel" "were" "[I") (by decide +kernel)
  have hL114 := hts (.fieldLink RX12 114 "JoinBenchModel" "formsThen" "[I") (by decide +kernel)
  have hL26 := hts (.fieldLink RX12 26 "JoinBenchModel" "cost" "[I") (by decide +kernel)
  have hL60 := hts (.fieldLink RX12 60 "JoinBenchModel" "uses" "[I") (by decide +kernel)
  have hL131 := hts (.fieldLink RX12 131 "JoinBenchModel" "forms" "I") (by decide +kernel)
  have hL99 := hts (.fieldLink RX12 99 "JoinBenchModel" "toldMany" "[I") (by decide +kernel)
  have hL102 := hts (.fieldLink RX12 102 "JoinBenchModel" "toldForm" "[I") (by decide +kernel)
  have hL23 := hts (.fieldLink RX12 23 "JoinBenchModel" "stem" "[I") (by decide +kernel)
  have hL63 := hts (.fieldLink RX12 63 "JoinBenchModel" "step" "I") (by decide +kernel)
  have g48 : X.1 (am 48) = (148, 20, 1860, -2147483648, 2147483647) := hM.1 48 _ rfl (by decide)
  have w48 : X.2 (am 48) = 0 := hM.2.2.2 48 _ rfl (by decide) (by decide) (by decide)
  have g47 : X.1 (am 47) = (147, 20, 31, 0, 40) := hM.1 47 _ rfl (by decide)
  have w47 : X.2 (am 47) = 0 := hM.2.2.2 47 _ rfl (by decide) (by decide) (by decide)
  have g7 : X.1 (am 7) = (107, 20, 40, -2147483648, 2147483647) := hM.1 7 _ rfl (by decide)
  have w7 : X.2 (am 7) = 0 := hM.2.2.2 7 _ rfl (by decide) (by decide) (by decide)
  have g19 : X.1 (am 19) = (119, 20, 20, -2147483648, 2147483647) := hM.1 19 _ rfl (by decide)
  have w19 : X.2 (am 19) = 0 := hM.2.2.2 19 _ rfl (by decide) (by decide) (by decide)
  have g41 : X.1 (am 41) = (141, 20, 8, 0, 40) := hM.1 41 _ rfl (by decide)
  have g42 : X.1 (am 42) = (142, 20, 320, 0, 39) := hM.1 42 _ rfl (by decide)
  have w42 : X.2 (am 42) = 0 := hM.2.2.2 42 _ rfl (by decide) (by decide) (by decide)
  have g6 : X.1 (am 6) = (106, 20, 40, 0, 19) := hM.1 6 _ rfl (by decide)
  have w6 : X.2 (am 6) = 0 := hM.2.2.2 6 _ rfl (by decide) (by decide) (by decide)
  obtain ⟨⟨z1a, z1b⟩, ⟨z2a, z2b⟩, ⟨z9a, z9b⟩, ⟨z20a, z20b⟩, ⟨z21a, z21b⟩, ⟨z22a, z22b⟩, ⟨z26a, z26b⟩, ⟨z28a, z28b⟩, ⟨z34a, z34b⟩, ⟨z35a, z35b⟩, ⟨z38a, z38b⟩, ⟨z39a, z39b⟩, ⟨z46a, z46b⟩, hzA, hzB⟩ := id hz
  obtain ⟨H, hH⟩ : ∃ H : Heap, H = s.heap := ⟨_, rfl⟩
  have hS : va_S A s.heap H [] := by rw [hH]; exact va_S.rf
  rw [← hH] at hI hO ⊢
  clear hH
  have hl := lv_entry ([.ref o, .int (kz k)]) (n := 5) (Nat.le_of_ble_eq_true rfl)
  rw [lg_entry_eq]
  generalize (lg_sl ([.ref o, .int (kz k)]) ++ List.replicate (5 - (lg_sl ([.ref o, .int (kz k)])).length) Slot.unset).toArray = ls at hl ⊢
  have hl : lv_has ls 5 [(0, .ref o), (1, .int (kz k))] := hl
  refine lv_aload_n hx hb dX12_choose_0 rfl (lv_at hl 0 rfl) ?_
  refine lv_iload_n hx hb dX12_choose_1 rfl (lv_at hl 1 rfl) ?_
  refine vp_callSi (va_Run.run (va_runV (As := [.int (kz k)]) (rest := []) ⟨hx, hb, hml, hown, hts⟩ (m_isTold l dC dI ca A X o am zi zl hM hz k (by omega)) (cwV 1 hts gX12_choose_X12_isTold rfl rfl rfl (by decide +kernel) ⟨Nat.le_of_ble_eq_true rfl, Nat.le_of_ble_eq_true rfl⟩) ⟨fun a U g mk q => by obtain ⟨q0, qK, qI⟩ := q; exact ⟨q0, va_K.moved (u := U) (U := U.calling g mk a) (Vm.Alike.refl U.vm) qK, qI⟩, va_recv hK (at_P hO) (ci := 12) (q0 := 0) rfl rfl, fun U hU hW => ⟨rfl, va_K.moved hW.alike hK, by rw [hU]; exact ⟨hI, hO⟩⟩⟩ rfl rfl hl.1 rfl (lv_room (Nat.le_of_ble_eq_true rfl)) dX12_choose_2 ⟨Nat.le_of_ble_eq_true rfl, Nat.le_of_ble_eq_true rfl⟩)) (fun r_2 hw_1 => ?_)
  rcases hw_1 with ⟨rfl, hw_1a, hw_1b⟩ | rfl
  · refine iz_nez (tgt := 10) hx hb dX12_choose_5 (by decide) (by unfold rg2; omega) (fun _ => ?_) (fun q9 => absurd q9 (by decide))
    refine lv_aload_n hx hb dX12_choose_10 rfl (lv_at hl 0 rfl) ?_
    refine iz_get (D := (dC, dI)) (ci := 12) (v := .int (kz (zi 46))) (C := RX12) (T := TX12) (N := 49) hx hb hts hin hown hK hO rfl 46 (by decide) hL250 (fun _ h9 => h9) rfl dX12_choose_11 ?_
    refine lv_bipush (v := kz 30) hx hb dX12_choose_14 (by decide) ?_
    refine iz_ne (tgt := 87) hx hb dX12_choose_16 (by decide) (by unfold rg2; omega) (fun br_3 => ?_) (fun br_3 => ?_)
    · refine lv_iconst (v := kz 0) hx hb dX12_choose_87 rfl ?_
      refine lv_istore_n (lv' := [(2, .int (kz 0)), (0, .ref o), (1, .int (kz k))]) hx hb dX12_choose_88 rfl hl (by decide) rfl (fun ls hl => ?_)
      refine iz_loop1 (P := fun N9 f1 H locs ls => 0 ≤ f1 ∧ f1 ≤ 40 ∧ 40 - f1 ≤ (N9 : Int) ∧ lv_has ls 5 [(2, .int (kz f1)), (0, .ref o), (1, .int (kz k))] ∧ iv (dC, dI) ca A X H ∧ va_at (dC, dI) vwCl (o, .inr (12, mM am zi zl)) H ∧ va_S A s.heap H locs) 100000 (x0 := 0) ?_ ⟨by omega, by omega, by omega, lv_sub hl [0, 1, 2] rfl, hI, hO, hS⟩
      intro n_4 f1 H locs ls ⟨n_4f0, n_4f1, n_4f2, hl, hI, hO, hS⟩ ihn_4
      refine lv_iload_n hx hb dX12_choose_89 rfl (lv_at hl 0 rfl) ?_
      refine lv_bipush (v := kz 40) hx hb dX12_choose_90 (by decide) ?_
      refine iz_ge (tgt := 121) hx hb dX12_choose_92 (by decide) (by unfold rg2; omega) (fun br_5 => ?_) (fun br_5 => ?_)
      · refine lv_iconst (v := kz 0) hx hb dX12_choose_121 rfl ?_
        refine lv_istore_n (lv' := [(2, .int (kz 0)), (0, .ref o), (1, .int (kz k))]) hx hb dX12_choose_122 rfl hl (by decide) rfl (fun ls hl => ?_)
        refine iz_loop1 (P := fun N9 t1 H locs ls => 0 ≤ t1 ∧ t1 ≤ 20 ∧ 20 - t1 ≤ (N9 : Int) ∧ lv_has ls 5 [(2, .int (kz t1)), (0, .ref o), (1, .int (kz k))] ∧ iv (dC, dI) ca A X H ∧ va_at (dC, dI) vwCl (o, .inr (12, mM am zi zl)) H ∧ va_S A s.heap H locs) 100000 (x0 := 0) ?_ ⟨by omega, by omega, by omega, lv_sub hl [0, 1, 2] rfl, hI, hO, hS⟩
        intro n_6 t1 H locs ls ⟨n_6f0, n_6f1, n_6f2, hl, hI, hO, hS⟩ ihn_6
        refine lv_iload_n hx hb dX12_choose_123 rfl (lv_at hl 0 rfl) ?_
        refine lv_bipush (v := kz 20) hx hb dX12_choose_124 (by decide) ?_
        refine iz_ge (tgt := 158) hx hb dX12_choose_126 (by decide) (by unfold rg2; omega) (fun br_7 => ?_) (fun br_7 => ?_)
        · refine lv_aload_n hx hb dX12_choose_158 rfl (lv_at hl 1 rfl) ?_
          refine iz_get (D := (dC, dI)) (ci := 12) (v := .ref (am 47)) (C := RX12) (T := TX12) (N := 49) hx hb hts hin hown hK hO rfl 47 (by decide) hL114 (fun _ h9 => h9) rfl dX12_choose_159 ?_
          refine lv_aload_n hx hb dX12_choose_162 rfl (lv_at hl 1 rfl) ?_
          refine iz_get (D := (dC, dI)) (ci := 12) (v := .int (kz (zi 46))) (C := RX12) (T := TX12) (N := 49) hx hb hts hin hown hK hO rfl 46 (by decide) hL250 (fun _ h9 => h9) rfl dX12_choose_163 ?_
          refine lv_aload_n hx hb dX12_choose_166 rfl (lv_at hl 1 rfl) ?_
          refine iz_get (D := (dC, dI)) (ci := 12) (v := .int (kz (zi 2))) (C := RX12) (T := TX12) (N := 49) hx hb hts hin hown hK hO rfl 2 (by decide) hL131 (fun _ h9 => h9) rfl dX12_choose_167 ?_
          obtain ⟨f47_8, c_f47_8, k_f47_8⟩ := iv_o20 hI g47
          refine iz_iast hx hb hK 0 c_f47_8 hS (iv_A hI g47 (by decide)) rfl (by omega) (by decide) dX12_choose_170 (fun H locs c9 oq hS => ?_)
          have hI := iv_s20 hI g47 k_f47_8 c9 oq (by omega) (by omega) (by decide) (by omega)
          have hO := hO.kept (oq _ (iv_ne0 g47 hM.2.1 (by decide)).symm)
          clear oq c9
          refine lv_aload_n hx hb dX12_choose_171 rfl (lv_at hl 1 rfl) ?_
          refine lv_dup hx hb dX12_choose_172 rfl ?_
          refine iz_get (D := (dC, dI)) (ci := 12) (v := .int (kz (zi 46))) (C := RX12) (T := TX12) (N := 49) hx hb hts hin hown hK hO rfl 46 (by decide) hL250 (fun _ h9 => h9) rfl dX12_choose_173 ?_
          refine lv_iconst (v := kz 1) hx hb dX12_choose_176 rfl ?_
          refine iz_iadd hx hb dX12_choose_177 ?_
          refine iz_put (D := (dC, dI)) (ci := 12) (v := .int (kz (zi 46 + 1))) (ty := .int) (C := RX12) (T := TX12) (N := 49) hx hb hts hin tyX12 tyX12_ok nmX12 hown hK hO hS hM.2.2.1 rfl 46 (by decide) hL250 (fun _ h9 => h9) rfl (by decide +kernel) rfl rfl (Nat.le_of_ble_eq_true rfl) dX12_choose_178 (fun H locs hO oq hS => ?_)
          rw [mM_46] at hO
          have hI := iv_skip hI hM.2.1 oq
          have hO : va_at (dC, dI) vwCl (o, .inr (12, mM am (fup zi 46 (zi 46 + 1)) zl)) H := hO
          clear oq
          refine lv_iconst (v := kz 0) hx hb dX12_choose_181 rfl ?_
          refine lv_istore_n (lv' := [(2, .int (kz 0)), (0, .ref o), (1, .int (kz k))]) hx hb dX12_choose_182 rfl hl (by decide) rfl (fun ls hl => ?_)
          refine iz_loop1 (P := fun N9 f1 H locs ls => 0 ≤ f1 ∧ f1 ≤ 40 ∧ 40 - f1 ≤ (N9 : Int) ∧ lv_has ls 5 [(2, .int (kz f1)), (0, .ref o), (1, .int (kz k))] ∧ iv (dC, dI) ca A X H ∧ va_at (dC, dI) vwCl (o, .inr (12, mM am (fup zi 46 (zi 46 + 1)) zl)) H ∧ va_S A s.heap H locs) 100000 (x0 := 0) ?_ ⟨by omega, by omega, by omega, lv_sub hl [0, 1, 2] rfl, hI, hO, hS⟩
          intro n_9 f1 H locs ls ⟨n_9f0, n_9f1, n_9f2, hl, hI, hO, hS⟩ ihn_9
          refine lv_iload_n hx hb dX12_choose_183 rfl (lv_at hl 0 rfl) ?_
          refine lv_aload_n hx hb dX12_choose_184 rfl (lv_at hl 1 rfl) ?_
          refine iz_get (D := (dC, dI)) (ci := 12) (v := .int (kz (zi 2))) (C := RX12) (T := TX12) (N := 49) hx hb hts hin hown hK hO rfl 2 (by decide) hL131 (fun _ h9 => h9) rfl dX12_choose_185 ?_
          refine iz_ge (tgt := 296) hx hb dX12_choose_188 (by decide) (by unfold rg2; omega) (fun br_10 => ?_) (fun br_10 => ?_)
          · refine lv_aload_n hx hb dX12_choose_296 rfl (lv_at hl 1 rfl) ?_
            refine iz_get (D := (dC, dI)) (ci := 12) (v := .int (kz (zi 46 + 1))) (C := RX12) (T := TX12) (N := 49) hx hb hts hin hown hK hO rfl 46 (by decide) hL250 (fun _ h9 => h9) rfl dX12_choose_297 ?_
            exact W.iret (v := kz (zi 46 + 1)) hx hb hr (fun t9 ht hW => ⟨⟨kz (zi 46 + 1), ((fup zi 46 (zi 46 + 1)), zl), rfl, ⟨⟨⟨z1a, z1b⟩, ⟨z2a, z2b⟩, ⟨z9a, z9b⟩, ⟨z20a, z20b⟩, ⟨z21a, z21b⟩, ⟨z22a, z22b⟩, ⟨z26a, z26b⟩, ⟨z28a, z28b⟩, ⟨z34a, z34b⟩, ⟨z35a, z35b⟩, ⟨z38a, z38b⟩, ⟨z39a, z39b⟩, ⟨by show (0 : Int) ≤ (zi 46 + 1); omega, by show (zi 46 + 1) ≤ (30 : Int); omega⟩, by show zi 2 ≤ (X.2 (am 4) : Int); omega, by show zi 39 ≤ (X.2 (am 41) : Int); omega⟩, rfl⟩, va_K.moved hW.alike hK, by rw [ht]; exact ⟨hI, hO⟩⟩, hS.F ht⟩) hS.2.2 dX12_choose_300
          · refine lv_iconst (v := kz 0) hx hb dX12_choose_191 rfl ?_
            refine lv_istore_n (lv' := [(3, .int (kz 0)), (2, .int (kz f1)), (0, .ref o), (1, .int (kz k))]) hx hb dX12_choose_192 rfl hl (by decide) rfl (fun ls hl => ?_)
            refine lv_iconst (v := kz 0) hx hb dX12_choose_193 rfl ?_
            refine lv_istore (lv' := [(4, .int (kz 0)), (3, .int (kz 0)), (2, .int (kz f1)), (0, .ref o), (1, .int (kz k))]) hx hb dX12_choose_194 hl (by decide) rfl (fun ls hl => ?_)
            refine iz_loop2 (P := fun N9 n1 i1 H locs ls => 0 ≤ i1 ∧ i1 ≤ 40 ∧ 0 ≤ n1 ∧ n1 ≤ i1 ∧ 40 - i1 ≤ (N9 : Int) ∧ lv_has ls 5 [(4, .int (kz i1)), (3, .int (kz n1)), (2, .int (kz f1)), (0, .ref o), (1, .int (kz k))] ∧ iv (dC, dI) ca A X H ∧ va_at (dC, dI) vwCl (o, .inr (12, mM am (fup zi 46 (zi 46 + 1)) zl)) H ∧ va_S A s.heap H locs) 100000 (x0 := 0) (x1 := 0) ?_ ⟨by omega, by omega, by omega, by omega, by omega, lv_sub hl [0, 1, 2, 3, 4] rfl, hI, hO, hS⟩
            intro n_11 n1 i1 H locs ls ⟨n_11f0, n_11f1, n_11f2, n_11f3, n_11f4, hl, hI, hO, hS⟩ ihn_11
            refine lv_iload hx hb dX12_choose_196 (lv_at hl 0 rfl) ?_
            refine lv_aload_n hx hb dX12_choose_198 rfl (lv_at hl 3 rfl) ?_
            refine iz_get (D := (dC, dI)) (ci := 12) (v := .ref (am 41)) (C := RX12) (T := TX12) (N := 49) hx hb hts hin hown hK hO rfl 41 (by decide) hL99 (fun _ h9 => h9) rfl dX12_choose_199 ?_
            refine lv_iload_n hx hb dX12_choose_202 rfl (lv_at hl 4 rfl) ?_
            obtain ⟨f41_12, c_f41_12, k_f41_12⟩ := iv_o20 hI g41
            refine iz_iald hx hb hK 0 c_f41_12 rfl (by omega) (by decide) dX12_choose_203 ?_
            obtain ⟨v_13a, v_13b, v_13c⟩ := k_f41_12 k (by omega)
            obtain ⟨v_13, ev_13⟩ : ∃ z9 : Int, ge1 f41_12 k = z9 := ⟨_, rfl⟩
            rw [ev_13] at v_13a v_13b v_13c ⊢
            refine iz_ge (tgt := 237) hx hb dX12_choose_204 (by decide) (by unfold rg2; omega) (fun br_14 => ?_) (fun br_14 => ?_)
            · refine lv_aload_n hx hb dX12_choose_237 rfl (lv_at hl 3 rfl) ?_
              refine iz_get (D := (dC, dI)) (ci := 12) (v := .ref (am 19)) (C := RX12) (T := TX12) (N := 49) hx hb hts hin hown hK hO rfl 19 (by decide) hL60 (fun _ h9 => h9) rfl dX12_choose_238 ?_
              refine lv_aload_n hx hb dX12_choose_241 rfl (lv_at hl 3 rfl) ?_
              refine iz_get (D := (dC, dI)) (ci := 12) (v := .ref (am 6)) (C := RX12) (T := TX12) (N := 49) hx hb hts hin hown hK hO rfl 6 (by decide) hL23 (fun _ h9 => h9) rfl dX12_choose_242 ?_
              refine lv_iload_n hx hb dX12_choose_245 rfl (lv_at hl 2 rfl) ?_
              obtain ⟨f6_15, c_f6_15, k_f6_15⟩ := iv_o20 hI g6
              refine iz_iald hx hb hK 0 c_f6_15 rfl (by omega) (by decide) dX12_choose_246 ?_
              obtain ⟨v_16a, v_16b, v_16c⟩ := k_f6_15 f1 (by omega)
              clear v_16c
              obtain ⟨v_16, ev_16⟩ : ∃ z9 : Int, ge1 f6_15 f1 = z9 := ⟨_, rfl⟩
              rw [ev_16] at v_16a v_16b ⊢
              refine lv_dup2_11 hx hb dX12_choose_247 rfl rfl ?_
              obtain ⟨f19_17, c_f19_17, k_f19_17⟩ := iv_o20 hI g19
              refine iz_iald hx hb hK 0 c_f19_17 rfl (by omega) (by decide) dX12_choose_248 ?_
              obtain ⟨v_18a, v_18b, v_18c⟩ := k_f19_17 v_16 (by omega)
              clear v_18c
              obtain ⟨v_18, ev_18⟩ : ∃ z9 : Int, ge1 f19_17 v_16 = z9 := ⟨_, rfl⟩
              rw [ev_18] at v_18a v_18b ⊢
              refine lv_iload_n hx hb dX12_choose_249 rfl (lv_at hl 1 rfl) ?_
              refine iz_iadd hx hb dX12_choose_250 ?_
              refine iz_any (fun z_19 z_19a z_19b z_19e => ?_)
              refine iz_iast hx hb hK 0 c_f19_17 hS (iv_A hI g19 (by decide)) rfl (by omega) (by decide) dX12_choose_251 (fun H locs c9 oq hS => ?_)
              have hI := iv_s20 hI g19 k_f19_17 c9 oq (by omega) (by omega) (by decide) (by omega)
              have hO := hO.kept (oq _ (iv_ne0 g19 hM.2.1 (by decide)).symm)
              have c_f41_12 := c_f41_12.kept (oq _ (iv_ne g41 g19 (by decide)))
              have c_f6_15 := c_f6_15.kept (oq _ (iv_ne g6 g19 (by decide)))
              clear oq c9
              refine lv_iload_n hx hb dX12_choose_252 rfl (lv_at hl 1 rfl) ?_
              refine iz_lez (tgt := 290) hx hb dX12_choose_253 (by decide) (by unfold rg2; omega) (fun br_20 => ?_) (fun br_20 => ?_)
              · refine lv_iinc (v := kz (f1 + 1)) (lv' := [(2, .int (kz (f1 + 1))), (4, .int (kz i1)), (3, .int (kz n1)), (0, .ref o), (1, .int (kz k))]) hx hb dX12_choose_290 hl (k := 2) rfl (kz_add f1 1) (by decide) rfl (fun ls hl => ?_)
                refine lv_goto (tgt := 183) hx hb dX12_choose_293 (by decide) ?_
                exact ihn_9 (n_9 - 1) (by omega) (f1 + 1) _ _ _ ⟨by omega, by omega, by omega, lv_sub hl [0, 3, 4] rfl, hI, hO, hS⟩
              · refine lv_aload_n hx hb dX12_choose_256 rfl (lv_at hl 3 rfl) ?_
                refine iz_get (D := (dC, dI)) (ci := 12) (v := .ref (am 7)) (C := RX12) (T := TX12) (N := 49) hx hb hts hin hown hK hO rfl 7 (by decide) hL26 (fun _ h9 => h9) rfl dX12_choose_257 ?_
                refine lv_iload_n hx hb dX12_choose_260 rfl (lv_at hl 2 rfl) ?_
                refine lv_aload_n hx hb dX12_choose_261 rfl (lv_at hl 3 rfl) ?_
                refine iz_get (D := (dC, dI)) (ci := 12) (v := .ref (am 7)) (C := RX12) (T := TX12) (N := 49) hx hb hts hin hown hK hO rfl 7 (by decide) hL26 (fun _ h9 => h9) rfl dX12_choose_262 ?_
                refine lv_iload_n hx hb dX12_choose_265 rfl (lv_at hl 2 rfl) ?_
                obtain ⟨f7_21, c_f7_21, k_f7_21⟩ := iv_o20 hI g7
                refine iz_iald hx hb hK 0 c_f7_21 rfl (by omega) (by decide) dX12_choose_266 ?_
                obtain ⟨v_22a, v_22b, v_22c⟩ := k_f7_21 f1 (by omega)
                clear v_22c
                obtain ⟨v_22, ev_22⟩ : ∃ z9 : Int, ge1 f7_21 f1 = z9 := ⟨_, rfl⟩
                rw [ev_22] at v_22a v_22b ⊢
                refine lv_aload_n hx hb dX12_choose_267 rfl (lv_at hl 3 rfl) ?_
                refine iz_get (D := (dC, dI)) (ci := 12) (v := .int (kz (zi 20))) (C := RX12) (T := TX12) (N := 49) hx hb hts hin hown hK hO rfl 20 (by decide) hL63 (fun _ h9 => h9) rfl dX12_choose_268 ?_
                refine iz_ge (tgt := 278) hx hb dX12_choose_271 (by decide) (by unfold rg2; omega) (fun br_23 => ?_) (fun br_23 => ?_)
                · refine lv_aload_n hx hb dX12_choose_278 rfl (lv_at hl 3 rfl) ?_
                  refine iz_get (D := (dC, dI)) (ci := 12) (v := .ref (am 7)) (C := RX12) (T := TX12) (N := 49) hx hb hts hin hown hK hO rfl 7 (by decide) hL26 (fun _ h9 => h9) rfl dX12_choose_279 ?_
                  refine lv_iload_n hx hb dX12_choose_282 rfl (lv_at hl 2 rfl) ?_
                  refine iz_iald hx hb hK 0 c_f7_21 rfl (by omega) (by decide) dX12_choose_283 ?_
                  rw [ev_22]
                  refine lv_aload_n hx hb dX12_choose_284 rfl (lv_at hl 3 rfl) ?_
                  refine iz_get (D := (dC, dI)) (ci := 12) (v := .int (kz (zi 20))) (C := RX12) (T := TX12) (N := 49) hx hb hts hin hown hK hO rfl 20 (by decide) hL63 (fun _ h9 => h9) rfl dX12_choose_285 ?_
                  refine iz_isub hx hb dX12_choose_288 ?_
                  refine iz_any (fun z_24 z_24a z_24b z_24e => ?_)
                  refine iz_iast hx hb hK 0 c_f7_21 hS (iv_A hI g7 (by decide)) rfl (by omega) (by decide) dX12_choose_289 (fun H locs c9 oq hS => ?_)
                  have hI := iv_s20 hI g7 k_f7_21 c9 oq (by omega) (by omega) (by decide) (by omega)
                  have hO := hO.kept (oq _ (iv_ne0 g7 hM.2.1 (by decide)).symm)
                  have c_f41_12 := c_f41_12.kept (oq _ (iv_ne g41 g7 (by decide)))
                  have c_f6_15 := c_f6_15.kept (oq _ (iv_ne g6 g7 (by decide)))
                  clear oq c9
                  refine lv_iinc (v := kz (f1 + 1)) (lv' := [(2, .int (kz (f1 + 1))), (4, .int (kz i1)), (3, .int (kz n1)), (0, .ref o), (1, .int (kz k))]) hx hb dX12_choose_290 hl (k := 2) rfl (kz_add f1 1) (by decide) rfl (fun ls hl => ?_)
                  refine lv_goto (tgt := 183) hx hb dX12_choose_293 (by decide) ?_
                  exact ihn_9 (n_9 - 1) (by omega) (f1 + 1) _ _ _ ⟨by omega, by omega, by omega, lv_sub hl [0, 3, 4] rfl, hI, hO, hS⟩
                · refine lv_iconst (v := kz 0) hx hb dX12_choose_274 rfl ?_
                  refine lv_goto (tgt := 289) hx hb dX12_choose_275 (by decide) ?_
                  refine iz_iast hx hb hK 0 c_f7_21 hS (iv_A hI g7 (by decide)) rfl (by omega) (by decide) dX12_choose_289 (fun H locs c9 oq hS => ?_)
                  have hI := iv_s20 hI g7 k_f7_21 c9 oq (by omega) (by omega) (by decide) (by omega)
                  have hO := hO.kept (oq _ (iv_ne0 g7 hM.2.1 (by decide)).symm)
                  have c_f41_12 := c_f41_12.kept (oq _ (iv_ne g41 g7 (by decide)))
                  have c_f6_15 := c_f6_15.kept (oq _ (iv_ne g6 g7 (by decide)))
                  clear oq c9
                  refine lv_iinc (v := kz (f1 + 1)) (lv' := [(2, .int (kz (f1 + 1))), (4, .int (kz i1)), (3, .int (kz n1)), (0, .ref o), (1, .int (kz k))]) hx hb dX12_choose_290 hl (k := 2) rfl (kz_add f1 1) (by decide) rfl (fun ls hl => ?_)
                  refine lv_goto (tgt := 183) hx hb dX12_choose_293 (by decide) ?_
                  exact ihn_9 (n_9 - 1) (by omega) (f1 + 1) _ _ _ ⟨by omega, by omega, by omega, lv_sub hl [0, 3, 4] rfl, hI, hO, hS⟩
            · refine lv_iload_n hx hb dX12_choose_207 rfl (lv_at hl 1 rfl) ?_
              refine lv_aload_n hx hb dX12_choose_208 rfl (lv_at hl 3 rfl) ?_
              refine iz_get (D := (dC, dI)) (ci := 12) (v := .ref (am 42)) (C := RX12) (T := TX12) (N := 49) hx hb hts hin hown hK hO rfl 42 (by decide) hL102 (fun _ h9 => h9) rfl dX12_choose_209 ?_
              refine lv_bipush (v := kz 40) hx hb dX12_choose_212 (by decide) ?_
              refine lv_iload_n hx hb dX12_choose_214 rfl (lv_at hl 4 rfl) ?_
              refine iz_imul hx hb dX12_choose_215 ?_
              refine lv_iload hx hb dX12_choose_216 (lv_at hl 0 rfl) ?_
              refine iz_iadd hx hb dX12_choose_218 ?_
              obtain ⟨f42_25, c_f42_25, k_f42_25⟩ := iv_o20 hI g42
              refine iz_iald hx hb hK 0 c_f42_25 rfl (by omega) (by decide) dX12_choose_219 ?_
              obtain ⟨v_26a, v_26b, v_26c⟩ := k_f42_25 ((40 * k) + i1) (by omega)
              clear v_26c
              obtain ⟨v_26, ev_26⟩ : ∃ z9 : Int, ge1 f42_25 ((40 * k) + i1) = z9 := ⟨_, rfl⟩
              rw [ev_26] at v_26a v_26b ⊢
              refine lv_iload_n hx hb dX12_choose_220 rfl (lv_at hl 2 rfl) ?_
              refine iz_ne (tgt := 228) hx hb dX12_choose_221 (by decide) (by unfold rg2; omega) (fun br_27 => ?_) (fun br_27 => ?_)
              · refine lv_iconst (v := kz 0) hx hb dX12_choose_228 rfl ?_
                refine iz_iadd hx hb dX12_choose_229 ?_
                refine lv_istore_n (lv' := [(3, .int (kz (n1 + 0))), (4, .int (kz i1)), (2, .int (kz f1)), (0, .ref o), (1, .int (kz k))]) hx hb dX12_choose_230 rfl hl (by decide) rfl (fun ls hl => ?_)
                refine lv_iinc (v := kz (i1 + 1)) (lv' := [(4, .int (kz (i1 + 1))), (3, .int (kz (n1 + 0))), (2, .int (kz f1)), (0, .ref o), (1, .int (kz k))]) hx hb dX12_choose_231 hl (k := 1) rfl (kz_add i1 1) (by decide) rfl (fun ls hl => ?_)
                refine lv_goto (tgt := 196) hx hb dX12_choose_234 (by decide) ?_
                exact ihn_11 (n_11 - 1) (by omega) (n1 + 0) (i1 + 1) _ _ _ ⟨by omega, by omega, by omega, by omega, by omega, lv_sub hl [0, 1, 2, 3, 4] rfl, hI, hO, hS⟩
              · refine lv_iconst (v := kz 1) hx hb dX12_choose_224 rfl ?_
                refine lv_goto (tgt := 229) hx hb dX12_choose_225 (by decide) ?_
                refine iz_iadd hx hb dX12_choose_229 ?_
                refine lv_istore_n (lv' := [(3, .int (kz (n1 + 1))), (4, .int (kz i1)), (2, .int (kz f1)), (0, .ref o), (1, .int (kz k))]) hx hb dX12_choose_230 rfl hl (by decide) rfl (fun ls hl => ?_)
                refine lv_iinc (v := kz (i1 + 1)) (lv' := [(4, .int (kz (i1 + 1))), (3, .int (kz (n1 + 1))), (2, .int (kz f1)), (0, .ref o), (1, .int (kz k))]) hx hb dX12_choose_231 hl (k := 1) rfl (kz_add i1 1) (by decide) rfl (fun ls hl => ?_)
                refine lv_goto (tgt := 196) hx hb dX12_choose_234 (by decide) ?_
                exact ihn_11 (n_11 - 1) (by omega) (n1 + 1) (i1 + 1) _ _ _ ⟨by omega, by omega, by omega, by omega, by omega, lv_sub hl [0, 1, 2, 3, 4] rfl, hI, hO, hS⟩
        · refine lv_aload_n hx hb dX12_choose_129 rfl (lv_at hl 1 rfl) ?_
          refine iz_get (D := (dC, dI)) (ci := 12) (v := .ref (am 48)) (C := RX12) (T := TX12) (N := 49) hx hb hts hin hown hK hO rfl 48 (by decide) hL117 (fun _ h9 => h9) rfl dX12_choose_130 ?_
          refine lv_bipush (v := kz 60) hx hb dX12_choose_133 (by decide) ?_
          refine lv_aload_n hx hb dX12_choose_135 rfl (lv_at hl 1 rfl) ?_
          refine iz_get (D := (dC, dI)) (ci := 12) (v := .int (kz (zi 46))) (C := RX12) (T := TX12) (N := 49) hx hb hts hin hown hK hO rfl 46 (by decide) hL250 (fun _ h9 => h9) rfl dX12_choose_136 ?_
          refine iz_imul hx hb dX12_choose_139 ?_
          refine lv_bipush (v := kz 40) hx hb dX12_choose_140 (by decide) ?_
          refine iz_iadd hx hb dX12_choose_142 ?_
          refine lv_iload_n hx hb dX12_choose_143 rfl (lv_at hl 0 rfl) ?_
          refine iz_iadd hx hb dX12_choose_144 ?_
          refine lv_aload_n hx hb dX12_choose_145 rfl (lv_at hl 1 rfl) ?_
          refine iz_get (D := (dC, dI)) (ci := 12) (v := .ref (am 19)) (C := RX12) (T := TX12) (N := 49) hx hb hts hin hown hK hO rfl 19 (by decide) hL60 (fun _ h9 => h9) rfl dX12_choose_146 ?_
          refine lv_iload_n hx hb dX12_choose_149 rfl (lv_at hl 0 rfl) ?_
          obtain ⟨f19_28, c_f19_28, k_f19_28⟩ := iv_o20 hI g19
          refine iz_iald hx hb hK 0 c_f19_28 rfl (by omega) (by decide) dX12_choose_150 ?_
          obtain ⟨v_29a, v_29b, v_29c⟩ := k_f19_28 t1 (by omega)
          clear v_29c
          obtain ⟨v_29, ev_29⟩ : ∃ z9 : Int, ge1 f19_28 t1 = z9 := ⟨_, rfl⟩
          rw [ev_29] at v_29a v_29b ⊢
          obtain ⟨f48_30, c_f48_30, k_f48_30⟩ := iv_o20 hI g48
          refine iz_any (fun z_31 z_31a z_31b z_31e => ?_)
          refine iz_iast hx hb hK 0 c_f48_30 hS (iv_A hI g48 (by decide)) rfl (by omega) (by decide) dX12_choose_151 (fun H locs c9 oq hS => ?_)
          have hI := iv_s20 hI g48 k_f48_30 c9 oq (by omega) (by omega) (by decide) (by omega)
          have hO := hO.kept (oq _ (iv_ne0 g48 hM.2.1 (by decide)).symm)
          have c_f19_28 := c_f19_28.kept (oq _ (iv_ne g19 g48 (by decide)))
          clear oq c9
          refine lv_iinc (v := kz (t1 + 1)) (lv' := [(2, .int (kz (t1 + 1))), (0, .ref o), (1, .int (kz k))]) hx hb dX12_choose_152 hl (k := 0) rfl (kz_add t1 1) (by decide) rfl (fun ls hl => ?_)
          refine lv_goto (tgt := 123) hx hb dX12_choose_155 (by decide) ?_
          exact ihn_6 (n_6 - 1) (by omega) (t1 + 1) _ _ _ ⟨by omega, by omega, by omega, lv_sub hl [0, 1, 2] rfl, hI, hO, hS⟩
      · refine lv_aload_n hx hb dX12_choose_95 rfl (lv_at hl 1 rfl) ?_
        refine iz_get (D := (dC, dI)) (ci := 12) (v := .ref (am 48)) (C := RX12) (T := TX12) (N := 49) hx hb hts hin hown hK hO rfl 48 (by decide) hL117 (fun _ h9 => h9) rfl dX12_choose_96 ?_
        refine lv_bipush (v := kz 60) hx hb dX12_choose_99 (by decide) ?_
        refine lv_aload_n hx hb dX12_choose_101 rfl (lv_at hl 1 rfl) ?_
        refine iz_get (D := (dC, dI)) (ci := 12) (v := .int (kz (zi 46))) (C := RX12) (T := TX12) (N := 49) hx hb hts hin hown hK hO rfl 46 (by decide) hL250 (fun _ h9 => h9) rfl dX12_choose_102 ?_
        refine iz_imul hx hb dX12_choose_105 ?_
        refine lv_iload_n hx hb dX12_choose_106 rfl (lv_at hl 0 rfl) ?_
        refine iz_iadd hx hb dX12_choose_107 ?_
        refine lv_aload_n hx hb dX12_choose_108 rfl (lv_at hl 1 rfl) ?_
        refine iz_get (D := (dC, dI)) (ci := 12) (v := .ref (am 7)) (C := RX12) (T := TX12) (N := 49) hx hb hts hin hown hK hO rfl 7 (by decide) hL26 (fun _ h9 => h9) rfl dX12_choose_109 ?_
        refine lv_iload_n hx hb dX12_choose_112 rfl (lv_at hl 0 rfl) ?_
        obtain ⟨f7_32, c_f7_32, k_f7_32⟩ := iv_o20 hI g7
        refine iz_iald hx hb hK 0 c_f7_32 rfl (by omega) (by decide) dX12_choose_113 ?_
        obtain ⟨v_33a, v_33b, v_33c⟩ := k_f7_32 f1 (by omega)
        clear v_33c
        obtain ⟨v_33, ev_33⟩ : ∃ z9 : Int, ge1 f7_32 f1 = z9 := ⟨_, rfl⟩
        rw [ev_33] at v_33a v_33b ⊢
        obtain ⟨f48_34, c_f48_34, k_f48_34⟩ := iv_o20 hI g48
        refine iz_any (fun z_35 z_35a z_35b z_35e => ?_)
        refine iz_iast hx hb hK 0 c_f48_34 hS (iv_A hI g48 (by decide)) rfl (by omega) (by decide) dX12_choose_114 (fun H locs c9 oq hS => ?_)
        have hI := iv_s20 hI g48 k_f48_34 c9 oq (by omega) (by omega) (by decide) (by omega)
        have hO := hO.kept (oq _ (iv_ne0 g48 hM.2.1 (by decide)).symm)
        have c_f7_32 := c_f7_32.kept (oq _ (iv_ne g7 g48 (by decide)))
        clear oq c9
        refine lv_iinc (v := kz (f1 + 1)) (lv' := [(2, .int (kz (f1 + 1))), (0, .ref o), (1, .int (kz k))]) hx hb dX12_choose_115 hl (k := 0) rfl (kz_add f1 1) (by decide) rfl (fun ls hl => ?_)
        refine lv_goto (tgt := 89) hx hb dX12_choose_118 (by decide) ?_
        exact ihn_4 (n_4 - 1) (by omega) (f1 + 1) _ _ _ ⟨by omega, by omega, by omega, lv_sub hl [0, 1, 2] rfl, hI, hO, hS⟩
    · refine lv_iconst (v := kz 0) hx hb dX12_choose_19 rfl ?_
      refine lv_istore_n (lv' := [(2, .int (kz 0)), (0, .ref o), (1, .int (kz k))]) hx hb dX12_choose_20 rfl hl (by decide) rfl (fun ls hl => ?_)
      refine iz_loop1 (P := fun N9 i1 H locs ls => 0 ≤ i1 ∧ i1 ≤ 1740 ∧ 1740 - i1 ≤ (N9 : Int) ∧ lv_has ls 5 [(2, .int (kz i1)), (0, .ref o), (1, .int (kz k))] ∧ iv (dC, dI) ca A X H ∧ va_at (dC, dI) vwCl (o, .inr (12, mM am zi zl)) H ∧ va_S A s.heap H locs) 100000 (x0 := 0) ?_ ⟨by omega, by omega, by omega, lv_sub hl [0, 1, 2] rfl, hI, hO, hS⟩
      intro n_36 i1 H locs ls ⟨n_36f0, n_36f1, n_36f2, hl, hI, hO, hS⟩ ihn_36
      refine lv_iload_n hx hb dX12_choose_21 rfl (lv_at hl 0 rfl) ?_
      refine lv_sipush (v := kz 1740) hx hb dX12_choose_22 (by decide) ?_
      refine iz_ge (tgt := 49) hx hb dX12_choose_25 (by decide) (by unfold rg2; omega) (fun br_37 => ?_) (fun br_37 => ?_)
      · refine lv_iconst (v := kz 0) hx hb dX12_choose_49 rfl ?_
        refine lv_istore_n (lv' := [(2, .int (kz 0)), (0, .ref o), (1, .int (kz k))]) hx hb dX12_choose_50 rfl hl (by decide) rfl (fun ls hl => ?_)
        refine iz_loop1 (P := fun N9 i1 H locs ls => 0 ≤ i1 ∧ i1 ≤ 29 ∧ 29 - i1 ≤ (N9 : Int) ∧ lv_has ls 5 [(2, .int (kz i1)), (0, .ref o), (1, .int (kz k))] ∧ iv (dC, dI) ca A X H ∧ va_at (dC, dI) vwCl (o, .inr (12, mM am zi zl)) H ∧ va_S A s.heap H locs) 100000 (x0 := 0) ?_ ⟨by omega, by omega, by omega, lv_sub hl [0, 1, 2] rfl, hI, hO, hS⟩
        intro n_38 i1 H locs ls ⟨n_38f0, n_38f1, n_38f2, hl, hI, hO, hS⟩ ihn_38
        refine lv_iload_n hx hb dX12_choose_51 rfl (lv_at hl 0 rfl) ?_
        refine lv_bipush (v := kz 29) hx hb dX12_choose_52 (by decide) ?_
        refine iz_ge (tgt := 77) hx hb dX12_choose_54 (by decide) (by unfold rg2; omega) (fun br_39 => ?_) (fun br_39 => ?_)
        · refine lv_aload_n hx hb dX12_choose_77 rfl (lv_at hl 1 rfl) ?_
          refine lv_dup hx hb dX12_choose_78 rfl ?_
          refine iz_get (D := (dC, dI)) (ci := 12) (v := .int (kz (zi 46))) (C := RX12) (T := TX12) (N := 49) hx hb hts hin hown hK hO rfl 46 (by decide) hL250 (fun _ h9 => h9) rfl dX12_choose_79 ?_
          refine lv_iconst (v := kz 1) hx hb dX12_choose_82 rfl ?_
          refine iz_isub hx hb dX12_choose_83 ?_
          refine iz_put (D := (dC, dI)) (ci := 12) (v := .int (kz (zi 46 - 1))) (ty := .int) (C := RX12) (T := TX12) (N := 49) hx hb hts hin tyX12 tyX12_ok nmX12 hown hK hO hS hM.2.2.1 rfl 46 (by decide) hL250 (fun _ h9 => h9) rfl (by decide +kernel) rfl rfl (Nat.le_of_ble_eq_true rfl) dX12_choose_84 (fun H locs hO oq hS => ?_)
          rw [mM_46] at hO
          have hI := iv_skip hI hM.2.1 oq
          have hO : va_at (dC, dI) vwCl (o, .inr (12, mM am (fup zi 46 (zi 46 - 1)) zl)) H := hO
          clear oq
          refine lv_iconst (v := kz 0) hx hb dX12_choose_87 rfl ?_
          refine lv_istore_n (lv' := [(2, .int (kz 0)), (0, .ref o), (1, .int (kz k))]) hx hb dX12_choose_88 rfl hl (by decide) rfl (fun ls hl => ?_)
          refine iz_loop1 (P := fun N9 f1 H locs ls => 0 ≤ f1 ∧ f1 ≤ 40 ∧ 40 - f1 ≤ (N9 : Int) ∧ lv_has ls 5 [(2, .int (kz f1)), (0, .ref o), (1, .int (kz k))] ∧ iv (dC, dI) ca A X H ∧ va_at (dC, dI) vwCl (o, .inr (12, mM am (fup zi 46 (zi 46 - 1)) zl)) H ∧ va_S A s.heap H locs) 100000 (x0 := 0) ?_ ⟨by omega, by omega, by omega, lv_sub hl [0, 1, 2] rfl, hI, hO, hS⟩
          intro n_40 f1 H locs ls ⟨n_40f0, n_40f1, n_40f2, hl, hI, hO, hS⟩ ihn_40
          refine lv_iload_n hx hb dX12_choose_89 rfl (lv_at hl 0 rfl) ?_
          refine lv_bipush (v := kz 40) hx hb dX12_choose_90 (by decide) ?_
          refine iz_ge (tgt := 121) hx hb dX12_choose_92 (by decide) (by unfold rg2; omega) (fun br_41 => ?_) (fun br_41 => ?_)
          · refine lv_iconst (v := kz 0) hx hb dX12_choose_121 rfl ?_
            refine lv_istore_n (lv' := [(2, .int (kz 0)), (0, .ref o), (1, .int (kz k))]) hx hb dX12_choose_122 rfl hl (by decide) rfl (fun ls hl => ?_)
            refine iz_loop1 (P := fun N9 t1 H locs ls => 0 ≤ t1 ∧ t1 ≤ 20 ∧ 20 - t1 ≤ (N9 : Int) ∧ lv_has ls 5 [(2, .int (kz t1)), (0, .ref o), (1, .int (kz k))] ∧ iv (dC, dI) ca A X H ∧ va_at (dC, dI) vwCl (o, .inr (12, mM am (fup zi 46 (zi 46 - 1)) zl)) H ∧ va_S A s.heap H locs) 100000 (x0 := 0) ?_ ⟨by omega, by omega, by omega, lv_sub hl [0, 1, 2] rfl, hI, hO, hS⟩
            intro n_42 t1 H locs ls ⟨n_42f0, n_42f1, n_42f2, hl, hI, hO, hS⟩ ihn_42
            refine lv_iload_n hx hb dX12_choose_123 rfl (lv_at hl 0 rfl) ?_
            refine lv_bipush (v := kz 20) hx hb dX12_choose_124 (by decide) ?_
            refine iz_ge (tgt := 158) hx hb dX12_choose_126 (by decide) (by unfold rg2; omega) (fun br_43 => ?_) (fun br_43 => ?_)
            · refine lv_aload_n hx hb dX12_choose_158 rfl (lv_at hl 1 rfl) ?_
              refine iz_get (D := (dC, dI)) (ci := 12) (v := .ref (am 47)) (C := RX12) (T := TX12) (N := 49) hx hb hts hin hown hK hO rfl 47 (by decide) hL114 (fun _ h9 => h9) rfl dX12_choose_159 ?_
              refine lv_aload_n hx hb dX12_choose_162 rfl (lv_at hl 1 rfl) ?_
              refine iz_get (D := (dC, dI)) (ci := 12) (v := .int (kz (zi 46 - 1))) (C := RX12) (T := TX12) (N := 49) hx hb hts hin hown hK hO rfl 46 (by decide) hL250 (fun _ h9 => h9) rfl dX12_choose_163 ?_
              refine lv_aload_n hx hb dX12_choose_166 rfl (lv_at hl 1 rfl) ?_
              refine iz_get (D := (dC, dI)) (ci := 12) (v := .int (kz (zi 2))) (C := RX12) (T := TX12) (N := 49) hx hb hts hin hown hK hO rfl 2 (by decide) hL131 (fun _ h9 => h9) rfl dX12_choose_167 ?_
              obtain ⟨f47_44, c_f47_44, k_f47_44⟩ := iv_o20 hI g47
              refine iz_iast hx hb hK 0 c_f47_44 hS (iv_A hI g47 (by decide)) rfl (by omega) (by decide) dX12_choose_170 (fun H locs c9 oq hS => ?_)
              have hI := iv_s20 hI g47 k_f47_44 c9 oq (by omega) (by omega) (by decide) (by omega)
              have hO := hO.kept (oq _ (iv_ne0 g47 hM.2.1 (by decide)).symm)
              clear oq c9
              refine lv_aload_n hx hb dX12_choose_171 rfl (lv_at hl 1 rfl) ?_
              refine lv_dup hx hb dX12_choose_172 rfl ?_
              refine iz_get (D := (dC, dI)) (ci := 12) (v := .int (kz (zi 46 - 1))) (C := RX12) (T := TX12) (N := 49) hx hb hts hin hown hK hO rfl 46 (by decide) hL250 (fun _ h9 => h9) rfl dX12_choose_173 ?_
              refine lv_iconst (v := kz 1) hx hb dX12_choose_176 rfl ?_
              refine iz_iadd hx hb dX12_choose_177 ?_
              refine iz_put (D := (dC, dI)) (ci := 12) (v := .int (kz ((zi 46 - 1) + 1))) (ty := .int) (C := RX12) (T := TX12) (N := 49) hx hb hts hin tyX12 tyX12_ok nmX12 hown hK hO hS hM.2.2.1 rfl 46 (by decide) hL250 (fun _ h9 => h9) rfl (by decide +kernel) rfl rfl (Nat.le_of_ble_eq_true rfl) dX12_choose_178 (fun H locs hO oq hS => ?_)
              rw [mM_46] at hO
              have hI := iv_skip hI hM.2.1 oq
              have hO : va_at (dC, dI) vwCl (o, .inr (12, mM am (fup zi 46 ((zi 46 - 1) + 1)) zl)) H := hO
              clear oq
              refine lv_iconst (v := kz 0) hx hb dX12_choose_181 rfl ?_
              refine lv_istore_n (lv' := [(2, .int (kz 0)), (0, .ref o), (1, .int (kz k))]) hx hb dX12_choose_182 rfl hl (by decide) rfl (fun ls hl => ?_)
              refine iz_loop1 (P := fun N9 f1 H locs ls => 0 ≤ f1 ∧ f1 ≤ 40 ∧ 40 - f1 ≤ (N9 : Int) ∧ lv_has ls 5 [(2, .int (kz f1)), (0, .ref o), (1, .int (kz k))] ∧ iv (dC, dI) ca A X H ∧ va_at (dC, dI) vwCl (o, .inr (12, mM am (fup zi 46 ((zi 46 - 1) + 1)) zl)) H ∧ va_S A s.heap H locs) 100000 (x0 := 0) ?_ ⟨by omega, by omega, by omega, lv_sub hl [0, 1, 2] rfl, hI, hO, hS⟩
              intro n_45 f1 H locs ls ⟨n_45f0, n_45f1, n_45f2, hl, hI, hO, hS⟩ ihn_45
              refine lv_iload_n hx hb dX12_choose_183 rfl (lv_at hl 0 rfl) ?_
              refine lv_aload_n hx hb dX12_choose_184 rfl (lv_at hl 1 rfl) ?_
              refine iz_get (D := (dC, dI)) (ci := 12) (v := .int (kz (zi 2))) (C := RX12) (T := TX12) (N := 49) hx hb hts hin hown hK hO rfl 2 (by decide) hL131 (fun _ h9 => h9) rfl dX12_choose_185 ?_
              refine iz_ge (tgt := 296) hx hb dX12_choose_188 (by decide) (by unfold rg2; omega) (fun br_46 => ?_) (fun br_46 => ?_)
              · refine lv_aload_n hx hb dX12_choose_296 rfl (lv_at hl 1 rfl) ?_
                refine iz_get (D := (dC, dI)) (ci := 12) (v := .int (kz ((zi 46 - 1) + 1))) (C := RX12) (T := TX12) (N := 49) hx hb hts hin hown hK hO rfl 46 (by decide) hL250 (fun _ h9 => h9) rfl dX12_choose_297 ?_
                exact W.iret (v := kz ((zi 46 - 1) + 1)) hx hb hr (fun t9 ht hW => ⟨⟨kz ((zi 46 - 1) + 1), ((fup zi 46 ((zi 46 - 1) + 1)), zl), rfl, ⟨⟨⟨z1a, z1b⟩, ⟨z2a, z2b⟩, ⟨z9a, z9b⟩, ⟨z20a, z20b⟩, ⟨z21a, z21b⟩, ⟨z22a, z22b⟩, ⟨z26a, z26b⟩, ⟨z28a, z28b⟩, ⟨z34a, z34b⟩, ⟨z35a, z35b⟩, ⟨z38a, z38b⟩, ⟨z39a, z39b⟩, ⟨by show (0 : Int) ≤ ((zi 46 - 1) + 1); omega, by show ((zi 46 - 1) + 1) ≤ (30 : Int); omega⟩, by show zi 2 ≤ (X.2 (am 4) : Int); omega, by show zi 39 ≤ (X.2 (am 41) : Int); omega⟩, rfl⟩, va_K.moved hW.alike hK, by rw [ht]; exact ⟨hI, hO⟩⟩, hS.F ht⟩) hS.2.2 dX12_choose_300
              · refine lv_iconst (v := kz 0) hx hb dX12_choose_191 rfl ?_
                refine lv_istore_n (lv' := [(3, .int (kz 0)), (2, .int (kz f1)), (0, .ref o), (1, .int (kz k))]) hx hb dX12_choose_192 rfl hl (by decide) rfl (fun ls hl => ?_)
                refine lv_iconst (v := kz 0) hx hb dX12_choose_193 rfl ?_
                refine lv_istore (lv' := [(4, .int (kz 0)), (3, .int (kz 0)), (2, .int (kz f1)), (0, .ref o), (1, .int (kz k))]) hx hb dX12_choose_194 hl (by decide) rfl (fun ls hl => ?_)
                refine iz_loop2 (P := fun N9 n1 i1 H locs ls => 0 ≤ i1 ∧ i1 ≤ 40 ∧ 0 ≤ n1 ∧ n1 ≤ i1 ∧ 40 - i1 ≤ (N9 : Int) ∧ lv_has ls 5 [(4, .int (kz i1)), (3, .int (kz n1)), (2, .int (kz f1)), (0, .ref o), (1, .int (kz k))] ∧ iv (dC, dI) ca A X H ∧ va_at (dC, dI) vwCl (o, .inr (12, mM am (fup zi 46 ((zi 46 - 1) + 1)) zl)) H ∧ va_S A s.heap H locs) 100000 (x0 := 0) (x1 := 0) ?_ ⟨by omega, by omega, by omega, by omega, by omega, lv_sub hl [0, 1, 2, 3, 4] rfl, hI, hO, hS⟩
                intro n_47 n1 i1 H locs ls ⟨n_47f0, n_47f1, n_47f2, n_47f3, n_47f4, hl, hI, hO, hS⟩ ihn_47
                refine lv_iload hx hb dX12_choose_196 (lv_at hl 0 rfl) ?_
                refine lv_aload_n hx hb dX12_choose_198 rfl (lv_at hl 3 rfl) ?_
                refine iz_get (D := (dC, dI)) (ci := 12) (v := .ref (am 41)) (C := RX12) (T := TX12) (N := 49) hx hb hts hin hown hK hO rfl 41 (by decide) hL99 (fun _ h9 => h9) rfl dX12_choose_199 ?_
                refine lv_iload_n hx hb dX12_choose_202 rfl (lv_at hl 4 rfl) ?_
                obtain ⟨f41_48, c_f41_48, k_f41_48⟩ := iv_o20 hI g41
                refine iz_iald hx hb hK 0 c_f41_48 rfl (by omega) (by decide) dX12_choose_203 ?_
                obtain ⟨v_49a, v_49b, v_49c⟩ := k_f41_48 k (by omega)
                obtain ⟨v_49, ev_49⟩ : ∃ z9 : Int, ge1 f41_48 k = z9 := ⟨_, rfl⟩
                rw [ev_49] at v_49a v_49b v_49c ⊢
                refine iz_ge (tgt := 237) hx hb dX12_choose_204 (by decide) (by unfold rg2; omega) (fun br_50 => ?_) (fun br_50 => ?_)
                · refine lv_aload_n hx hb dX12_choose_237 rfl (lv_at hl 3 rfl) ?_
                  refine iz_get (D := (dC, dI)) (ci := 12) (v := .ref (am 19)) (C := RX12) (T := TX12) (N := 49) hx hb hts hin hown hK hO rfl 19 (by decide) hL60 (fun _ h9 => h9) rfl dX12_choose_238 ?_
                  refine lv_aload_n hx hb dX12_choose_241 rfl (lv_at hl 3 rfl) ?_
                  refine iz_get (D := (dC, dI)) (ci := 12) (v := .ref (am 6)) (C := RX12) (T := TX12) (N := 49) hx hb hts hin hown hK hO rfl 6 (by decide) hL23 (fun _ h9 => h9) rfl dX12_choose_242 ?_
                  refine lv_iload_n hx hb dX12_choose_245 rfl (lv_at hl 2 rfl) ?_
                  obtain ⟨f6_51, c_f6_51, k_f6_51⟩ := iv_o20 hI g6
                  refine iz_iald hx hb hK 0 c_f6_51 rfl (by omega) (by decide) dX12_choose_246 ?_
                  obtain ⟨v_52a, v_52b, v_52c⟩ := k_f6_51 f1 (by omega)
                  clear v_52c
                  obtain ⟨v_52, ev_52⟩ : ∃ z9 : Int, ge1 f6_51 f1 = z9 := ⟨_, rfl⟩
                  rw [ev_52] at v_52a v_52b ⊢
                  refine lv_dup2_11 hx hb dX12_choose_247 rfl rfl ?_
                  obtain ⟨f19_53, c_f19_53, k_f19_53⟩ := iv_o20 hI g19
                  refine iz_iald hx hb hK 0 c_f19_53 rfl (by omega) (by decide) dX12_choose_248 ?_
                  obtain ⟨v_54a, v_54b, v_54c⟩ := k_f19_53 v_52 (by omega)
                  clear v_54c
                  obtain ⟨v_54, ev_54⟩ : ∃ z9 : Int, ge1 f19_53 v_52 = z9 := ⟨_, rfl⟩
                  rw [ev_54] at v_54a v_54b ⊢
                  refine lv_iload_n hx hb dX12_choose_249 rfl (lv_at hl 1 rfl) ?_
                  refine iz_iadd hx hb dX12_choose_250 ?_
                  refine iz_any (fun z_55 z_55a z_55b z_55e => ?_)
                  refine iz_iast hx hb hK 0 c_f19_53 hS (iv_A hI g19 (by decide)) rfl (by omega) (by decide) dX12_choose_251 (fun H locs c9 oq hS => ?_)
                  have hI := iv_s20 hI g19 k_f19_53 c9 oq (by omega) (by omega) (by decide) (by omega)
                  have hO := hO.kept (oq _ (iv_ne0 g19 hM.2.1 (by decide)).symm)
                  have c_f41_48 := c_f41_48.kept (oq _ (iv_ne g41 g19 (by decide)))
                  have c_f6_51 := c_f6_51.kept (oq _ (iv_ne g6 g19 (by decide)))
                  clear oq c9
                  refine lv_iload_n hx hb dX12_choose_252 rfl (lv_at hl 1 rfl) ?_
                  refine iz_lez (tgt := 290) hx hb dX12_choose_253 (by decide) (by unfold rg2; omega) (fun br_56 => ?_) (fun br_56 => ?_)
                  · refine lv_iinc (v := kz (f1 + 1)) (lv' := [(2, .int (kz (f1 + 1))), (4, .int (kz i1)), (3, .int (kz n1)), (0, .ref o), (1, .int (kz k))]) hx hb dX12_choose_290 hl (k := 2) rfl (kz_add f1 1) (by decide) rfl (fun ls hl => ?_)
                    refine lv_goto (tgt := 183) hx hb dX12_choose_293 (by decide) ?_
                    exact ihn_45 (n_45 - 1) (by omega) (f1 + 1) _ _ _ ⟨by omega, by omega, by omega, lv_sub hl [0, 3, 4] rfl, hI, hO, hS⟩
                  · refine lv_aload_n hx hb dX12_choose_256 rfl (lv_at hl 3 rfl) ?_
                    refine iz_get (D := (dC, dI)) (ci := 12) (v := .ref (am 7)) (C := RX12) (T := TX12) (N := 49) hx hb hts hin hown hK hO rfl 7 (by decide) hL26 (fun _ h9 => h9) rfl dX12_choose_257 ?_
                    refine lv_iload_n hx hb dX12_choose_260 rfl (lv_at hl 2 rfl) ?_
                    refine lv_aload_n hx hb dX12_choose_261 rfl (lv_at hl 3 rfl) ?_
                    refine iz_get (D := (dC, dI)) (ci := 12) (v := .ref (am 7)) (C := RX12) (T := TX12) (N := 49) hx hb hts hin hown hK hO rfl 7 (by decide) hL26 (fun _ h9 => h9) rfl dX12_choose_262 ?_
                    refine lv_iload_n hx hb dX12_choose_265 rfl (lv_at hl 2 rfl) ?_
                    obtain ⟨f7_57, c_f7_57, k_f7_57⟩ := iv_o20 hI g7
                    refine iz_iald hx hb hK 0 c_f7_57 rfl (by omega) (by decide) dX12_choose_266 ?_
                    obtain ⟨v_58a, v_58b, v_58c⟩ := k_f7_57 f1 (by omega)
                    clear v_58c
                    obtain ⟨v_58, ev_58⟩ : ∃ z9 : Int, ge1 f7_57 f1 = z9 := ⟨_, rfl⟩
                    rw [ev_58] at v_58a v_58b ⊢
                    refine lv_aload_n hx hb dX12_choose_267 rfl (lv_at hl 3 rfl) ?_
                    refine iz_get (D := (dC, dI)) (ci := 12) (v := .int (kz (zi 20))) (C := RX12) (T := TX12) (N := 49) hx hb hts hin hown hK hO rfl 20 (by decide) hL63 (fun _ h9 => h9) rfl dX12_choose_268 ?_
                    refine iz_ge (tgt := 278) hx hb dX12_choose_271 (by decide) (by unfold rg2; omega) (fun br_59 => ?_) (fun br_59 => ?_)
                    · refine lv_aload_n hx hb dX12_choose_278 rfl (lv_at hl 3 rfl) ?_
                      refine iz_get (D := (dC, dI)) (ci := 12) (v := .ref (am 7)) (C := RX12) (T := TX12) (N := 49) hx hb hts hin hown hK hO rfl 7 (by decide) hL26 (fun _ h9 => h9) rfl dX12_choose_279 ?_
                      refine lv_iload_n hx hb dX12_choose_282 rfl (lv_at hl 2 rfl) ?_
                      refine iz_iald hx hb hK 0 c_f7_57 rfl (by omega) (by decide) dX12_choose_283 ?_
                      rw [ev_58]
                      refine lv_aload_n hx hb dX12_choose_284 rfl (lv_at hl 3 rfl) ?_
                      refine iz_get (D := (dC, dI)) (ci := 12) (v := .int (kz (zi 20))) (C := RX12) (T := TX12) (N := 49) hx hb hts hin hown hK hO rfl 20 (by decide) hL63 (fun _ h9 => h9) rfl dX12_choose_285 ?_
                      refine iz_isub hx hb dX12_choose_288 ?_
                      refine iz_any (fun z_60 z_60a z_60b z_60e => ?_)
                      refine iz_iast hx hb hK 0 c_f7_57 hS (iv_A hI g7 (by decide)) rfl (by omega) (by decide) dX12_choose_289 (fun H locs c9 oq hS => ?_)
                      have hI := iv_s20 hI g7 k_f7_57 c9 oq (by omega) (by omega) (by decide) (by omega)
                      have hO := hO.kept (oq _ (iv_ne0 g7 hM.2.1 (by decide)).symm)
                      have c_f41_48 := c_f41_48.kept (oq _ (iv_ne g41 g7 (by decide)))
                      have c_f6_51 := c_f6_51.kept (oq _ (iv_ne g6 g7 (by decide)))
                      clear oq c9
                      refine lv_iinc (v := kz (f1 + 1)) (lv' := [(2, .int (kz (f1 + 1))), (4, .int (kz i1)), (3, .int (kz n1)), (0, .ref o), (1, .int (kz k))]) hx hb dX12_choose_290 hl (k := 2) rfl (kz_add f1 1) (by decide) rfl (fun ls hl => ?_)
                      refine lv_goto (tgt := 183) hx hb dX12_choose_293 (by decide) ?_
                      exact ihn_45 (n_45 - 1) (by omega) (f1 + 1) _ _ _ ⟨by omega, by omega, by omega, lv_sub hl [0, 3, 4] rfl, hI, hO, hS⟩
                    · refine lv_iconst (v := kz 0) hx hb dX12_choose_274 rfl ?_
                      refine lv_goto (tgt := 289) hx hb dX12_choose_275 (by decide) ?_
                      refine iz_iast hx hb hK 0 c_f7_57 hS (iv_A hI g7 (by decide)) rfl (by omega) (by decide) dX12_choose_289 (fun H locs c9 oq hS => ?_)
                      have hI := iv_s20 hI g7 k_f7_57 c9 oq (by omega) (by omega) (by decide) (by omega)
                      have hO := hO.kept (oq _ (iv_ne0 g7 hM.2.1 (by decide)).symm)
                      have c_f41_48 := c_f41_48.kept (oq _ (iv_ne g41 g7 (by decide)))
                      have c_f6_51 := c_f6_51.kept (oq _ (iv_ne g6 g7 (by decide)))
                      clear oq c9
                      refine lv_iinc (v := kz (f1 + 1)) (lv' := [(2, .int (kz (f1 + 1))), (4, .int (kz i1)), (3, .int (kz n1)), (0, .ref o), (1, .int (kz k))]) hx hb dX12_choose_290 hl (k := 2) rfl (kz_add f1 1) (by decide) rfl (fun ls hl => ?_)
                      refine lv_goto (tgt := 183) hx hb dX12_choose_293 (by decide) ?_
                      exact ihn_45 (n_45 - 1) (by omega) (f1 + 1) _ _ _ ⟨by omega, by omega, by omega, lv_sub hl [0, 3, 4] rfl, hI, hO, hS⟩
                · refine lv_iload_n hx hb dX12_choose_207 rfl (lv_at hl 1 rfl) ?_
                  refine lv_aload_n hx hb dX12_choose_208 rfl (lv_at hl 3 rfl) ?_
                  refine iz_get (D := (dC, dI)) (ci := 12) (v := .ref (am 42)) (C := RX12) (T := TX12) (N := 49) hx hb hts hin hown hK hO rfl 42 (by decide) hL102 (fun _ h9 => h9) rfl dX12_choose_209 ?_
                  refine lv_bipush (v := kz 40) hx hb dX12_choose_212 (by decide) ?_
                  refine lv_iload_n hx hb dX12_choose_214 rfl (lv_at hl 4 rfl) ?_
                  refine iz_imul hx hb dX12_choose_215 ?_
                  refine lv_iload hx hb dX12_choose_216 (lv_at hl 0 rfl) ?_
                  refine iz_iadd hx hb dX12_choose_218 ?_
                  obtain ⟨f42_61, c_f42_61, k_f42_61⟩ := iv_o20 hI g42
                  refine iz_iald hx hb hK 0 c_f42_61 rfl (by omega) (by decide) dX12_choose_219 ?_
                  obtain ⟨v_62a, v_62b, v_62c⟩ := k_f42_61 ((40 * k) + i1) (by omega)
                  clear v_62c
                  obtain ⟨v_62, ev_62⟩ : ∃ z9 : Int, ge1 f42_61 ((40 * k) + i1) = z9 := ⟨_, rfl⟩
                  rw [ev_62] at v_62a v_62b ⊢
                  refine lv_iload_n hx hb dX12_choose_220 rfl (lv_at hl 2 rfl) ?_
                  refine iz_ne (tgt := 228) hx hb dX12_choose_221 (by decide) (by unfold rg2; omega) (fun br_63 => ?_) (fun br_63 => ?_)
                  · refine lv_iconst (v := kz 0) hx hb dX12_choose_228 rfl ?_
                    refine iz_iadd hx hb dX12_choose_229 ?_
                    refine lv_istore_n (lv' := [(3, .int (kz (n1 + 0))), (4, .int (kz i1)), (2, .int (kz f1)), (0, .ref o), (1, .int (kz k))]) hx hb dX12_choose_230 rfl hl (by decide) rfl (fun ls hl => ?_)
                    refine lv_iinc (v := kz (i1 + 1)) (lv' := [(4, .int (kz (i1 + 1))), (3, .int (kz (n1 + 0))), (2, .int (kz f1)), (0, .ref o), (1, .int (kz k))]) hx hb dX12_choose_231 hl (k := 1) rfl (kz_add i1 1) (by decide) rfl (fun ls hl => ?_)
                    refine lv_goto (tgt := 196) hx hb dX12_choose_234 (by decide) ?_
                    exact ihn_47 (n_47 - 1) (by omega) (n1 + 0) (i1 + 1) _ _ _ ⟨by omega, by omega, by omega, by omega, by omega, lv_sub hl [0, 1, 2, 3, 4] rfl, hI, hO, hS⟩
                  · refine lv_iconst (v := kz 1) hx hb dX12_choose_224 rfl ?_
                    refine lv_goto (tgt := 229) hx hb dX12_choose_225 (by decide) ?_
                    refine iz_iadd hx hb dX12_choose_229 ?_
                    refine lv_istore_n (lv' := [(3, .int (kz (n1 + 1))), (4, .int (kz i1)), (2, .int (kz f1)), (0, .ref o), (1, .int (kz k))]) hx hb dX12_choose_230 rfl hl (by decide) rfl (fun ls hl => ?_)
                    refine lv_iinc (v := kz (i1 + 1)) (lv' := [(4, .int (kz (i1 + 1))), (3, .int (kz (n1 + 1))), (2, .int (kz f1)), (0, .ref o), (1, .int (kz k))]) hx hb dX12_choose_231 hl (k := 1) rfl (kz_add i1 1) (by decide) rfl (fun ls hl => ?_)
                    refine lv_goto (tgt := 196) hx hb dX12_choose_234 (by decide) ?_
                    exact ihn_47 (n_47 - 1) (by omega) (n1 + 1) (i1 + 1) _ _ _ ⟨by omega, by omega, by omega, by omega, by omega, lv_sub hl [0, 1, 2, 3, 4] rfl, hI, hO, hS⟩
            · refine lv_aload_n hx hb dX12_choose_129 rfl (lv_at hl 1 rfl) ?_
              refine iz_get (D := (dC, dI)) (ci := 12) (v := .ref (am 48)) (C := RX12) (T := TX12) (N := 49) hx hb hts hin hown hK hO rfl 48 (by decide) hL117 (fun _ h9 => h9) rfl dX12_choose_130 ?_
              refine lv_bipush (v := kz 60) hx hb dX12_choose_133 (by decide) ?_
              refine lv_aload_n hx hb dX12_choose_135 rfl (lv_at hl 1 rfl) ?_
              refine iz_get (D := (dC, dI)) (ci := 12) (v := .int (kz (zi 46 - 1))) (C := RX12) (T := TX12) (N := 49) hx hb hts hin hown hK hO rfl 46 (by decide) hL250 (fun _ h9 => h9) rfl dX12_choose_136 ?_
              refine iz_imul hx hb dX12_choose_139 ?_
              refine lv_bipush (v := kz 40) hx hb dX12_choose_140 (by decide) ?_
              refine iz_iadd hx hb dX12_choose_142 ?_
              refine lv_iload_n hx hb dX12_choose_143 rfl (lv_at hl 0 rfl) ?_
              refine iz_iadd hx hb dX12_choose_144 ?_
              refine lv_aload_n hx hb dX12_choose_145 rfl (lv_at hl 1 rfl) ?_
              refine iz_get (D := (dC, dI)) (ci := 12) (v := .ref (am 19)) (C := RX12) (T := TX12) (N := 49) hx hb hts hin hown hK hO rfl 19 (by decide) hL60 (fun _ h9 => h9) rfl dX12_choose_146 ?_
              refine lv_iload_n hx hb dX12_choose_149 rfl (lv_at hl 0 rfl) ?_
              obtain ⟨f19_64, c_f19_64, k_f19_64⟩ := iv_o20 hI g19
              refine iz_iald hx hb hK 0 c_f19_64 rfl (by omega) (by decide) dX12_choose_150 ?_
              obtain ⟨v_65a, v_65b, v_65c⟩ := k_f19_64 t1 (by omega)
              clear v_65c
              obtain ⟨v_65, ev_65⟩ : ∃ z9 : Int, ge1 f19_64 t1 = z9 := ⟨_, rfl⟩
              rw [ev_65] at v_65a v_65b ⊢
              obtain ⟨f48_66, c_f48_66, k_f48_66⟩ := iv_o20 hI g48
              refine iz_any (fun z_67 z_67a z_67b z_67e => ?_)
              refine iz_iast hx hb hK 0 c_f48_66 hS (iv_A hI g48 (by decide)) rfl (by omega) (by decide) dX12_choose_151 (fun H locs c9 oq hS => ?_)
              have hI := iv_s20 hI g48 k_f48_66 c9 oq (by omega) (by omega) (by decide) (by omega)
              have hO := hO.kept (oq _ (iv_ne0 g48 hM.2.1 (by decide)).symm)
              have c_f19_64 := c_f19_64.kept (oq _ (iv_ne g19 g48 (by decide)))
              clear oq c9
              refine lv_iinc (v := kz (t1 + 1)) (lv' := [(2, .int (kz (t1 + 1))), (0, .ref o), (1, .int (kz k))]) hx hb dX12_choose_152 hl (k := 0) rfl (kz_add t1 1) (by decide) rfl (fun ls hl => ?_)
              refine lv_goto (tgt := 123) hx hb dX12_choose_155 (by decide) ?_
              exact ihn_42 (n_42 - 1) (by omega) (t1 + 1) _ _ _ ⟨by omega, by omega, by omega, lv_sub hl [0, 1, 2] rfl, hI, hO, hS⟩
          · refine lv_aload_n hx hb dX12_choose_95 rfl (lv_at hl 1 rfl) ?_
            refine iz_get (D := (dC, dI)) (ci := 12) (v := .ref (am 48)) (C := RX12) (T := TX12) (N := 49) hx hb hts hin hown hK hO rfl 48 (by decide) hL117 (fun _ h9 => h9) rfl dX12_choose_96 ?_
            refine lv_bipush (v := kz 60) hx hb dX12_choose_99 (by decide) ?_
            refine lv_aload_n hx hb dX12_choose_101 rfl (lv_at hl 1 rfl) ?_
            refine iz_get (D := (dC, dI)) (ci := 12) (v := .int (kz (zi 46 - 1))) (C := RX12) (T := TX12) (N := 49) hx hb hts hin hown hK hO rfl 46 (by decide) hL250 (fun _ h9 => h9) rfl dX12_choose_102 ?_
            refine iz_imul hx hb dX12_choose_105 ?_
            refine lv_iload_n hx hb dX12_choose_106 rfl (lv_at hl 0 rfl) ?_
            refine iz_iadd hx hb dX12_choose_107 ?_
            refine lv_aload_n hx hb dX12_choose_108 rfl (lv_at hl 1 rfl) ?_
            refine iz_get (D := (dC, dI)) (ci := 12) (v := .ref (am 7)) (C := RX12) (T := TX12) (N := 49) hx hb hts hin hown hK hO rfl 7 (by decide) hL26 (fun _ h9 => h9) rfl dX12_choose_109 ?_
            refine lv_iload_n hx hb dX12_choose_112 rfl (lv_at hl 0 rfl) ?_
            obtain ⟨f7_68, c_f7_68, k_f7_68⟩ := iv_o20 hI g7
            refine iz_iald hx hb hK 0 c_f7_68 rfl (by omega) (by decide) dX12_choose_113 ?_
            obtain ⟨v_69a, v_69b, v_69c⟩ := k_f7_68 f1 (by omega)
            clear v_69c
            obtain ⟨v_69, ev_69⟩ : ∃ z9 : Int, ge1 f7_68 f1 = z9 := ⟨_, rfl⟩
            rw [ev_69] at v_69a v_69b ⊢
            obtain ⟨f48_70, c_f48_70, k_f48_70⟩ := iv_o20 hI g48
            refine iz_any (fun z_71 z_71a z_71b z_71e => ?_)
            refine iz_iast hx hb hK 0 c_f48_70 hS (iv_A hI g48 (by decide)) rfl (by omega) (by decide) dX12_choose_114 (fun H locs c9 oq hS => ?_)
            have hI := iv_s20 hI g48 k_f48_70 c9 oq (by omega) (by omega) (by decide) (by omega)
            have hO := hO.kept (oq _ (iv_ne0 g48 hM.2.1 (by decide)).symm)
            have c_f7_68 := c_f7_68.kept (oq _ (iv_ne g7 g48 (by decide)))
            clear oq c9
            refine lv_iinc (v := kz (f1 + 1)) (lv' := [(2, .int (kz (f1 + 1))), (0, .ref o), (1, .int (kz k))]) hx hb dX12_choose_115 hl (k := 0) rfl (kz_add f1 1) (by decide) rfl (fun ls hl => ?_)
            refine lv_goto (tgt := 89) hx hb dX12_choose_118 (by decide) ?_
            exact ihn_40 (n_40 - 1) (by omega) (f1 + 1) _ _ _ ⟨by omega, by omega, by omega, lv_sub hl [0, 1, 2] rfl, hI, hO, hS⟩
        · refine lv_aload_n hx hb dX12_choose_57 rfl (lv_at hl 1 rfl) ?_
          refine iz_get (D := (dC, dI)) (ci := 12) (v := .ref (am 47)) (C := RX12) (T := TX12) (N := 49) hx hb hts hin hown hK hO rfl 47 (by decide) hL114 (fun _ h9 => h9) rfl dX12_choose_58 ?_
          refine lv_iload_n hx hb dX12_choose_61 rfl (lv_at hl 0 rfl) ?_
          refine lv_aload_n hx hb dX12_choose_62 rfl (lv_at hl 1 rfl) ?_
          refine iz_get (D := (dC, dI)) (ci := 12) (v := .ref (am 47)) (C := RX12) (T := TX12) (N := 49) hx hb hts hin hown hK hO rfl 47 (by decide) hL114 (fun _ h9 => h9) rfl dX12_choose_63 ?_
          refine lv_iload_n hx hb dX12_choose_66 rfl (lv_at hl 0 rfl) ?_
          refine lv_iconst (v := kz 1) hx hb dX12_choose_67 rfl ?_
          refine iz_iadd hx hb dX12_choose_68 ?_
          obtain ⟨f47_72, c_f47_72, k_f47_72⟩ := iv_o20 hI g47
          refine iz_iald hx hb hK 0 c_f47_72 rfl (by omega) (by decide) dX12_choose_69 ?_
          obtain ⟨v_73a, v_73b, v_73c⟩ := k_f47_72 (i1 + 1) (by omega)
          clear v_73c
          obtain ⟨v_73, ev_73⟩ : ∃ z9 : Int, ge1 f47_72 (i1 + 1) = z9 := ⟨_, rfl⟩
          rw [ev_73] at v_73a v_73b ⊢
          refine iz_iast hx hb hK 0 c_f47_72 hS (iv_A hI g47 (by decide)) rfl (by omega) (by decide) dX12_choose_70 (fun H locs c9 oq hS => ?_)
          have hI := iv_s20 hI g47 k_f47_72 c9 oq (by omega) (by omega) (by decide) (by omega)
          have hO := hO.kept (oq _ (iv_ne0 g47 hM.2.1 (by decide)).symm)
          clear oq c9
          refine lv_iinc (v := kz (i1 + 1)) (lv' := [(2, .int (kz (i1 + 1))), (0, .ref o), (1, .int (kz k))]) hx hb dX12_choose_71 hl (k := 0) rfl (kz_add i1 1) (by decide) rfl (fun ls hl => ?_)
          refine lv_goto (tgt := 51) hx hb dX12_choose_74 (by decide) ?_
          exact ihn_38 (n_38 - 1) (by omega) (i1 + 1) _ _ _ ⟨by omega, by omega, by omega, lv_sub hl [0, 1, 2] rfl, hI, hO, hS⟩
      · refine lv_aload_n hx hb dX12_choose_28 rfl (lv_at hl 1 rfl) ?_
        refine iz_get (D := (dC, dI)) (ci := 12) (v := .ref (am 48)) (C := RX12) (T := TX12) (N := 49) hx hb hts hin hown hK hO rfl 48 (by decide) hL117 (fun _ h9 => h9) rfl dX12_choose_29 ?_
        refine lv_iload_n hx hb dX12_choose_32 rfl (lv_at hl 0 rfl) ?_
        refine lv_aload_n hx hb dX12_choose_33 rfl (lv_at hl 1 rfl) ?_
        refine iz_get (D := (dC, dI)) (ci := 12) (v := .ref (am 48)) (C := RX12) (T := TX12) (N := 49) hx hb hts hin hown hK hO rfl 48 (by decide) hL117 (fun _ h9 => h9) rfl dX12_choose_34 ?_
        refine lv_iload_n hx hb dX12_choose_37 rfl (lv_at hl 0 rfl) ?_
        refine lv_bipush (v := kz 60) hx hb dX12_choose_38 (by decide) ?_
        refine iz_iadd hx hb dX12_choose_40 ?_
        obtain ⟨f48_74, c_f48_74, k_f48_74⟩ := iv_o20 hI g48
        refine iz_iald hx hb hK 0 c_f48_74 rfl (by omega) (by decide) dX12_choose_41 ?_
        obtain ⟨v_75a, v_75b, v_75c⟩ := k_f48_74 (i1 + 60) (by omega)
        clear v_75c
        obtain ⟨v_75, ev_75⟩ : ∃ z9 : Int, ge1 f48_74 (i1 + 60) = z9 := ⟨_, rfl⟩
        rw [ev_75] at v_75a v_75b ⊢
        refine iz_any (fun z_76 z_76a z_76b z_76e => ?_)
        refine iz_iast hx hb hK 0 c_f48_74 hS (iv_A hI g48 (by decide)) rfl (by omega) (by decide) dX12_choose_42 (fun H locs c9 oq hS => ?_)
        have hI := iv_s20 hI g48 k_f48_74 c9 oq (by omega) (by omega) (by decide) (by omega)
        have hO := hO.kept (oq _ (iv_ne0 g48 hM.2.1 (by decide)).symm)
        clear oq c9
        refine lv_iinc (v := kz (i1 + 1)) (lv' := [(2, .int (kz (i1 + 1))), (0, .ref o), (1, .int (kz k))]) hx hb dX12_choose_43 hl (k := 0) rfl (kz_add i1 1) (by decide) rfl (fun ls hl => ?_)
        refine lv_goto (tgt := 21) hx hb dX12_choose_46 (by decide) ?_
        exact ihn_36 (n_36 - 1) (by omega) (i1 + 1) _ _ _ ⟨by omega, by omega, by omega, lv_sub hl [0, 1, 2] rfl, hI, hO, hS⟩
  · refine iz_nez (tgt := 10) hx hb dX12_choose_5 (by decide) (by unfold rg2; omega) (fun q9 => absurd q9 (by decide)) (fun _ => ?_)
    refine lv_iconst (v := kz (-1)) hx hb dX12_choose_8 rfl ?_
    exact W.iret (v := kz (-1)) hx hb hr (fun t9 ht hW => ⟨⟨kz (-1), (zi, zl), rfl, ⟨hz, rfl⟩, va_K.moved hW.alike hK, by rw [ht]; exact ⟨hI, hO⟩⟩, hS.F ht⟩) hS.2.2 dX12_choose_9
set_option maxHeartbeats 4000000 in
set_option maxRecDepth 100000 in
/-- X12_undo -/
theorem m_undo (l : Launch) (dC : Nat → ClassId) (dI : Nat → Nat → Nat) (ca : Nat → ClassId) (A : Nat → Prop) (X : kGh) (o : Nat) (am : Nat → Nat) (zi : Nat → Int) (zl : Nat → Int64) (hM : mS X A o am) (hz : mZ X am zi) : Met l yX12_undo wsX12_undo ({ frames := 0, cells := 0, slots := 0, locals := 0 }) (va_Pc [.ref o] (fun U => va_K (dC, dI) vwCl (k_tys ca) U ∧ mI (dC, dI) ca A X o am zi zl U.heap)) (va_Qi (fun (r : Int32) (u : (Nat → Int) × (Nat → Int64)) => mZ X am u.1 ∧ u.1 20 = zi 20) (fun u U => va_K (dC, dI) vwCl (k_tys ca) U ∧ mI (dC, dI) ca A X o am u.1 u.2 U.heap) A) 0 0 A := by
  refine Met.ofW (cc := cX12_undo) (maxL := 2) (ret := (some .boolean)) (by decide) rfl ?_
  intro p e s m args below meth c s₁ B hml hv
  obtain ⟨rfl, hK, hI, hO⟩ := hv
  have hx := B.exec
  have hb := B.bytes
  have hr := B.returns
  have hts := atoms_spec (ws := wsX12_undo) B.pre
  have hown : s.vm.findClass RX12 = some m.cls := findClass_of_methodNamed B.named
  have hin : ∀ w ∈ u_ws RX12 TX12 49, w ∈ wsX12_undo := by decide +kernel
  have hL250 := hts (.fieldLink RX12 250 "JoinBenchModel" "choices" "I") (by decide +kernel)
  have hL114 := hts (.fieldLink RX12 114 "JoinBenchModel" "formsThen" "[I") (by decide +kernel)
  have hL26 := hts (.fieldLink RX12 26 "JoinBenchModel" "cost" "[I") (by decide +kernel)
  have hL117 := hts (.fieldLink RX12 117 "JoinBenchModel" "were" "[I") (by decide +kernel)
  have hL60 := hts (.fieldLink RX12 60 "JoinBenchModel" "uses" "[I") (by decide +kernel)
  have g47 : X.1 (am 47) = (147, 20, 31, 0, 40) := hM.1 47 _ rfl (by decide)
  have w47 : X.2 (am 47) = 0 := hM.2.2.2 47 _ rfl (by decide) (by decide) (by decide)
  have g7 : X.1 (am 7) = (107, 20, 40, -2147483648, 2147483647) := hM.1 7 _ rfl (by decide)
  have w7 : X.2 (am 7) = 0 := hM.2.2.2 7 _ rfl (by decide) (by decide) (by decide)
  have g48 : X.1 (am 48) = (148, 20, 1860, -2147483648, 2147483647) := hM.1 48 _ rfl (by decide)
  have w48 : X.2 (am 48) = 0 := hM.2.2.2 48 _ rfl (by decide) (by decide) (by decide)
  have g19 : X.1 (am 19) = (119, 20, 20, -2147483648, 2147483647) := hM.1 19 _ rfl (by decide)
  have w19 : X.2 (am 19) = 0 := hM.2.2.2 19 _ rfl (by decide) (by decide) (by decide)
  obtain ⟨⟨z1a, z1b⟩, ⟨z2a, z2b⟩, ⟨z9a, z9b⟩, ⟨z20a, z20b⟩, ⟨z21a, z21b⟩, ⟨z22a, z22b⟩, ⟨z26a, z26b⟩, ⟨z28a, z28b⟩, ⟨z34a, z34b⟩, ⟨z35a, z35b⟩, ⟨z38a, z38b⟩, ⟨z39a, z39b⟩, ⟨z46a, z46b⟩, hzA, hzB⟩ := id hz
  obtain ⟨H, hH⟩ : ∃ H : Heap, H = s.heap := ⟨_, rfl⟩
  have hS : va_S A s.heap H [] := by rw [hH]; exact va_S.rf
  rw [← hH] at hI hO ⊢
  clear hH
  have hl := lv_entry ([.ref o]) (n := 2) (Nat.le_of_ble_eq_true rfl)
  rw [lg_entry_eq]
  generalize (lg_sl ([.ref o]) ++ List.replicate (2 - (lg_sl ([.ref o])).length) Slot.unset).toArray = ls at hl ⊢
  have hl : lv_has ls 2 [(0, .ref o)] := hl
  refine lv_aload_n hx hb dX12_undo_0 rfl (lv_at hl 0 rfl) ?_
  refine iz_get (D := (dC, dI)) (ci := 12) (v := .int (kz (zi 46))) (C := RX12) (T := TX12) (N := 49) hx hb hts hin hown hK hO rfl 46 (by decide) hL250 (fun _ h9 => h9) rfl dX12_undo_1 ?_
  refine iz_nez (tgt := 9) hx hb dX12_undo_4 (by decide) (by unfold rg2; omega) (fun br_1 => ?_) (fun br_1 => ?_)
  · refine lv_aload_n hx hb dX12_undo_9 rfl (lv_at hl 0 rfl) ?_
    refine lv_dup hx hb dX12_undo_10 rfl ?_
    refine iz_get (D := (dC, dI)) (ci := 12) (v := .int (kz (zi 46))) (C := RX12) (T := TX12) (N := 49) hx hb hts hin hown hK hO rfl 46 (by decide) hL250 (fun _ h9 => h9) rfl dX12_undo_11 ?_
    refine lv_iconst (v := kz 1) hx hb dX12_undo_14 rfl ?_
    refine iz_isub hx hb dX12_undo_15 ?_
    refine iz_put (D := (dC, dI)) (ci := 12) (v := .int (kz (zi 46 - 1))) (ty := .int) (C := RX12) (T := TX12) (N := 49) hx hb hts hin tyX12 tyX12_ok nmX12 hown hK hO hS hM.2.2.1 rfl 46 (by decide) hL250 (fun _ h9 => h9) rfl (by decide +kernel) rfl rfl (Nat.le_of_ble_eq_true rfl) dX12_undo_16 (fun H locs hO oq hS => ?_)
    rw [mM_46] at hO
    have hI := iv_skip hI hM.2.1 oq
    have hO : va_at (dC, dI) vwCl (o, .inr (12, mM am (fup zi 46 (zi 46 - 1)) zl)) H := hO
    clear oq
    refine lv_iconst (v := kz 0) hx hb dX12_undo_19 rfl ?_
    refine lv_istore_n (lv' := [(1, .int (kz 0)), (0, .ref o)]) hx hb dX12_undo_20 rfl hl (by decide) rfl (fun ls hl => ?_)
    refine iz_loop1 (P := fun N9 f1 H locs ls => 0 ≤ f1 ∧ f1 ≤ 40 ∧ 40 - f1 ≤ (N9 : Int) ∧ lv_has ls 2 [(1, .int (kz f1)), (0, .ref o)] ∧ iv (dC, dI) ca A X H ∧ va_at (dC, dI) vwCl (o, .inr (12, mM am (fup zi 46 (zi 46 - 1)) zl)) H ∧ va_S A s.heap H locs) 100000 (x0 := 0) ?_ ⟨by omega, by omega, by omega, lv_sub hl [0, 1] rfl, hI, hO, hS⟩
    intro n_2 f1 H locs ls ⟨n_2f0, n_2f1, n_2f2, hl, hI, hO, hS⟩ ihn_2
    refine lv_iload_n hx hb dX12_undo_21 rfl (lv_at hl 0 rfl) ?_
    refine lv_aload_n hx hb dX12_undo_22 rfl (lv_at hl 1 rfl) ?_
    refine iz_get (D := (dC, dI)) (ci := 12) (v := .ref (am 47)) (C := RX12) (T := TX12) (N := 49) hx hb hts hin hown hK hO rfl 47 (by decide) hL114 (fun _ h9 => h9) rfl dX12_undo_23 ?_
    refine lv_aload_n hx hb dX12_undo_26 rfl (lv_at hl 1 rfl) ?_
    refine iz_get (D := (dC, dI)) (ci := 12) (v := .int (kz (zi 46 - 1))) (C := RX12) (T := TX12) (N := 49) hx hb hts hin hown hK hO rfl 46 (by decide) hL250 (fun _ h9 => h9) rfl dX12_undo_27 ?_
    obtain ⟨f47_3, c_f47_3, k_f47_3⟩ := iv_o20 hI g47
    refine iz_iald hx hb hK 0 c_f47_3 rfl (by omega) (by decide) dX12_undo_30 ?_
    obtain ⟨v_4a, v_4b, v_4c⟩ := k_f47_3 (zi 46 - 1) (by omega)
    clear v_4c
    obtain ⟨v_4, ev_4⟩ : ∃ z9 : Int, ge1 f47_3 (zi 46 - 1) = z9 := ⟨_, rfl⟩
    rw [ev_4] at v_4a v_4b ⊢
    refine iz_ge (tgt := 60) hx hb dX12_undo_31 (by decide) (by unfold rg2; omega) (fun br_5 => ?_) (fun br_5 => ?_)
    · refine lv_iconst (v := kz 0) hx hb dX12_undo_60 rfl ?_
      refine lv_istore_n (lv' := [(1, .int (kz 0)), (0, .ref o)]) hx hb dX12_undo_61 rfl hl (by decide) rfl (fun ls hl => ?_)
      refine iz_loop1 (P := fun N9 t1 H locs ls => 0 ≤ t1 ∧ t1 ≤ 20 ∧ 20 - t1 ≤ (N9 : Int) ∧ lv_has ls 2 [(1, .int (kz t1)), (0, .ref o)] ∧ iv (dC, dI) ca A X H ∧ va_at (dC, dI) vwCl (o, .inr (12, mM am (fup zi 46 (zi 46 - 1)) zl)) H ∧ va_S A s.heap H locs) 100000 (x0 := 0) ?_ ⟨by omega, by omega, by omega, lv_sub hl [0, 1] rfl, hI, hO, hS⟩
      intro n_6 t1 H locs ls ⟨n_6f0, n_6f1, n_6f2, hl, hI, hO, hS⟩ ihn_6
      refine lv_iload_n hx hb dX12_undo_62 rfl (lv_at hl 0 rfl) ?_
      refine lv_bipush (v := kz 20) hx hb dX12_undo_63 (by decide) ?_
      refine iz_ge (tgt := 97) hx hb dX12_undo_65 (by decide) (by unfold rg2; omega) (fun br_7 => ?_) (fun br_7 => ?_)
      · refine lv_iconst (v := kz 1) hx hb dX12_undo_97 rfl ?_
        exact W.zret (v := kz 1) hx hb hr (by decide) (fun t9 ht hW => ⟨⟨kz 1, ((fup zi 46 (zi 46 - 1)), zl), rfl, ⟨⟨⟨z1a, z1b⟩, ⟨z2a, z2b⟩, ⟨z9a, z9b⟩, ⟨z20a, z20b⟩, ⟨z21a, z21b⟩, ⟨z22a, z22b⟩, ⟨z26a, z26b⟩, ⟨z28a, z28b⟩, ⟨z34a, z34b⟩, ⟨z35a, z35b⟩, ⟨z38a, z38b⟩, ⟨z39a, z39b⟩, ⟨by show (0 : Int) ≤ (zi 46 - 1); omega, by show (zi 46 - 1) ≤ (30 : Int); omega⟩, by show zi 2 ≤ (X.2 (am 4) : Int); omega, by show zi 39 ≤ (X.2 (am 41) : Int); omega⟩, rfl⟩, va_K.moved hW.alike hK, by rw [ht]; exact ⟨hI, hO⟩⟩, hS.F ht⟩) hS.2.2 dX12_undo_98
      · refine lv_aload_n hx hb dX12_undo_68 rfl (lv_at hl 1 rfl) ?_
        refine iz_get (D := (dC, dI)) (ci := 12) (v := .ref (am 19)) (C := RX12) (T := TX12) (N := 49) hx hb hts hin hown hK hO rfl 19 (by decide) hL60 (fun _ h9 => h9) rfl dX12_undo_69 ?_
        refine lv_iload_n hx hb dX12_undo_72 rfl (lv_at hl 0 rfl) ?_
        refine lv_aload_n hx hb dX12_undo_73 rfl (lv_at hl 1 rfl) ?_
        refine iz_get (D := (dC, dI)) (ci := 12) (v := .ref (am 48)) (C := RX12) (T := TX12) (N := 49) hx hb hts hin hown hK hO rfl 48 (by decide) hL117 (fun _ h9 => h9) rfl dX12_undo_74 ?_
        refine lv_bipush (v := kz 60) hx hb dX12_undo_77 (by decide) ?_
        refine lv_aload_n hx hb dX12_undo_79 rfl (lv_at hl 1 rfl) ?_
        refine iz_get (D := (dC, dI)) (ci := 12) (v := .int (kz (zi 46 - 1))) (C := RX12) (T := TX12) (N := 49) hx hb hts hin hown hK hO rfl 46 (by decide) hL250 (fun _ h9 => h9) rfl dX12_undo_80 ?_
        refine iz_imul hx hb dX12_undo_83 ?_
        refine lv_bipush (v := kz 40) hx hb dX12_undo_84 (by decide) ?_
        refine iz_iadd hx hb dX12_undo_86 ?_
        refine lv_iload_n hx hb dX12_undo_87 rfl (lv_at hl 0 rfl) ?_
        refine iz_iadd hx hb dX12_undo_88 ?_
        obtain ⟨f48_8, c_f48_8, k_f48_8⟩ := iv_o20 hI g48
        refine iz_iald hx hb hK 0 c_f48_8 rfl (by omega) (by decide) dX12_undo_89 ?_
        obtain ⟨v_9a, v_9b, v_9c⟩ := k_f48_8 (((60 * (zi 46 - 1)) + 40) + t1) (by omega)
        clear v_9c
        obtain ⟨v_9, ev_9⟩ : ∃ z9 : Int, ge1 f48_8 (((60 * (zi 46 - 1)) + 40) + t1) = z9 := ⟨_, rfl⟩
        rw [ev_9] at v_9a v_9b ⊢
        obtain ⟨f19_10, c_f19_10, k_f19_10⟩ := iv_o20 hI g19
        refine iz_any (fun z_11 z_11a z_11b z_11e => ?_)
        refine iz_iast hx hb hK 0 c_f19_10 hS (iv_A hI g19 (by decide)) rfl (by omega) (by decide) dX12_undo_90 (fun H locs c9 oq hS => ?_)
        have hI := iv_s20 hI g19 k_f19_10 c9 oq (by omega) (by omega) (by decide) (by omega)
        have hO := hO.kept (oq _ (iv_ne0 g19 hM.2.1 (by decide)).symm)
        have c_f48_8 := c_f48_8.kept (oq _ (iv_ne g48 g19 (by decide)))
        clear oq c9
        refine lv_iinc (v := kz (t1 + 1)) (lv' := [(1, .int (kz (t1 + 1))), (0, .ref o)]) hx hb dX12_undo_91 hl (k := 0) rfl (kz_add t1 1) (by decide) rfl (fun ls hl => ?_)
        refine lv_goto (tgt := 62) hx hb dX12_undo_94 (by decide) ?_
        exact ihn_6 (n_6 - 1) (by omega) (t1 + 1) _ _ _ ⟨by omega, by omega, by omega, lv_sub hl [0, 1] rfl, hI, hO, hS⟩
    · refine lv_aload_n hx hb dX12_undo_34 rfl (lv_at hl 1 rfl) ?_
      refine iz_get (D := (dC, dI)) (ci := 12) (v := .ref (am 7)) (C := RX12) (T := TX12) (N := 49) hx hb hts hin hown hK hO rfl 7 (by decide) hL26 (fun _ h9 => h9) rfl dX12_undo_35 ?_
      refine lv_iload_n hx hb dX12_undo_38 rfl (lv_at hl 0 rfl) ?_
      refine lv_aload_n hx hb dX12_undo_39 rfl (lv_at hl 1 rfl) ?_
      refine iz_get (D := (dC, dI)) (ci := 12) (v := .ref (am 48)) (C := RX12) (T := TX12) (N := 49) hx hb hts hin hown hK hO rfl 48 (by decide) hL117 (fun _ h9 => h9) rfl dX12_undo_40 ?_
      refine lv_bipush (v := kz 60) hx hb dX12_undo_43 (by decide) ?_
      refine lv_aload_n hx hb dX12_undo_45 rfl (lv_at hl 1 rfl) ?_
      refine iz_get (D := (dC, dI)) (ci := 12) (v := .int (kz (zi 46 - 1))) (C := RX12) (T := TX12) (N := 49) hx hb hts hin hown hK hO rfl 46 (by decide) hL250 (fun _ h9 => h9) rfl dX12_undo_46 ?_
      refine iz_imul hx hb dX12_undo_49 ?_
      refine lv_iload_n hx hb dX12_undo_50 rfl (lv_at hl 0 rfl) ?_
      refine iz_iadd hx hb dX12_undo_51 ?_
      obtain ⟨f48_12, c_f48_12, k_f48_12⟩ := iv_o20 hI g48
      refine iz_iald hx hb hK 0 c_f48_12 rfl (by omega) (by decide) dX12_undo_52 ?_
      obtain ⟨v_13a, v_13b, v_13c⟩ := k_f48_12 ((60 * (zi 46 - 1)) + f1) (by omega)
      clear v_13c
      obtain ⟨v_13, ev_13⟩ : ∃ z9 : Int, ge1 f48_12 ((60 * (zi 46 - 1)) + f1) = z9 := ⟨_, rfl⟩
      rw [ev_13] at v_13a v_13b ⊢
      obtain ⟨f7_14, c_f7_14, k_f7_14⟩ := iv_o20 hI g7
      refine iz_any (fun z_15 z_15a z_15b z_15e => ?_)
      refine iz_iast hx hb hK 0 c_f7_14 hS (iv_A hI g7 (by decide)) rfl (by omega) (by decide) dX12_undo_53 (fun H locs c9 oq hS => ?_)
      have hI := iv_s20 hI g7 k_f7_14 c9 oq (by omega) (by omega) (by decide) (by omega)
      have hO := hO.kept (oq _ (iv_ne0 g7 hM.2.1 (by decide)).symm)
      have c_f47_3 := c_f47_3.kept (oq _ (iv_ne g47 g7 (by decide)))
      have c_f48_12 := c_f48_12.kept (oq _ (iv_ne g48 g7 (by decide)))
      clear oq c9
      refine lv_iinc (v := kz (f1 + 1)) (lv' := [(1, .int (kz (f1 + 1))), (0, .ref o)]) hx hb dX12_undo_54 hl (k := 0) rfl (kz_add f1 1) (by decide) rfl (fun ls hl => ?_)
      refine lv_goto (tgt := 21) hx hb dX12_undo_57 (by decide) ?_
      exact ihn_2 (n_2 - 1) (by omega) (f1 + 1) _ _ _ ⟨by omega, by omega, by omega, lv_sub hl [0, 1] rfl, hI, hO, hS⟩
  · refine lv_iconst (v := kz 0) hx hb dX12_undo_7 rfl ?_
    exact W.zret (v := kz 0) hx hb hr (by decide) (fun t9 ht hW => ⟨⟨kz 0, (zi, zl), rfl, ⟨hz, rfl⟩, va_K.moved hW.alike hK, by rw [ht]; exact ⟨hI, hO⟩⟩, hS.F ht⟩) hS.2.2 dX12_undo_8
