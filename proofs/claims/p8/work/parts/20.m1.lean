set_option maxHeartbeats 4000000 in
set_option maxRecDepth 100000 in
/-- X12_in -/
theorem m_in (l : Launch) (v : Int) (lo : Int) (hi : Int) (vr : -2147483648 ≤ v ∧ v ≤ 2147483647) (lor : -2147483648 ≤ lo ∧ lo ≤ 2147483647) (hir : -2147483648 ≤ hi ∧ hi ≤ 2147483647) : Met l yX12_in wsX12_in ({ frames := 0, cells := 0, slots := 0, locals := 0 }) (va_Pc [.int (kz v), .int (kz lo), .int (kz hi)] (fun U => True)) (vp_Si (fun r => bZ r (lo ≤ v ∧ v ≤ hi))) 0 0 (fun _ => False) := by
  refine Met.ofW (cc := cX12_in) (maxL := 3) (ret := (some .boolean)) (by decide) rfl ?_
  intro p e s m args below meth c s₁ B hml hv
  obtain ⟨rfl, -⟩ := hv
  have hx := B.exec
  have hb := B.bytes
  have hr := B.returns
  have hts := atoms_spec (ws := wsX12_in) B.pre
  have hown : s.vm.findClass RX12 = some m.cls := findClass_of_methodNamed B.named
  have hl := lv_entry ([.int (kz v), .int (kz lo), .int (kz hi)]) (n := 3) (Nat.le_of_ble_eq_true rfl)
  rw [lg_entry_eq]
  generalize (lg_sl ([.int (kz v), .int (kz lo), .int (kz hi)]) ++ List.replicate (3 - (lg_sl ([.int (kz v), .int (kz lo), .int (kz hi)])).length) Slot.unset).toArray = ls at hl ⊢
  have hl : lv_has ls 3 [(0, .int (kz v)), (1, .int (kz lo)), (2, .int (kz hi))] := hl
  refine lv_iload_n hx hb dX12_in_0 rfl (lv_at hl 0 rfl) ?_
  refine lv_iload_n hx hb dX12_in_1 rfl (lv_at hl 1 rfl) ?_
  refine iz_lt (tgt := 14) hx hb dX12_in_2 (by decide) (by unfold rg2; omega) (fun br_1 => ?_) (fun br_1 => ?_)
  · refine lv_iconst (v := kz 0) hx hb dX12_in_14 rfl ?_
    exact W.zret (v := kz 0) hx hb hr (by decide) (fun t9 ht hW => ⟨kz 0, rfl, Or.inr ⟨rfl, by omega⟩, ht⟩) (fun q h => absurd h List.not_mem_nil) dX12_in_15
  · refine lv_iload_n hx hb dX12_in_5 rfl (lv_at hl 0 rfl) ?_
    refine lv_iload_n hx hb dX12_in_6 rfl (lv_at hl 2 rfl) ?_
    refine iz_gt (tgt := 14) hx hb dX12_in_7 (by decide) (by unfold rg2; omega) (fun br_2 => ?_) (fun br_2 => ?_)
    · refine lv_iconst (v := kz 0) hx hb dX12_in_14 rfl ?_
      exact W.zret (v := kz 0) hx hb hr (by decide) (fun t9 ht hW => ⟨kz 0, rfl, Or.inr ⟨rfl, by omega⟩, ht⟩) (fun q h => absurd h List.not_mem_nil) dX12_in_15
    · refine lv_iconst (v := kz 1) hx hb dX12_in_10 rfl ?_
      refine lv_goto (tgt := 15) hx hb dX12_in_11 (by decide) ?_
      exact W.zret (v := kz 1) hx hb hr (by decide) (fun t9 ht hW => ⟨kz 1, rfl, Or.inl ⟨rfl, by omega⟩, ht⟩) (fun q h => absurd h List.not_mem_nil) dX12_in_15
set_option maxHeartbeats 4000000 in
set_option maxRecDepth 100000 in
/-- X12_isForm -/
theorem m_isForm (l : Launch) (dC : Nat → ClassId) (dI : Nat → Nat → Nat) (ca : Nat → ClassId) (A : Nat → Prop) (X : kGh) (o : Nat) (am : Nat → Nat) (zi : Nat → Int) (zl : Nat → Int64) (hM : mS X A o am) (hz : mZ X am zi) (f : Int) (fr : -2147483648 ≤ f ∧ f ≤ 2147483647) : Met l yX12_isForm wsX12_isForm ({ frames := 1, cells := 0, slots := 0, locals := 22 }) (va_Pc [.ref o, .int (kz f)] (fun U => va_K (dC, dI) vwCl (k_tys ca) U ∧ mI (dC, dI) ca A X o am zi zl U.heap)) (vp_Si (fun r => bZ r (0 ≤ f ∧ f ≤ zi 2 - 1))) 0 0 (fun _ => False) := by
  refine Met.ofW (cc := cX12_isForm) (maxL := 2) (ret := (some .boolean)) (by decide) rfl ?_
  intro p e s m args below meth c s₁ B hml hv
  obtain ⟨rfl, hK, hI, hO⟩ := hv
  have hx := B.exec
  have hb := B.bytes
  have hr := B.returns
  have hts := atoms_spec (ws := wsX12_isForm) B.pre
  have hown : s.vm.findClass RX12 = some m.cls := findClass_of_methodNamed B.named
  have hin : ∀ w ∈ u_ws RX12 TX12 49, w ∈ wsX12_isForm := by decide +kernel
  have hL131 := hts (.fieldLink RX12 131 "JoinBenchModel" "forms" "I") (by decide +kernel)
  obtain ⟨⟨z1a, z1b⟩, ⟨z2a, z2b⟩, ⟨z9a, z9b⟩, ⟨z20a, z20b⟩, ⟨z21a, z21b⟩, ⟨z22a, z22b⟩, ⟨z26a, z26b⟩, ⟨z28a, z28b⟩, ⟨z34a, z34b⟩, ⟨z35a, z35b⟩, ⟨z38a, z38b⟩, ⟨z39a, z39b⟩, ⟨z46a, z46b⟩, hzA, hzB⟩ := id hz
  have hl := lv_entry ([.ref o, .int (kz f)]) (n := 2) (Nat.le_of_ble_eq_true rfl)
  rw [lg_entry_eq]
  generalize (lg_sl ([.ref o, .int (kz f)]) ++ List.replicate (2 - (lg_sl ([.ref o, .int (kz f)])).length) Slot.unset).toArray = ls at hl ⊢
  have hl : lv_has ls 2 [(0, .ref o), (1, .int (kz f))] := hl
  refine lv_iload_n hx hb dX12_isForm_0 rfl (lv_at hl 1 rfl) ?_
  refine lv_iconst (v := kz 0) hx hb dX12_isForm_1 rfl ?_
  refine lv_aload_n hx hb dX12_isForm_2 rfl (lv_at hl 0 rfl) ?_
  refine iz_get (D := (dC, dI)) (ci := 12) (v := .int (kz (zi 2))) (C := RX12) (T := TX12) (N := 49) hx hb hts hin hown hK hO rfl 2 (by decide) hL131 (fun _ h9 => h9) rfl dX12_isForm_3 ?_
  refine lv_iconst (v := kz 1) hx hb dX12_isForm_6 rfl ?_
  refine iz_isub hx hb dX12_isForm_7 ?_
  refine vp_callSi (va_Run.run (va_runS (As := [.int (kz f), .int (kz 0), .int (kz (zi 2 - 1))]) (rest := []) ⟨hx, hb, hml, hown, hts⟩ (m_in l f 0 (zi 2 - 1) (by omega) (by omega) (by omega)) (va_cwS 3 hts gX12_isForm_X12_in rfl rfl rfl (by decide +kernel) ⟨Nat.le_of_ble_eq_true rfl, Nat.le_of_ble_eq_true rfl⟩) ⟨fun a U g mk q => q, fun U hU hW => ⟨rfl, trivial⟩⟩ rfl rfl hl.1 rfl (lv_room (Nat.le_of_ble_eq_true rfl)) dX12_isForm_8 ⟨Nat.le_of_ble_eq_true rfl, Nat.le_of_ble_eq_true rfl⟩)) (fun r_2 hw_1 => ?_)
  rcases hw_1 with ⟨rfl, hw_1⟩ | ⟨rfl, hw_1⟩
  · exact W.zret (v := kz 1) hx hb hr (by decide) (fun t9 ht hW => ⟨kz 1, rfl, Or.inl ⟨rfl, by omega⟩, ht⟩) (fun q h => absurd h List.not_mem_nil) dX12_isForm_11
  · exact W.zret (v := kz 0) hx hb hr (by decide) (fun t9 ht hW => ⟨kz 0, rfl, Or.inr ⟨rfl, by omega⟩, ht⟩) (fun q h => absurd h List.not_mem_nil) dX12_isForm_11
set_option maxHeartbeats 4000000 in
set_option maxRecDepth 100000 in
/-- X12_isKind -/
theorem m_isKind (l : Launch) (k : Int) (kr : -2147483648 ≤ k ∧ k ≤ 2147483647) : Met l yX12_isKind wsX12_isKind ({ frames := 1, cells := 0, slots := 0, locals := 22 }) (va_Pc [.int (kz k)] (fun U => True)) (vp_Si (fun r => bZ r (0 ≤ k ∧ k ≤ 5))) 0 0 (fun _ => False) := by
  refine Met.ofW (cc := cX12_isKind) (maxL := 1) (ret := (some .boolean)) (by decide) rfl ?_
  intro p e s m args below meth c s₁ B hml hv
  obtain ⟨rfl, -⟩ := hv
  have hx := B.exec
  have hb := B.bytes
  have hr := B.returns
  have hts := atoms_spec (ws := wsX12_isKind) B.pre
  have hown : s.vm.findClass RX12 = some m.cls := findClass_of_methodNamed B.named
  have hl := lv_entry ([.int (kz k)]) (n := 1) (Nat.le_of_ble_eq_true rfl)
  rw [lg_entry_eq]
  generalize (lg_sl ([.int (kz k)]) ++ List.replicate (1 - (lg_sl ([.int (kz k)])).length) Slot.unset).toArray = ls at hl ⊢
  have hl : lv_has ls 1 [(0, .int (kz k))] := hl
  refine lv_iload_n hx hb dX12_isKind_0 rfl (lv_at hl 0 rfl) ?_
  refine lv_iconst (v := kz 0) hx hb dX12_isKind_1 rfl ?_
  refine lv_iconst (v := kz 5) hx hb dX12_isKind_2 rfl ?_
  refine vp_callSi (va_Run.run (va_runS (As := [.int (kz k), .int (kz 0), .int (kz 5)]) (rest := []) ⟨hx, hb, hml, hown, hts⟩ (m_in l k 0 5 (by omega) (by omega) (by omega)) (va_cwS 3 hts gX12_isKind_X12_in rfl rfl rfl (by decide +kernel) ⟨Nat.le_of_ble_eq_true rfl, Nat.le_of_ble_eq_true rfl⟩) ⟨fun a U g mk q => q, fun U hU hW => ⟨rfl, trivial⟩⟩ rfl rfl hl.1 rfl (lv_room (Nat.le_of_ble_eq_true rfl)) dX12_isKind_3 ⟨Nat.le_of_ble_eq_true rfl, Nat.le_of_ble_eq_true rfl⟩)) (fun r_2 hw_1 => ?_)
  rcases hw_1 with ⟨rfl, hw_1⟩ | ⟨rfl, hw_1⟩
  · exact W.zret (v := kz 1) hx hb hr (by decide) (fun t9 ht hW => ⟨kz 1, rfl, Or.inl ⟨rfl, by omega⟩, ht⟩) (fun q h => absurd h List.not_mem_nil) dX12_isKind_6
  · exact W.zret (v := kz 0) hx hb hr (by decide) (fun t9 ht hW => ⟨kz 0, rfl, Or.inr ⟨rfl, by omega⟩, ht⟩) (fun q h => absurd h List.not_mem_nil) dX12_isKind_6
set_option maxHeartbeats 4000000 in
set_option maxRecDepth 100000 in
/-- X12_isDay -/
theorem m_isDay (l : Launch) (k : Int) (kr : -2147483648 ≤ k ∧ k ≤ 2147483647) : Met l yX12_isDay wsX12_isDay ({ frames := 1, cells := 0, slots := 0, locals := 22 }) (va_Pc [.int (kz k)] (fun U => True)) (vp_Si (fun r => bZ r (0 ≤ k ∧ k ≤ 999))) 0 0 (fun _ => False) := by
  refine Met.ofW (cc := cX12_isDay) (maxL := 1) (ret := (some .boolean)) (by decide) rfl ?_
  intro p e s m args below meth c s₁ B hml hv
  obtain ⟨rfl, -⟩ := hv
  have hx := B.exec
  have hb := B.bytes
  have hr := B.returns
  have hts := atoms_spec (ws := wsX12_isDay) B.pre
  have hown : s.vm.findClass RX12 = some m.cls := findClass_of_methodNamed B.named
  have hl := lv_entry ([.int (kz k)]) (n := 1) (Nat.le_of_ble_eq_true rfl)
  rw [lg_entry_eq]
  generalize (lg_sl ([.int (kz k)]) ++ List.replicate (1 - (lg_sl ([.int (kz k)])).length) Slot.unset).toArray = ls at hl ⊢
  have hl : lv_has ls 1 [(0, .int (kz k))] := hl
  refine lv_iload_n hx hb dX12_isDay_0 rfl (lv_at hl 0 rfl) ?_
  refine lv_iconst (v := kz 0) hx hb dX12_isDay_1 rfl ?_
  refine lv_sipush (v := kz 999) hx hb dX12_isDay_2 (by decide) ?_
  refine vp_callSi (va_Run.run (va_runS (As := [.int (kz k), .int (kz 0), .int (kz 999)]) (rest := []) ⟨hx, hb, hml, hown, hts⟩ (m_in l k 0 999 (by omega) (by omega) (by omega)) (va_cwS 3 hts gX12_isDay_X12_in rfl rfl rfl (by decide +kernel) ⟨Nat.le_of_ble_eq_true rfl, Nat.le_of_ble_eq_true rfl⟩) ⟨fun a U g mk q => q, fun U hU hW => ⟨rfl, trivial⟩⟩ rfl rfl hl.1 rfl (lv_room (Nat.le_of_ble_eq_true rfl)) dX12_isDay_5 ⟨Nat.le_of_ble_eq_true rfl, Nat.le_of_ble_eq_true rfl⟩)) (fun r_2 hw_1 => ?_)
  rcases hw_1 with ⟨rfl, hw_1⟩ | ⟨rfl, hw_1⟩
  · exact W.zret (v := kz 1) hx hb hr (by decide) (fun t9 ht hW => ⟨kz 1, rfl, Or.inl ⟨rfl, by omega⟩, ht⟩) (fun q h => absurd h List.not_mem_nil) dX12_isDay_8
  · exact W.zret (v := kz 0) hx hb hr (by decide) (fun t9 ht hW => ⟨kz 0, rfl, Or.inr ⟨rfl, by omega⟩, ht⟩) (fun q h => absurd h List.not_mem_nil) dX12_isDay_8
set_option maxHeartbeats 4000000 in
set_option maxRecDepth 100000 in
/-- X12_four -/
theorem m_four (l : Launch) (dC : Nat → ClassId) (dI : Nat → Nat → Nat) (ca : Nat → ClassId) (A : Nat → Prop) (X : kGh) (o : Nat) (am : Nat → Nat) (zi : Nat → Int) (zl : Nat → Int64) (hM : mS X A o am) (hz : mZ X am zi) (v : Int) (h1 : zi 1 ≤ 56) : Met l yX12_four wsX12_four ({ frames := 0, cells := 0, slots := 0, locals := 0 }) (va_Pc [.ref o, .int (kz v)] (fun U => va_K (dC, dI) vwCl (k_tys ca) U ∧ mI (dC, dI) ca A X o am zi zl U.heap)) (va_Qv (fun (u : (Nat → Int) × (Nat → Int64)) => ∃ t : Int, t = zi 1 + 4 ∧ u.1 = fup zi 1 t ∧ u.2 = zl) (fun u U => va_K (dC, dI) vwCl (k_tys ca) U ∧ mI (dC, dI) ca A X o am u.1 u.2 U.heap) A) 0 0 A := by
  refine Met.ofW (cc := cX12_four) (maxL := 3) (ret := none) (by decide) rfl ?_
  intro p e s m args below meth c s₁ B hml hv
  obtain ⟨rfl, hK, hI, hO⟩ := hv
  have hx := B.exec
  have hb := B.bytes
  have hr := B.returns
  have hts := atoms_spec (ws := wsX12_four) B.pre
  have hown : s.vm.findClass RX12 = some m.cls := findClass_of_methodNamed B.named
  have hin : ∀ w ∈ u_ws RX12 TX12 49, w ∈ wsX12_four := by decide +kernel
  have hL7 := hts (.fieldLink RX12 7 "JoinBenchModel" "tape" "[B") (by decide +kernel)
  have hL120 := hts (.fieldLink RX12 120 "JoinBenchModel" "taped" "I") (by decide +kernel)
  have g0 : X.1 (am 0) = (100, 21, 60, 0, 0) := hM.1 0 _ rfl (by decide)
  obtain ⟨⟨z1a, z1b⟩, ⟨z2a, z2b⟩, ⟨z9a, z9b⟩, ⟨z20a, z20b⟩, ⟨z21a, z21b⟩, ⟨z22a, z22b⟩, ⟨z26a, z26b⟩, ⟨z28a, z28b⟩, ⟨z34a, z34b⟩, ⟨z35a, z35b⟩, ⟨z38a, z38b⟩, ⟨z39a, z39b⟩, ⟨z46a, z46b⟩, hzA, hzB⟩ := id hz
  obtain ⟨H, hH⟩ : ∃ H : Heap, H = s.heap := ⟨_, rfl⟩
  have hS : va_S A s.heap H [] := by rw [hH]; exact va_S.rf
  rw [← hH] at hI hO ⊢
  clear hH
  have hl := lv_entry ([.ref o, .int (kz v)]) (n := 3) (Nat.le_of_ble_eq_true rfl)
  rw [lg_entry_eq]
  generalize (lg_sl ([.ref o, .int (kz v)]) ++ List.replicate (3 - (lg_sl ([.ref o, .int (kz v)])).length) Slot.unset).toArray = ls at hl ⊢
  have hl : lv_has ls 3 [(0, .ref o), (1, .int (kz v))] := hl
  refine lv_bipush (v := kz 24) hx hb dX12_four_0 (by decide) ?_
  refine lv_istore_n (lv' := [(2, .int (kz 24)), (0, .ref o), (1, .int (kz v))]) hx hb dX12_four_2 rfl hl (by decide) rfl (fun ls hl => ?_)
  refine iz_loop2 (P := fun N9 k t H locs ls => 8 * t + k = 8 * zi 1 + 24 ∧ -8 ≤ k ∧ k ≤ 24 ∧ k + 8 ≤ (N9 : Int) ∧ lv_has ls 3 [(2, .int (kz k)), (0, .ref o), (1, .int (kz v))] ∧ iv (dC, dI) ca A X H ∧ va_at (dC, dI) vwCl (o, .inr (12, mM am (fup zi 1 t) zl)) H ∧ va_S A s.heap H locs) 100000 (x0 := 24) (x1 := zi 1) ?_ ⟨by omega, by omega, by omega, by omega, lv_sub hl [0, 1, 2] rfl, hI, hO, hS⟩
  intro n_1 k t H locs ls ⟨n_1f0, n_1f1, n_1f2, n_1f3, hl, hI, hO, hS⟩ ihn_1
  refine lv_iload_n hx hb dX12_four_3 rfl (lv_at hl 0 rfl) ?_
  refine iz_ltz (tgt := 36) hx hb dX12_four_4 (by decide) (by unfold rg2; omega) (fun br_2 => ?_) (fun br_2 => ?_)
  · exact W.vret hx hb hr (fun t9 ht hW => ⟨⟨((fup zi 1 t), zl), rfl, ⟨t, by omega, rfl, rfl⟩, va_K.moved hW.alike hK, by rw [ht]; exact ⟨hI, hO⟩⟩, hS.F ht⟩) hS.2.2 dX12_four_36
  · refine lv_aload_n hx hb dX12_four_7 rfl (lv_at hl 1 rfl) ?_
    refine iz_get (D := (dC, dI)) (ci := 12) (v := .ref (am 0)) (C := RX12) (T := TX12) (N := 49) hx hb hts hin hown hK hO rfl 0 (by decide) hL7 (fun _ h9 => h9) rfl dX12_four_8 ?_
    refine lv_aload_n hx hb dX12_four_11 rfl (lv_at hl 1 rfl) ?_
    refine iz_get (D := (dC, dI)) (ci := 12) (v := .int (kz t)) (C := RX12) (T := TX12) (N := 49) hx hb hts hin hown hK hO rfl 1 (by decide) hL120 (fun _ h9 => h9) rfl dX12_four_12 ?_
    refine lv_iload_n hx hb dX12_four_15 rfl (lv_at hl 2 rfl) ?_
    refine lv_iload_n hx hb dX12_four_16 rfl (lv_at hl 0 rfl) ?_
    refine lv_ishr hx hb dX12_four_17 ?_
    refine iz_any (fun z_3 z_3a z_3b z_3e => ?_)
    refine lv_i2b (v := (kz z_3).toInt8.toInt32) hx hb dX12_four_18 rfl ?_
    refine iz_any (fun z_4 z_4a z_4b z_4e => ?_)
    obtain ⟨f0_5, c_f0_5⟩ := iv_o21 hI g0
    refine iz_bast hx hb hK 1 c_f0_5 hS (iv_A hI g0 (by decide)) rfl (by omega) (by decide) dX12_four_19 (fun H locs c9 oq hS => ?_)
    have hI := iv_s21 hI g0 c9 oq
    have hO := hO.kept (oq _ (iv_ne0 g0 hM.2.1 (by decide)).symm)
    clear oq c9
    refine lv_aload_n hx hb dX12_four_20 rfl (lv_at hl 1 rfl) ?_
    refine lv_dup hx hb dX12_four_21 rfl ?_
    refine iz_get (D := (dC, dI)) (ci := 12) (v := .int (kz t)) (C := RX12) (T := TX12) (N := 49) hx hb hts hin hown hK hO rfl 1 (by decide) hL120 (fun _ h9 => h9) rfl dX12_four_22 ?_
    refine lv_iconst (v := kz 1) hx hb dX12_four_25 rfl ?_
    refine iz_iadd hx hb dX12_four_26 ?_
    refine iz_put (D := (dC, dI)) (ci := 12) (v := .int (kz (t + 1))) (ty := .int) (C := RX12) (T := TX12) (N := 49) hx hb hts hin tyX12 tyX12_ok nmX12 hown hK hO hS hM.2.2.1 rfl 1 (by decide) hL120 (fun _ h9 => h9) rfl (by decide +kernel) rfl rfl (Nat.le_of_ble_eq_true rfl) dX12_four_27 (fun H locs hO oq hS => ?_)
    rw [mM_1] at hO
    have hI := iv_skip hI hM.2.1 oq
    have hO : va_at (dC, dI) vwCl (o, .inr (12, mM am (fup zi 1 (t + 1)) zl)) H := hO
    clear oq
    refine lv_iinc (v := kz (k + (-8))) (lv' := [(2, .int (kz (k + (-8)))), (0, .ref o), (1, .int (kz v))]) hx hb dX12_four_30 hl (k := 0) rfl (kz_add k (-8)) (by decide) rfl (fun ls hl => ?_)
    refine lv_goto (tgt := 3) hx hb dX12_four_33 (by decide) ?_
    exact ihn_1 (n_1 - 1) (by omega) (k + (-8)) (t + 1) _ _ _ ⟨by omega, by omega, by omega, by omega, lv_sub hl [0, 1, 2] rfl, hI, hO, hS⟩
set_option maxHeartbeats 4000000 in
set_option maxRecDepth 100000 in
/-- X12_feed -/
theorem m_feed (l : Launch) (dC : Nat → ClassId) (dI : Nat → Nat → Nat) (ca : Nat → ClassId) (A : Nat → Prop) (X : kGh) (o : Nat) (am : Nat → Nat) (zi : Nat → Int) (zl : Nat → Int64) (hM : mS X A o am) (hz : mZ X am zi) (a1 : Int) (a2 : Int) (a3 : Int) (a4 : Int) (a5 : Int) : Met l yX12_feed wsX12_feed ({ frames := 1, cells := 0, slots := 0, locals := 22 }) (va_Pc [.ref o, .int (kz a1), .int (kz a2), .int (kz a3), .int (kz a4), .int (kz a5)] (fun U => va_K (dC, dI) vwCl (k_tys ca) U ∧ mI (dC, dI) ca A X o am zi zl U.heap)) (va_Qi (fun (r : Int32) (u : (Nat → Int) × (Nat → Int64)) => mZ X am u.1 ∧ u.1 20 = zi 20) (fun u U => va_K (dC, dI) vwCl (k_tys ca) U ∧ mI (dC, dI) ca A X o am u.1 u.2 U.heap) A) 0 0 A := by
  refine Met.ofW (cc := cX12_feed) (maxL := 6) (ret := (some .int)) (by decide) rfl ?_
  intro p e s m args below meth c s₁ B hml hv
  obtain ⟨rfl, hK, hI, hO⟩ := hv
  have hx := B.exec
  have hb := B.bytes
  have hr := B.returns
  have hts := atoms_spec (ws := wsX12_feed) B.pre
  have hown : s.vm.findClass RX12 = some m.cls := findClass_of_methodNamed B.named
  have hin : ∀ w ∈ u_ws RX12 TX12 49, w ∈ wsX12_feed := by decide +kernel
  have hL120 := hts (.fieldLink RX12 120 "JoinBenchModel" "taped" "I") (by decide +kernel)
  obtain ⟨⟨z1a, z1b⟩, ⟨z2a, z2b⟩, ⟨z9a, z9b⟩, ⟨z20a, z20b⟩, ⟨z21a, z21b⟩, ⟨z22a, z22b⟩, ⟨z26a, z26b⟩, ⟨z28a, z28b⟩, ⟨z34a, z34b⟩, ⟨z35a, z35b⟩, ⟨z38a, z38b⟩, ⟨z39a, z39b⟩, ⟨z46a, z46b⟩, hzA, hzB⟩ := id hz
  obtain ⟨H, hH⟩ : ∃ H : Heap, H = s.heap := ⟨_, rfl⟩
  have hS : va_S A s.heap H [] := by rw [hH]; exact va_S.rf
  rw [← hH] at hI hO ⊢
  clear hH
  have hl := lv_entry ([.ref o, .int (kz a1), .int (kz a2), .int (kz a3), .int (kz a4), .int (kz a5)]) (n := 6) (Nat.le_of_ble_eq_true rfl)
  rw [lg_entry_eq]
  generalize (lg_sl ([.ref o, .int (kz a1), .int (kz a2), .int (kz a3), .int (kz a4), .int (kz a5)]) ++ List.replicate (6 - (lg_sl ([.ref o, .int (kz a1), .int (kz a2), .int (kz a3), .int (kz a4), .int (kz a5)])).length) Slot.unset).toArray = ls at hl ⊢
  have hl : lv_has ls 6 [(0, .ref o), (1, .int (kz a1)), (2, .int (kz a2)), (3, .int (kz a3)), (4, .int (kz a4)), (5, .int (kz a5))] := hl
  refine lv_aload_n hx hb dX12_feed_0 rfl (lv_at hl 0 rfl) ?_
  refine iz_get (D := (dC, dI)) (ci := 12) (v := .int (kz (zi 1))) (C := RX12) (T := TX12) (N := 49) hx hb hts hin hown hK hO rfl 1 (by decide) hL120 (fun _ h9 => h9) rfl dX12_feed_1 ?_
  refine lv_bipush (v := kz 20) hx hb dX12_feed_4 (by decide) ?_
  refine iz_iadd hx hb dX12_feed_6 ?_
  refine lv_bipush (v := kz 60) hx hb dX12_feed_7 (by decide) ?_
  refine iz_le (tgt := 14) hx hb dX12_feed_9 (by decide) (by unfold rg2; omega) (fun br_1 => ?_) (fun br_1 => ?_)
  · refine lv_aload_n hx hb dX12_feed_14 rfl (lv_at hl 0 rfl) ?_
    refine lv_iload_n hx hb dX12_feed_15 rfl (lv_at hl 1 rfl) ?_
    refine va_callv (va_runV (As := [.int (kz a1)]) (rest := []) ⟨hx, hb, hml, hown, hts⟩ (m_four l dC dI ca A X o am zi zl hM hz a1 (by show zi 1 ≤ 56; omega)) (cwV 1 hts gX12_feed_X12_four rfl rfl rfl (by decide +kernel) ⟨Nat.le_of_ble_eq_true rfl, Nat.le_of_ble_eq_true rfl⟩) ⟨fun a U g mk q => by obtain ⟨q0, qK, qI⟩ := q; exact ⟨q0, va_K.moved (u := U) (U := U.calling g mk a) (Vm.Alike.refl U.vm) qK, qI⟩, va_recv hK (at_P hO) (ci := 12) (q0 := 0) rfl rfl, fun U hU hW => ⟨rfl, va_K.moved hW.alike hK, by rw [hU]; exact ⟨hI, hO⟩⟩⟩ rfl rfl hl.1 rfl (lv_room (Nat.le_of_ble_eq_true rfl)) dX12_feed_16 ⟨Nat.le_of_ble_eq_true rfl, Nat.le_of_ble_eq_true rfl⟩) hS (fun q _ h => h) (fun q h => h) (fun u t9 H locs ht hvm hw_2 hB hz1 hk1 hS => ?_)
    obtain ⟨-, hI, hO⟩ := hB
    rw [ht] at hI hO
    clear ht hvm hz1 hk1
    obtain ⟨u1, u2⟩ := u
    obtain ⟨t_4, h9, e1, e2⟩ := hw_2
    have ht_4 : t_4 = zi 1 + 4 := h9
    clear h9
    have hO : va_at (dC, dI) vwCl (o, .inr (12, mM am u1 u2)) H := hO
    rw [show u1 = fup zi 1 t_4 from e1, show u2 = zl from e2] at hO
    clear e1 e2
    have hO : va_at (dC, dI) vwCl (o, .inr (12, mM am (fup zi 1 t_4) zl)) H := hO
    refine lv_aload_n hx hb dX12_feed_19 rfl (lv_at hl 0 rfl) ?_
    refine lv_iload_n hx hb dX12_feed_20 rfl (lv_at hl 2 rfl) ?_
    refine va_callv (va_runV (As := [.int (kz a2)]) (rest := []) ⟨hx, hb, hml, hown, hts⟩ (m_four l dC dI ca A X o am (fup zi 1 t_4) zl hM ⟨⟨by show (0 : Int) ≤ t_4; omega, by show t_4 ≤ (60 : Int); omega⟩, ⟨z2a, z2b⟩, ⟨z9a, z9b⟩, ⟨z20a, z20b⟩, ⟨z21a, z21b⟩, ⟨z22a, z22b⟩, ⟨z26a, z26b⟩, ⟨z28a, z28b⟩, ⟨z34a, z34b⟩, ⟨z35a, z35b⟩, ⟨z38a, z38b⟩, ⟨z39a, z39b⟩, ⟨z46a, z46b⟩, by show zi 2 ≤ (X.2 (am 4) : Int); omega, by show zi 39 ≤ (X.2 (am 41) : Int); omega⟩ a2 (by show t_4 ≤ 56; omega)) (cwV 1 hts gX12_feed_X12_four rfl rfl rfl (by decide +kernel) ⟨Nat.le_of_ble_eq_true rfl, Nat.le_of_ble_eq_true rfl⟩) ⟨fun a U g mk q => by obtain ⟨q0, qK, qI⟩ := q; exact ⟨q0, va_K.moved (u := U) (U := U.calling g mk a) (Vm.Alike.refl U.vm) qK, qI⟩, va_recv hK (at_P hO) (ci := 12) (q0 := 0) rfl rfl, fun U hU hW => ⟨rfl, va_K.moved hW.alike hK, by rw [hU]; exact ⟨hI, hO⟩⟩⟩ rfl rfl hl.1 rfl (lv_room (Nat.le_of_ble_eq_true rfl)) dX12_feed_21 ⟨Nat.le_of_ble_eq_true rfl, Nat.le_of_ble_eq_true rfl⟩) hS (fun q _ h => h) (fun q h => h) (fun u t9 H locs ht hvm hw_5 hB hz1 hk1 hS => ?_)
    obtain ⟨-, hI, hO⟩ := hB
    rw [ht] at hI hO
    clear ht hvm hz1 hk1
    obtain ⟨u1, u2⟩ := u
    obtain ⟨t_7, h9, e1, e2⟩ := hw_5
    have ht_7 : t_7 = t_4 + 4 := h9
    clear h9
    have hO : va_at (dC, dI) vwCl (o, .inr (12, mM am u1 u2)) H := hO
    rw [show u1 = fup (fup zi 1 t_4) 1 t_7 from e1, show u2 = zl from e2] at hO
    clear e1 e2
    have hO : va_at (dC, dI) vwCl (o, .inr (12, mM am (fup zi 1 t_7) zl)) H := hO
    refine lv_aload_n hx hb dX12_feed_24 rfl (lv_at hl 0 rfl) ?_
    refine lv_iload_n hx hb dX12_feed_25 rfl (lv_at hl 3 rfl) ?_
    refine va_callv (va_runV (As := [.int (kz a3)]) (rest := []) ⟨hx, hb, hml, hown, hts⟩ (m_four l dC dI ca A X o am (fup zi 1 t_7) zl hM ⟨⟨by show (0 : Int) ≤ t_7; omega, by show t_7 ≤ (60 : Int); omega⟩, ⟨z2a, z2b⟩, ⟨z9a, z9b⟩, ⟨z20a, z20b⟩, ⟨z21a, z21b⟩, ⟨z22a, z22b⟩, ⟨z26a, z26b⟩, ⟨z28a, z28b⟩, ⟨z34a, z34b⟩, ⟨z35a, z35b⟩, ⟨z38a, z38b⟩, ⟨z39a, z39b⟩, ⟨z46a, z46b⟩, by show zi 2 ≤ (X.2 (am 4) : Int); omega, by show zi 39 ≤ (X.2 (am 41) : Int); omega⟩ a3 (by show t_7 ≤ 56; omega)) (cwV 1 hts gX12_feed_X12_four rfl rfl rfl (by decide +kernel) ⟨Nat.le_of_ble_eq_true rfl, Nat.le_of_ble_eq_true rfl⟩) ⟨fun a U g mk q => by obtain ⟨q0, qK, qI⟩ := q; exact ⟨q0, va_K.moved (u := U) (U := U.calling g mk a) (Vm.Alike.refl U.vm) qK, qI⟩, va_recv hK (at_P hO) (ci := 12) (q0 := 0) rfl rfl, fun U hU hW => ⟨rfl, va_K.moved hW.alike hK, by rw [hU]; exact ⟨hI, hO⟩⟩⟩ rfl rfl hl.1 rfl (lv_room (Nat.le_of_ble_eq_true rfl)) dX12_feed_26 ⟨Nat.le_of_ble_eq_true rfl, Nat.le_of_ble_eq_true rfl⟩) hS (fun q _ h => h) (fun q h => h) (fun u t9 H locs ht hvm hw_8 hB hz1 hk1 hS => ?_)
    obtain ⟨-, hI, hO⟩ := hB
    rw [ht] at hI hO
    clear ht hvm hz1 hk1
    obtain ⟨u1, u2⟩ := u
    obtain ⟨t_10, h9, e1, e2⟩ := hw_8
    have ht_10 : t_10 = t_7 + 4 := h9
    clear h9
    have hO : va_at (dC, dI) vwCl (o, .inr (12, mM am u1 u2)) H := hO
    rw [show u1 = fup (fup zi 1 t_7) 1 t_10 from e1, show u2 = zl from e2] at hO
    clear e1 e2
    have hO : va_at (dC, dI) vwCl (o, .inr (12, mM am (fup zi 1 t_10) zl)) H := hO
    refine lv_aload_n hx hb dX12_feed_29 rfl (lv_at hl 0 rfl) ?_
    refine lv_iload hx hb dX12_feed_30 (lv_at hl 4 rfl) ?_
    refine va_callv (va_runV (As := [.int (kz a4)]) (rest := []) ⟨hx, hb, hml, hown, hts⟩ (m_four l dC dI ca A X o am (fup zi 1 t_10) zl hM ⟨⟨by show (0 : Int) ≤ t_10; omega, by show t_10 ≤ (60 : Int); omega⟩, ⟨z2a, z2b⟩, ⟨z9a, z9b⟩, ⟨z20a, z20b⟩, ⟨z21a, z21b⟩, ⟨z22a, z22b⟩, ⟨z26a, z26b⟩, ⟨z28a, z28b⟩, ⟨z34a, z34b⟩, ⟨z35a, z35b⟩, ⟨z38a, z38b⟩, ⟨z39a, z39b⟩, ⟨z46a, z46b⟩, by show zi 2 ≤ (X.2 (am 4) : Int); omega, by show zi 39 ≤ (X.2 (am 41) : Int); omega⟩ a4 (by show t_10 ≤ 56; omega)) (cwV 1 hts gX12_feed_X12_four rfl rfl rfl (by decide +kernel) ⟨Nat.le_of_ble_eq_true rfl, Nat.le_of_ble_eq_true rfl⟩) ⟨fun a U g mk q => by obtain ⟨q0, qK, qI⟩ := q; exact ⟨q0, va_K.moved (u := U) (U := U.calling g mk a) (Vm.Alike.refl U.vm) qK, qI⟩, va_recv hK (at_P hO) (ci := 12) (q0 := 0) rfl rfl, fun U hU hW => ⟨rfl, va_K.moved hW.alike hK, by rw [hU]; exact ⟨hI, hO⟩⟩⟩ rfl rfl hl.1 rfl (lv_room (Nat.le_of_ble_eq_true rfl)) dX12_feed_32 ⟨Nat.le_of_ble_eq_true rfl, Nat.le_of_ble_eq_true rfl⟩) hS (fun q _ h => h) (fun q h => h) (fun u t9 H locs ht hvm hw_11 hB hz1 hk1 hS => ?_)
    obtain ⟨-, hI, hO⟩ := hB
    rw [ht] at hI hO
    clear ht hvm hz1 hk1
    obtain ⟨u1, u2⟩ := u
    obtain ⟨t_13, h9, e1, e2⟩ := hw_11
    have ht_13 : t_13 = t_10 + 4 := h9
    clear h9
    have hO : va_at (dC, dI) vwCl (o, .inr (12, mM am u1 u2)) H := hO
    rw [show u1 = fup (fup zi 1 t_10) 1 t_13 from e1, show u2 = zl from e2] at hO
    clear e1 e2
    have hO : va_at (dC, dI) vwCl (o, .inr (12, mM am (fup zi 1 t_13) zl)) H := hO
    refine lv_aload_n hx hb dX12_feed_35 rfl (lv_at hl 0 rfl) ?_
    refine lv_iload hx hb dX12_feed_36 (lv_at hl 5 rfl) ?_
    refine va_callv (va_runV (As := [.int (kz a5)]) (rest := []) ⟨hx, hb, hml, hown, hts⟩ (m_four l dC dI ca A X o am (fup zi 1 t_13) zl hM ⟨⟨by show (0 : Int) ≤ t_13; omega, by show t_13 ≤ (60 : Int); omega⟩, ⟨z2a, z2b⟩, ⟨z9a, z9b⟩, ⟨z20a, z20b⟩, ⟨z21a, z21b⟩, ⟨z22a, z22b⟩, ⟨z26a, z26b⟩, ⟨z28a, z28b⟩, ⟨z34a, z34b⟩, ⟨z35a, z35b⟩, ⟨z38a, z38b⟩, ⟨z39a, z39b⟩, ⟨z46a, z46b⟩, by show zi 2 ≤ (X.2 (am 4) : Int); omega, by show zi 39 ≤ (X.2 (am 41) : Int); omega⟩ a5 (by show t_13 ≤ 56; omega)) (cwV 1 hts gX12_feed_X12_four rfl rfl rfl (by decide +kernel) ⟨Nat.le_of_ble_eq_true rfl, Nat.le_of_ble_eq_true rfl⟩) ⟨fun a U g mk q => by obtain ⟨q0, qK, qI⟩ := q; exact ⟨q0, va_K.moved (u := U) (U := U.calling g mk a) (Vm.Alike.refl U.vm) qK, qI⟩, va_recv hK (at_P hO) (ci := 12) (q0 := 0) rfl rfl, fun U hU hW => ⟨rfl, va_K.moved hW.alike hK, by rw [hU]; exact ⟨hI, hO⟩⟩⟩ rfl rfl hl.1 rfl (lv_room (Nat.le_of_ble_eq_true rfl)) dX12_feed_38 ⟨Nat.le_of_ble_eq_true rfl, Nat.le_of_ble_eq_true rfl⟩) hS (fun q _ h => h) (fun q h => h) (fun u t9 H locs ht hvm hw_14 hB hz1 hk1 hS => ?_)
    obtain ⟨-, hI, hO⟩ := hB
    rw [ht] at hI hO
    clear ht hvm hz1 hk1
    obtain ⟨u1, u2⟩ := u
    obtain ⟨t_16, h9, e1, e2⟩ := hw_14
    have ht_16 : t_16 = t_13 + 4 := h9
    clear h9
    have hO : va_at (dC, dI) vwCl (o, .inr (12, mM am u1 u2)) H := hO
    rw [show u1 = fup (fup zi 1 t_13) 1 t_16 from e1, show u2 = zl from e2] at hO
    clear e1 e2
    have hO : va_at (dC, dI) vwCl (o, .inr (12, mM am (fup zi 1 t_16) zl)) H := hO
    refine lv_aload_n hx hb dX12_feed_41 rfl (lv_at hl 0 rfl) ?_
    refine iz_get (D := (dC, dI)) (ci := 12) (v := .int (kz t_16)) (C := RX12) (T := TX12) (N := 49) hx hb hts hin hown hK hO rfl 1 (by decide) hL120 (fun _ h9 => h9) rfl dX12_feed_42 ?_
    exact W.iret (v := kz t_16) hx hb hr (fun t9 ht hW => ⟨⟨kz t_16, ((fup zi 1 t_16), zl), rfl, ⟨⟨⟨by show (0 : Int) ≤ t_16; omega, by show t_16 ≤ (60 : Int); omega⟩, ⟨z2a, z2b⟩, ⟨z9a, z9b⟩, ⟨z20a, z20b⟩, ⟨z21a, z21b⟩, ⟨z22a, z22b⟩, ⟨z26a, z26b⟩, ⟨z28a, z28b⟩, ⟨z34a, z34b⟩, ⟨z35a, z35b⟩, ⟨z38a, z38b⟩, ⟨z39a, z39b⟩, ⟨z46a, z46b⟩, by show zi 2 ≤ (X.2 (am 4) : Int); omega, by show zi 39 ≤ (X.2 (am 41) : Int); omega⟩, rfl⟩, va_K.moved hW.alike hK, by rw [ht]; exact ⟨hI, hO⟩⟩, hS.F ht⟩) hS.2.2 dX12_feed_45
  · refine lv_iconst (v := kz (-1)) hx hb dX12_feed_12 rfl ?_
    exact W.iret (v := kz (-1)) hx hb hr (fun t9 ht hW => ⟨⟨kz (-1), (zi, zl), rfl, ⟨hz, rfl⟩, va_K.moved hW.alike hK, by rw [ht]; exact ⟨hI, hO⟩⟩, hS.F ht⟩) hS.2.2 dX12_feed_13
set_option maxHeartbeats 4000000 in
set_option maxRecDepth 100000 in
/-- X12_end -/
theorem m_end (l : Launch) (dC : Nat → ClassId) (dI : Nat → Nat → Nat) (ca : Nat → ClassId) (A : Nat → Prop) (X : kGh) (o : Nat) (am : Nat → Nat) (zi : Nat → Int) (zl : Nat → Int64) (hM : mS X A o am) (hz : mZ X am zi) (n1 : Int) (n1r : -2147483648 ≤ n1 ∧ n1 ≤ 2147483647) : Met l yX12_end wsX12_end ({ frames := 0, cells := 0, slots := 0, locals := 0 }) (va_Pc [.ref o, .int (kz n1)] (fun U => va_K (dC, dI) vwCl (k_tys ca) U ∧ mI (dC, dI) ca A X o am zi zl U.heap)) (va_Qi (fun (r : Int32) (u : (Nat → Int) × (Nat → Int64)) => mZ X am u.1 ∧ u.1 20 = zi 20) (fun u U => va_K (dC, dI) vwCl (k_tys ca) U ∧ mI (dC, dI) ca A X o am u.1 u.2 U.heap) A) 0 0 A := by
  refine Met.ofW (cc := cX12_end) (maxL := 2) (ret := (some .int)) (by decide) rfl ?_
  intro p e s m args below meth c s₁ B hml hv
  obtain ⟨rfl, hK, hI, hO⟩ := hv
  have hx := B.exec
  have hb := B.bytes
  have hr := B.returns
  have hts := atoms_spec (ws := wsX12_end) B.pre
  have hown : s.vm.findClass RX12 = some m.cls := findClass_of_methodNamed B.named
  have hin : ∀ w ∈ u_ws RX12 TX12 49, w ∈ wsX12_end := by decide +kernel
  have hL120 := hts (.fieldLink RX12 120 "JoinBenchModel" "taped" "I") (by decide +kernel)
  obtain ⟨⟨z1a, z1b⟩, ⟨z2a, z2b⟩, ⟨z9a, z9b⟩, ⟨z20a, z20b⟩, ⟨z21a, z21b⟩, ⟨z22a, z22b⟩, ⟨z26a, z26b⟩, ⟨z28a, z28b⟩, ⟨z34a, z34b⟩, ⟨z35a, z35b⟩, ⟨z38a, z38b⟩, ⟨z39a, z39b⟩, ⟨z46a, z46b⟩, hzA, hzB⟩ := id hz
  obtain ⟨H, hH⟩ : ∃ H : Heap, H = s.heap := ⟨_, rfl⟩
  have hS : va_S A s.heap H [] := by rw [hH]; exact va_S.rf
  rw [← hH] at hI hO ⊢
  clear hH
  have hl := lv_entry ([.ref o, .int (kz n1)]) (n := 2) (Nat.le_of_ble_eq_true rfl)
  rw [lg_entry_eq]
  generalize (lg_sl ([.ref o, .int (kz n1)]) ++ List.replicate (2 - (lg_sl ([.ref o, .int (kz n1)])).length) Slot.unset).toArray = ls at hl ⊢
  have hl : lv_has ls 2 [(0, .ref o), (1, .int (kz n1))] := hl
  refine lv_iload_n hx hb dX12_end_0 rfl (lv_at hl 1 rfl) ?_
  refine iz_ltz (tgt := 12) hx hb dX12_end_1 (by decide) (by unfold rg2; omega) (fun br_1 => ?_) (fun br_1 => ?_)
  · refine lv_iconst (v := kz (-1)) hx hb dX12_end_12 rfl ?_
    exact W.iret (v := kz (-1)) hx hb hr (fun t9 ht hW => ⟨⟨kz (-1), (zi, zl), rfl, ⟨hz, rfl⟩, va_K.moved hW.alike hK, by rw [ht]; exact ⟨hI, hO⟩⟩, hS.F ht⟩) hS.2.2 dX12_end_13
  · refine lv_iload_n hx hb dX12_end_4 rfl (lv_at hl 1 rfl) ?_
    refine lv_aload_n hx hb dX12_end_5 rfl (lv_at hl 0 rfl) ?_
    refine iz_get (D := (dC, dI)) (ci := 12) (v := .int (kz (zi 1))) (C := RX12) (T := TX12) (N := 49) hx hb hts hin hown hK hO rfl 1 (by decide) hL120 (fun _ h9 => h9) rfl dX12_end_6 ?_
    refine iz_le (tgt := 14) hx hb dX12_end_9 (by decide) (by unfold rg2; omega) (fun br_2 => ?_) (fun br_2 => ?_)
    · refine lv_aload_n hx hb dX12_end_14 rfl (lv_at hl 0 rfl) ?_
      refine lv_iload_n hx hb dX12_end_15 rfl (lv_at hl 1 rfl) ?_
      refine iz_put (D := (dC, dI)) (ci := 12) (v := .int (kz n1)) (ty := .int) (C := RX12) (T := TX12) (N := 49) hx hb hts hin tyX12 tyX12_ok nmX12 hown hK hO hS hM.2.2.1 rfl 1 (by decide) hL120 (fun _ h9 => h9) rfl (by decide +kernel) rfl rfl (Nat.le_of_ble_eq_true rfl) dX12_end_16 (fun H locs hO oq hS => ?_)
      rw [mM_1] at hO
      have hI := iv_skip hI hM.2.1 oq
      have hO : va_at (dC, dI) vwCl (o, .inr (12, mM am (fup zi 1 n1) zl)) H := hO
      clear oq
      refine lv_iload_n hx hb dX12_end_19 rfl (lv_at hl 1 rfl) ?_
      exact W.iret (v := kz n1) hx hb hr (fun t9 ht hW => ⟨⟨kz n1, ((fup zi 1 n1), zl), rfl, ⟨⟨⟨by show (0 : Int) ≤ n1; omega, by show n1 ≤ (60 : Int); omega⟩, ⟨z2a, z2b⟩, ⟨z9a, z9b⟩, ⟨z20a, z20b⟩, ⟨z21a, z21b⟩, ⟨z22a, z22b⟩, ⟨z26a, z26b⟩, ⟨z28a, z28b⟩, ⟨z34a, z34b⟩, ⟨z35a, z35b⟩, ⟨z38a, z38b⟩, ⟨z39a, z39b⟩, ⟨z46a, z46b⟩, by show zi 2 ≤ (X.2 (am 4) : Int); omega, by show zi 39 ≤ (X.2 (am 41) : Int); omega⟩, rfl⟩, va_K.moved hW.alike hK, by rw [ht]; exact ⟨hI, hO⟩⟩, hS.F ht⟩) hS.2.2 dX12_end_20
    · refine lv_iconst (v := kz (-1)) hx hb dX12_end_12 rfl ?_
      exact W.iret (v := kz (-1)) hx hb hr (fun t9 ht hW => ⟨⟨kz (-1), (zi, zl), rfl, ⟨hz, rfl⟩, va_K.moved hW.alike hK, by rw [ht]; exact ⟨hI, hO⟩⟩, hS.F ht⟩) hS.2.2 dX12_end_13
set_option maxHeartbeats 4000000 in
set_option maxRecDepth 100000 in
/-- X12_isText -/
theorem m_isText (l : Launch) (dC : Nat → ClassId) (dI : Nat → Nat → Nat) (ca : Nat → ClassId) (A : Nat → Prop) (X : kGh) (o : Nat) (am : Nat → Nat) (zi : Nat → Int) (zl : Nat → Int64) (hM : mS X A o am) (hz : mZ X am zi) : Met l yX12_isText wsX12_isText ({ frames := 0, cells := 0, slots := 0, locals := 0 }) (va_Pc [.ref o] (fun U => va_K (dC, dI) vwCl (k_tys ca) U ∧ mI (dC, dI) ca A X o am zi zl U.heap)) (vp_Si (fun r => r = kz 1 ∨ r = kz 0)) 0 0 (fun _ => False) := by
  refine Met.ofW (cc := cX12_isText) (maxL := 2) (ret := (some .boolean)) (by decide) rfl ?_
  intro p e s m args below meth c s₁ B hml hv
  obtain ⟨rfl, hK, hI, hO⟩ := hv
  have hx := B.exec
  have hb := B.bytes
  have hr := B.returns
  have hts := atoms_spec (ws := wsX12_isText) B.pre
  have hown : s.vm.findClass RX12 = some m.cls := findClass_of_methodNamed B.named
  have hin : ∀ w ∈ u_ws RX12 TX12 49, w ∈ wsX12_isText := by decide +kernel
  have hL120 := hts (.fieldLink RX12 120 "JoinBenchModel" "taped" "I") (by decide +kernel)
  have hL7 := hts (.fieldLink RX12 7 "JoinBenchModel" "tape" "[B") (by decide +kernel)
  have g0 : X.1 (am 0) = (100, 21, 60, 0, 0) := hM.1 0 _ rfl (by decide)
  obtain ⟨⟨z1a, z1b⟩, ⟨z2a, z2b⟩, ⟨z9a, z9b⟩, ⟨z20a, z20b⟩, ⟨z21a, z21b⟩, ⟨z22a, z22b⟩, ⟨z26a, z26b⟩, ⟨z28a, z28b⟩, ⟨z34a, z34b⟩, ⟨z35a, z35b⟩, ⟨z38a, z38b⟩, ⟨z39a, z39b⟩, ⟨z46a, z46b⟩, hzA, hzB⟩ := id hz
  have hl := lv_entry ([.ref o]) (n := 2) (Nat.le_of_ble_eq_true rfl)
  rw [lg_entry_eq]
  generalize (lg_sl ([.ref o]) ++ List.replicate (2 - (lg_sl ([.ref o])).length) Slot.unset).toArray = ls at hl ⊢
  have hl : lv_has ls 2 [(0, .ref o)] := hl
  refine lv_iconst (v := kz 0) hx hb dX12_isText_0 rfl ?_
  refine lv_istore_n (lv' := [(1, .int (kz 0)), (0, .ref o)]) hx hb dX12_isText_1 rfl hl (by decide) rfl (fun ls hl => ?_)
  refine iz_loopS1 (P := fun N9 k ls => 0 ≤ k ∧ k ≤ 60 ∧ 60 - k ≤ (N9 : Int) ∧ lv_has ls 2 [(1, .int (kz k)), (0, .ref o)]) 100000 (x0 := 0) ?_ ⟨by omega, by omega, by omega, lv_sub hl [0, 1] rfl⟩
  intro n_1 k ls ⟨n_1f0, n_1f1, n_1f2, hl⟩ ihn_1
  refine lv_iload_n hx hb dX12_isText_2 rfl (lv_at hl 0 rfl) ?_
  refine lv_aload_n hx hb dX12_isText_3 rfl (lv_at hl 1 rfl) ?_
  refine iz_get (D := (dC, dI)) (ci := 12) (v := .int (kz (zi 1))) (C := RX12) (T := TX12) (N := 49) hx hb hts hin hown hK hO rfl 1 (by decide) hL120 (fun _ h9 => h9) rfl dX12_isText_4 ?_
  refine iz_ge (tgt := 40) hx hb dX12_isText_7 (by decide) (by unfold rg2; omega) (fun br_2 => ?_) (fun br_2 => ?_)
  · refine lv_iconst (v := kz 1) hx hb dX12_isText_40 rfl ?_
    exact W.zret (v := kz 1) hx hb hr (by decide) (fun t9 ht hW => ⟨kz 1, rfl, Or.inl rfl, ht⟩) (fun q h => absurd h List.not_mem_nil) dX12_isText_41
  · refine lv_aload_n hx hb dX12_isText_10 rfl (lv_at hl 1 rfl) ?_
    refine iz_get (D := (dC, dI)) (ci := 12) (v := .ref (am 0)) (C := RX12) (T := TX12) (N := 49) hx hb hts hin hown hK hO rfl 0 (by decide) hL7 (fun _ h9 => h9) rfl dX12_isText_11 ?_
    refine lv_iload_n hx hb dX12_isText_14 rfl (lv_at hl 0 rfl) ?_
    obtain ⟨f0_3, c_f0_3⟩ := iv_o21 hI g0
    refine iz_bald hx hb hK 1 c_f0_3 rfl (by omega) (by decide) dX12_isText_15 ?_
    have v_4a := kz_lo (f0_3 (Int.toNat k))
    have v_4b := kz_hi (f0_3 (Int.toNat k))
    change _ ≤ ge1 f0_3 k at v_4a
    change ge1 f0_3 k ≤ _ at v_4b
    obtain ⟨v_4, ev_4⟩ : ∃ z9 : Int, ge1 f0_3 k = z9 := ⟨_, rfl⟩
    rw [ev_4] at v_4a v_4b ⊢
    refine lv_bipush (v := kz 97) hx hb dX12_isText_16 (by decide) ?_
    refine iz_lt (tgt := 32) hx hb dX12_isText_18 (by decide) (by unfold rg2; omega) (fun br_5 => ?_) (fun br_5 => ?_)
    · refine lv_iconst (v := kz 0) hx hb dX12_isText_32 rfl ?_
      exact W.zret (v := kz 0) hx hb hr (by decide) (fun t9 ht hW => ⟨kz 0, rfl, Or.inr rfl, ht⟩) (fun q h => absurd h List.not_mem_nil) dX12_isText_33
    · refine lv_aload_n hx hb dX12_isText_21 rfl (lv_at hl 1 rfl) ?_
      refine iz_get (D := (dC, dI)) (ci := 12) (v := .ref (am 0)) (C := RX12) (T := TX12) (N := 49) hx hb hts hin hown hK hO rfl 0 (by decide) hL7 (fun _ h9 => h9) rfl dX12_isText_22 ?_
      refine lv_iload_n hx hb dX12_isText_25 rfl (lv_at hl 0 rfl) ?_
      refine iz_bald hx hb hK 1 c_f0_3 rfl (by omega) (by decide) dX12_isText_26 ?_
      rw [ev_4]
      refine lv_bipush (v := kz 122) hx hb dX12_isText_27 (by decide) ?_
      refine iz_le (tgt := 34) hx hb dX12_isText_29 (by decide) (by unfold rg2; omega) (fun br_6 => ?_) (fun br_6 => ?_)
      · refine lv_iinc (v := kz (k + 1)) (lv' := [(1, .int (kz (k + 1))), (0, .ref o)]) hx hb dX12_isText_34 hl (k := 0) rfl (kz_add k 1) (by decide) rfl (fun ls hl => ?_)
        refine lv_goto (tgt := 2) hx hb dX12_isText_37 (by decide) ?_
        exact ihn_1 (n_1 - 1) (by omega) (k + 1) _ ⟨by omega, by omega, by omega, lv_sub hl [0, 1] rfl⟩
      · refine lv_iconst (v := kz 0) hx hb dX12_isText_32 rfl ?_
        exact W.zret (v := kz 0) hx hb hr (by decide) (fun t9 ht hW => ⟨kz 0, rfl, Or.inr rfl, ht⟩) (fun q h => absurd h List.not_mem_nil) dX12_isText_33
