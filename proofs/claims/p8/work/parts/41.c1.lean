set_option maxHeartbeats 4000000 in
set_option maxRecDepth 100000 in
/-- X11_within -/
theorem c_within (l : Launch) (v : Int) (lo : Int) (hi : Int) (vr : -2147483648 ≤ v ∧ v ≤ 2147483647) (lor : -2147483648 ≤ lo ∧ lo ≤ 2147483647) (hir : -2147483648 ≤ hi ∧ hi ≤ 2147483647) : Met l yX11_within wsX11_within ({ frames := 0, cells := 0, slots := 0, locals := 0 }) (va_Pc [.int (kz v), .int (kz lo), .int (kz hi)] (fun U => True)) (vp_Si (fun r => bZ r (lo ≤ v ∧ v ≤ hi))) 0 0 (fun _ => False) := by
  refine Met.ofW (cc := cX11_within) (maxL := 3) (ret := (some .boolean)) (by decide) rfl ?_
  intro p e s m args below meth c s₁ B hml hv
  obtain ⟨rfl, -⟩ := hv
  have hx := B.exec
  have hb := B.bytes
  have hr := B.returns
  have hts := atoms_spec (ws := wsX11_within) B.pre
  have hown : s.vm.findClass RX11 = some m.cls := findClass_of_methodNamed B.named
  have hl := lv_entry ([.int (kz v), .int (kz lo), .int (kz hi)]) (n := 3) (Nat.le_of_ble_eq_true rfl)
  rw [lg_entry_eq]
  generalize (lg_sl ([.int (kz v), .int (kz lo), .int (kz hi)]) ++ List.replicate (3 - (lg_sl ([.int (kz v), .int (kz lo), .int (kz hi)])).length) Slot.unset).toArray = ls at hl ⊢
  have hl : lv_has ls 3 [(0, .int (kz v)), (1, .int (kz lo)), (2, .int (kz hi))] := hl
  refine lv_iload_n hx hb dX11_within_0 rfl (lv_at hl 0 rfl) ?_
  refine lv_iload_n hx hb dX11_within_1 rfl (lv_at hl 1 rfl) ?_
  refine iz_lt (tgt := 14) hx hb dX11_within_2 (by decide) (by unfold rg2; omega) (fun br_1 => ?_) (fun br_1 => ?_)
  · refine lv_iconst (v := kz 0) hx hb dX11_within_14 rfl ?_
    exact W.zret (v := kz 0) hx hb hr (by decide) (fun t9 ht hW => ⟨kz 0, rfl, Or.inr ⟨rfl, by omega⟩, ht⟩) (fun q h => absurd h List.not_mem_nil) dX11_within_15
  · refine lv_iload_n hx hb dX11_within_5 rfl (lv_at hl 0 rfl) ?_
    refine lv_iload_n hx hb dX11_within_6 rfl (lv_at hl 2 rfl) ?_
    refine iz_gt (tgt := 14) hx hb dX11_within_7 (by decide) (by unfold rg2; omega) (fun br_2 => ?_) (fun br_2 => ?_)
    · refine lv_iconst (v := kz 0) hx hb dX11_within_14 rfl ?_
      exact W.zret (v := kz 0) hx hb hr (by decide) (fun t9 ht hW => ⟨kz 0, rfl, Or.inr ⟨rfl, by omega⟩, ht⟩) (fun q h => absurd h List.not_mem_nil) dX11_within_15
    · refine lv_iconst (v := kz 1) hx hb dX11_within_10 rfl ?_
      refine lv_goto (tgt := 15) hx hb dX11_within_11 (by decide) ?_
      exact W.zret (v := kz 1) hx hb hr (by decide) (fun t9 ht hW => ⟨kz 1, rfl, Or.inl ⟨rfl, by omega⟩, ht⟩) (fun q h => absurd h List.not_mem_nil) dX11_within_15
set_option maxHeartbeats 4000000 in
set_option maxRecDepth 100000 in
/-- X11_isKind -/
theorem c_isKind (l : Launch) (v : Int) (vr : -2147483648 ≤ v ∧ v ≤ 2147483647) : Met l yX11_isKind wsX11_isKind ({ frames := 1, cells := 0, slots := 0, locals := 22 }) (va_Pc [.int (kz v)] (fun U => True)) (vp_Si (fun r => bZ r (0 ≤ v ∧ v ≤ 5))) 0 0 (fun _ => False) := by
  refine Met.ofW (cc := cX11_isKind) (maxL := 1) (ret := (some .boolean)) (by decide) rfl ?_
  intro p e s m args below meth c s₁ B hml hv
  obtain ⟨rfl, -⟩ := hv
  have hx := B.exec
  have hb := B.bytes
  have hr := B.returns
  have hts := atoms_spec (ws := wsX11_isKind) B.pre
  have hown : s.vm.findClass RX11 = some m.cls := findClass_of_methodNamed B.named
  have hl := lv_entry ([.int (kz v)]) (n := 1) (Nat.le_of_ble_eq_true rfl)
  rw [lg_entry_eq]
  generalize (lg_sl ([.int (kz v)]) ++ List.replicate (1 - (lg_sl ([.int (kz v)])).length) Slot.unset).toArray = ls at hl ⊢
  have hl : lv_has ls 1 [(0, .int (kz v))] := hl
  refine lv_iload_n hx hb dX11_isKind_0 rfl (lv_at hl 0 rfl) ?_
  refine lv_iconst (v := kz 0) hx hb dX11_isKind_1 rfl ?_
  refine lv_iconst (v := kz 5) hx hb dX11_isKind_2 rfl ?_
  refine vp_callSi (va_Run.run (va_runS (As := [.int (kz v), .int (kz 0), .int (kz 5)]) (rest := []) ⟨hx, hb, hml, hown, hts⟩ (c_within l v 0 5 (by omega) (by omega) (by omega)) (va_cwS 3 hts gX11_isKind_X11_within rfl rfl rfl (by decide +kernel) ⟨Nat.le_of_ble_eq_true rfl, Nat.le_of_ble_eq_true rfl⟩) ⟨fun a U g mk q => q, fun U hU hW => ⟨rfl, trivial⟩⟩ rfl rfl hl.1 rfl (lv_room (Nat.le_of_ble_eq_true rfl)) dX11_isKind_3 ⟨Nat.le_of_ble_eq_true rfl, Nat.le_of_ble_eq_true rfl⟩)) (fun r_2 hw_1 => ?_)
  rcases hw_1 with ⟨rfl, hw_1⟩ | ⟨rfl, hw_1⟩
  · exact W.zret (v := kz 1) hx hb hr (by decide) (fun t9 ht hW => ⟨kz 1, rfl, Or.inl ⟨rfl, by omega⟩, ht⟩) (fun q h => absurd h List.not_mem_nil) dX11_isKind_6
  · exact W.zret (v := kz 0) hx hb hr (by decide) (fun t9 ht hW => ⟨kz 0, rfl, Or.inr ⟨rfl, by omega⟩, ht⟩) (fun q h => absurd h List.not_mem_nil) dX11_isKind_6
set_option maxHeartbeats 4000000 in
set_option maxRecDepth 100000 in
/-- X11_isStem -/
theorem c_isStem (l : Launch) (v : Int) (vr : -2147483648 ≤ v ∧ v ≤ 2147483647) : Met l yX11_isStem wsX11_isStem ({ frames := 1, cells := 0, slots := 0, locals := 22 }) (va_Pc [.int (kz v)] (fun U => True)) (vp_Si (fun r => bZ r (0 ≤ v ∧ v ≤ 19))) 0 0 (fun _ => False) := by
  refine Met.ofW (cc := cX11_isStem) (maxL := 1) (ret := (some .boolean)) (by decide) rfl ?_
  intro p e s m args below meth c s₁ B hml hv
  obtain ⟨rfl, -⟩ := hv
  have hx := B.exec
  have hb := B.bytes
  have hr := B.returns
  have hts := atoms_spec (ws := wsX11_isStem) B.pre
  have hown : s.vm.findClass RX11 = some m.cls := findClass_of_methodNamed B.named
  have hl := lv_entry ([.int (kz v)]) (n := 1) (Nat.le_of_ble_eq_true rfl)
  rw [lg_entry_eq]
  generalize (lg_sl ([.int (kz v)]) ++ List.replicate (1 - (lg_sl ([.int (kz v)])).length) Slot.unset).toArray = ls at hl ⊢
  have hl : lv_has ls 1 [(0, .int (kz v))] := hl
  refine lv_iload_n hx hb dX11_isStem_0 rfl (lv_at hl 0 rfl) ?_
  refine lv_iconst (v := kz 0) hx hb dX11_isStem_1 rfl ?_
  refine lv_bipush (v := kz 19) hx hb dX11_isStem_2 (by decide) ?_
  refine vp_callSi (va_Run.run (va_runS (As := [.int (kz v), .int (kz 0), .int (kz 19)]) (rest := []) ⟨hx, hb, hml, hown, hts⟩ (c_within l v 0 19 (by omega) (by omega) (by omega)) (va_cwS 3 hts gX11_isStem_X11_within rfl rfl rfl (by decide +kernel) ⟨Nat.le_of_ble_eq_true rfl, Nat.le_of_ble_eq_true rfl⟩) ⟨fun a U g mk q => q, fun U hU hW => ⟨rfl, trivial⟩⟩ rfl rfl hl.1 rfl (lv_room (Nat.le_of_ble_eq_true rfl)) dX11_isStem_4 ⟨Nat.le_of_ble_eq_true rfl, Nat.le_of_ble_eq_true rfl⟩)) (fun r_2 hw_1 => ?_)
  rcases hw_1 with ⟨rfl, hw_1⟩ | ⟨rfl, hw_1⟩
  · exact W.zret (v := kz 1) hx hb hr (by decide) (fun t9 ht hW => ⟨kz 1, rfl, Or.inl ⟨rfl, by omega⟩, ht⟩) (fun q h => absurd h List.not_mem_nil) dX11_isStem_7
  · exact W.zret (v := kz 0) hx hb hr (by decide) (fun t9 ht hW => ⟨kz 0, rfl, Or.inr ⟨rfl, by omega⟩, ht⟩) (fun q h => absurd h List.not_mem_nil) dX11_isStem_7
set_option maxHeartbeats 4000000 in
set_option maxRecDepth 100000 in
/-- X11_isCost -/
theorem c_isCost (l : Launch) (v : Int) (vr : -2147483648 ≤ v ∧ v ≤ 2147483647) : Met l yX11_isCost wsX11_isCost ({ frames := 1, cells := 0, slots := 0, locals := 22 }) (va_Pc [.int (kz v)] (fun U => True)) (vp_Si (fun r => bZ r (0 ≤ v ∧ v ≤ 99))) 0 0 (fun _ => False) := by
  refine Met.ofW (cc := cX11_isCost) (maxL := 1) (ret := (some .boolean)) (by decide) rfl ?_
  intro p e s m args below meth c s₁ B hml hv
  obtain ⟨rfl, -⟩ := hv
  have hx := B.exec
  have hb := B.bytes
  have hr := B.returns
  have hts := atoms_spec (ws := wsX11_isCost) B.pre
  have hown : s.vm.findClass RX11 = some m.cls := findClass_of_methodNamed B.named
  have hl := lv_entry ([.int (kz v)]) (n := 1) (Nat.le_of_ble_eq_true rfl)
  rw [lg_entry_eq]
  generalize (lg_sl ([.int (kz v)]) ++ List.replicate (1 - (lg_sl ([.int (kz v)])).length) Slot.unset).toArray = ls at hl ⊢
  have hl : lv_has ls 1 [(0, .int (kz v))] := hl
  refine lv_iload_n hx hb dX11_isCost_0 rfl (lv_at hl 0 rfl) ?_
  refine lv_iconst (v := kz 0) hx hb dX11_isCost_1 rfl ?_
  refine lv_bipush (v := kz 99) hx hb dX11_isCost_2 (by decide) ?_
  refine vp_callSi (va_Run.run (va_runS (As := [.int (kz v), .int (kz 0), .int (kz 99)]) (rest := []) ⟨hx, hb, hml, hown, hts⟩ (c_within l v 0 99 (by omega) (by omega) (by omega)) (va_cwS 3 hts gX11_isCost_X11_within rfl rfl rfl (by decide +kernel) ⟨Nat.le_of_ble_eq_true rfl, Nat.le_of_ble_eq_true rfl⟩) ⟨fun a U g mk q => q, fun U hU hW => ⟨rfl, trivial⟩⟩ rfl rfl hl.1 rfl (lv_room (Nat.le_of_ble_eq_true rfl)) dX11_isCost_4 ⟨Nat.le_of_ble_eq_true rfl, Nat.le_of_ble_eq_true rfl⟩)) (fun r_2 hw_1 => ?_)
  rcases hw_1 with ⟨rfl, hw_1⟩ | ⟨rfl, hw_1⟩
  · exact W.zret (v := kz 1) hx hb hr (by decide) (fun t9 ht hW => ⟨kz 1, rfl, Or.inl ⟨rfl, by omega⟩, ht⟩) (fun q h => absurd h List.not_mem_nil) dX11_isCost_7
  · exact W.zret (v := kz 0) hx hb hr (by decide) (fun t9 ht hW => ⟨kz 0, rfl, Or.inr ⟨rfl, by omega⟩, ht⟩) (fun q h => absurd h List.not_mem_nil) dX11_isCost_7
set_option maxHeartbeats 4000000 in
set_option maxRecDepth 100000 in
/-- X11_isDay -/
theorem c_isDay (l : Launch) (v : Int) (vr : -2147483648 ≤ v ∧ v ≤ 2147483647) : Met l yX11_isDay wsX11_isDay ({ frames := 1, cells := 0, slots := 0, locals := 22 }) (va_Pc [.int (kz v)] (fun U => True)) (vp_Si (fun r => bZ r (0 ≤ v ∧ v ≤ 999))) 0 0 (fun _ => False) := by
  refine Met.ofW (cc := cX11_isDay) (maxL := 1) (ret := (some .boolean)) (by decide) rfl ?_
  intro p e s m args below meth c s₁ B hml hv
  obtain ⟨rfl, -⟩ := hv
  have hx := B.exec
  have hb := B.bytes
  have hr := B.returns
  have hts := atoms_spec (ws := wsX11_isDay) B.pre
  have hown : s.vm.findClass RX11 = some m.cls := findClass_of_methodNamed B.named
  have hl := lv_entry ([.int (kz v)]) (n := 1) (Nat.le_of_ble_eq_true rfl)
  rw [lg_entry_eq]
  generalize (lg_sl ([.int (kz v)]) ++ List.replicate (1 - (lg_sl ([.int (kz v)])).length) Slot.unset).toArray = ls at hl ⊢
  have hl : lv_has ls 1 [(0, .int (kz v))] := hl
  refine lv_iload_n hx hb dX11_isDay_0 rfl (lv_at hl 0 rfl) ?_
  refine lv_iconst (v := kz 0) hx hb dX11_isDay_1 rfl ?_
  refine lv_sipush (v := kz 999) hx hb dX11_isDay_2 (by decide) ?_
  refine vp_callSi (va_Run.run (va_runS (As := [.int (kz v), .int (kz 0), .int (kz 999)]) (rest := []) ⟨hx, hb, hml, hown, hts⟩ (c_within l v 0 999 (by omega) (by omega) (by omega)) (va_cwS 3 hts gX11_isDay_X11_within rfl rfl rfl (by decide +kernel) ⟨Nat.le_of_ble_eq_true rfl, Nat.le_of_ble_eq_true rfl⟩) ⟨fun a U g mk q => q, fun U hU hW => ⟨rfl, trivial⟩⟩ rfl rfl hl.1 rfl (lv_room (Nat.le_of_ble_eq_true rfl)) dX11_isDay_5 ⟨Nat.le_of_ble_eq_true rfl, Nat.le_of_ble_eq_true rfl⟩)) (fun r_2 hw_1 => ?_)
  rcases hw_1 with ⟨rfl, hw_1⟩ | ⟨rfl, hw_1⟩
  · exact W.zret (v := kz 1) hx hb hr (by decide) (fun t9 ht hW => ⟨kz 1, rfl, Or.inl ⟨rfl, by omega⟩, ht⟩) (fun q h => absurd h List.not_mem_nil) dX11_isDay_8
  · exact W.zret (v := kz 0) hx hb hr (by decide) (fun t9 ht hW => ⟨kz 0, rfl, Or.inr ⟨rfl, by omega⟩, ht⟩) (fun q h => absurd h List.not_mem_nil) dX11_isDay_8
set_option maxHeartbeats 4000000 in
set_option maxRecDepth 100000 in
/-- X11_hasRule -/
theorem c_hasRule (l : Launch) (v : Int) (k : Int) (vr : -2147483648 ≤ v ∧ v ≤ 2147483647) (kr : -2147483648 ≤ k ∧ k ≤ 2147483647) : Met l yX11_hasRule wsX11_hasRule ({ frames := 0, cells := 0, slots := 0, locals := 0 }) (va_Pc [.int (kz v), .int (kz k)] (fun U => True)) (vp_Si (fun r => r = kz 1 ∨ r = kz 0)) 0 0 (fun _ => False) := by
  refine Met.ofW (cc := cX11_hasRule) (maxL := 2) (ret := (some .boolean)) (by decide) rfl ?_
  intro p e s m args below meth c s₁ B hml hv
  obtain ⟨rfl, -⟩ := hv
  have hx := B.exec
  have hb := B.bytes
  have hr := B.returns
  have hts := atoms_spec (ws := wsX11_hasRule) B.pre
  have hown : s.vm.findClass RX11 = some m.cls := findClass_of_methodNamed B.named
  have hl := lv_entry ([.int (kz v), .int (kz k)]) (n := 2) (Nat.le_of_ble_eq_true rfl)
  rw [lg_entry_eq]
  generalize (lg_sl ([.int (kz v), .int (kz k)]) ++ List.replicate (2 - (lg_sl ([.int (kz v), .int (kz k)])).length) Slot.unset).toArray = ls at hl ⊢
  have hl : lv_has ls 2 [(0, .int (kz v)), (1, .int (kz k))] := hl
  refine lv_iload_n hx hb dX11_hasRule_0 rfl (lv_at hl 0 rfl) ?_
  refine lv_iload_n hx hb dX11_hasRule_1 rfl (lv_at hl 1 rfl) ?_
  refine lv_ishr hx hb dX11_hasRule_2 ?_
  refine iz_any (fun z_1 z_1a z_1b z_1e => ?_)
  refine lv_iconst (v := kz 1) hx hb dX11_hasRule_3 rfl ?_
  refine iz_iand hx hb dX11_hasRule_4 (by decide) (fun z_2 z_2a z_2b z_2e => ?_)
  refine lv_iconst (v := kz 1) hx hb dX11_hasRule_5 rfl ?_
  refine iz_ne (tgt := 13) hx hb dX11_hasRule_6 (by decide) (by unfold rg2; omega) (fun br_3 => ?_) (fun br_3 => ?_)
  · refine lv_iconst (v := kz 0) hx hb dX11_hasRule_13 rfl ?_
    exact W.zret (v := kz 0) hx hb hr (by decide) (fun t9 ht hW => ⟨kz 0, rfl, Or.inr rfl, ht⟩) (fun q h => absurd h List.not_mem_nil) dX11_hasRule_14
  · refine lv_iconst (v := kz 1) hx hb dX11_hasRule_9 rfl ?_
    refine lv_goto (tgt := 14) hx hb dX11_hasRule_10 (by decide) ?_
    exact W.zret (v := kz 1) hx hb hr (by decide) (fun t9 ht hW => ⟨kz 1, rfl, Or.inl rfl, ht⟩) (fun q h => absurd h List.not_mem_nil) dX11_hasRule_14
set_option maxHeartbeats 4000000 in
set_option maxRecDepth 100000 in
/-- X11_capped -/
theorem c_capped (l : Launch) (x : Int64) : Met l yX11_capped wsX11_capped ({ frames := 1, cells := 0, slots := 0, locals := 15 }) (va_Pc [.long x] (fun U => True)) (vp_Sl (fun r => True)) 0 0 (fun _ => False) := by
  refine Met.ofW (cc := cX11_capped) (maxL := 2) (ret := (some .long)) (by decide) rfl ?_
  intro p e s m args below meth c s₁ B hml hv
  obtain ⟨rfl, -⟩ := hv
  have hx := B.exec
  have hb := B.bytes
  have hr := B.returns
  have hts := atoms_spec (ws := wsX11_capped) B.pre
  have hown : s.vm.findClass RX11 = some m.cls := findClass_of_methodNamed B.named
  have hl := lv_entry ([.long x]) (n := 2) (Nat.le_of_ble_eq_true rfl)
  rw [lg_entry_eq]
  generalize (lg_sl ([.long x]) ++ List.replicate (2 - (lg_sl ([.long x])).length) Slot.unset).toArray = ls at hl ⊢
  have hl : lv_has ls 2 [(0, .long x)] := hl
  refine lv_lload_n hx hb dX11_capped_0 rfl (lv_at hl 0 rfl) ?_
  refine lv_ldc2 (own := RX11) (v := 1000000000000000) hx hb hown (hts (.constantLong RX11 257 (1000000000000000)) (by decide +kernel)) dX11_capped_1 ?_
  refine va_mmin_long hx hb (by rw [hml]; exact hl.1.symm) hown (hts (.methodLink RX11 259 Lib.MathLoose.min_long.x) (by decide +kernel)) (hts (.static Lib.MathLoose.min_long.x) (by decide +kernel)) (hts (.initialized "java/lang/Math") (by decide +kernel)) (hts (.code Lib.MathLoose.min_long.x Lib.MathLoose.min_long.code 4 (some .long)) (by decide +kernel)) (Nat.le_of_ble_eq_true rfl) (Nat.le_of_ble_eq_true rfl) (Nat.zero_le _) (Nat.zero_le _) dX11_capped_4 ?_
  refine lv_topl (fun y_1 ey_1 => ?_)
  exact W.lret (v := y_1) hx hb hr (fun t9 ht hW => ⟨y_1, rfl, trivial, ht⟩) (fun q h => absurd h List.not_mem_nil) dX11_capped_7
set_option maxHeartbeats 4000000 in
set_option maxRecDepth 100000 in
/-- X8_hasRoomFor -/
theorem c_hasRoomFor (l : Launch) (dC : Nat → ClassId) (dI : Nat → Nat → Nat) (ca : Nat → ClassId) (A : Nat → Prop) (X : jG) (hU : jU X) (a0 : Nat) (k : Int) (g_a0 : X.1 a0 = (8, 30, 0, 0, 0)) (kr : -2147483648 ≤ k ∧ k ≤ 2147483647) : Met l yX8_hasRoomFor wsX8_hasRoomFor ({ frames := 0, cells := 0, slots := 0, locals := 0 }) (va_Pc [.ref a0, .int (kz k)] (fun U => jK (dC, dI) ca U ∧ jv (dC, dI) ca A X U.heap)) (vp_Si (fun r => r = kz 1 ∨ r = kz 0)) 0 0 (fun _ => False) := by
  refine Met.ofW (cc := cX8_hasRoomFor) (maxL := 2) (ret := (some .boolean)) (by decide) rfl ?_
  intro p e s m args below meth c s₁ B hml hv
  obtain ⟨rfl, ⟨hK, hN⟩, hI⟩ := hv
  have hx := B.exec
  have hb := B.bytes
  have hr := B.returns
  have hts := atoms_spec (ws := wsX8_hasRoomFor) B.pre
  have hown : s.vm.findClass RX8 = some m.cls := findClass_of_methodNamed B.named
  have hL15 := hts (.fieldLink RX8 15 "JoinBench$Tape" "size" "I") (by decide +kernel)
  have hinX8 : ∀ w ∈ u_ws RX8 TX8 2, w ∈ wsX8_hasRoomFor := by decide +kernel
  have hl := lv_entry ([.ref a0, .int (kz k)]) (n := 2) (Nat.le_of_ble_eq_true rfl)
  rw [lg_entry_eq]
  generalize (lg_sl ([.ref a0, .int (kz k)]) ++ List.replicate (2 - (lg_sl ([.ref a0, .int (kz k)])).length) Slot.unset).toArray = ls at hl ⊢
  have hl : lv_has ls 2 [(0, .ref a0), (1, .int (kz k))] := hl
  refine lv_iload_n hx hb dX8_hasRoomFor_0 rfl (lv_at hl 1 rfl) ?_
  refine lv_bipush (v := kz 60) hx hb dX8_hasRoomFor_1 (by decide) ?_
  refine lv_aload_n hx hb dX8_hasRoomFor_3 rfl (lv_at hl 0 rfl) ?_
  obtain ⟨fs9, co_1, jo9⟩ := jv_o8 hI g_a0
  obtain ⟨bytes_1, size_1, rfl, g_bytes_1, ⟨size_1a, size_1b⟩⟩ := jo9
  refine iz_get (D := (dC, dI)) (ci := 8) (v := .int (kz size_1)) (C := RX8) (T := TX8) (N := 2) hx hb hts hinX8 hown hK co_1 rfl 1 (by decide) hL15 (fun _ h9 => h9) rfl dX8_hasRoomFor_4 ?_
  refine iz_isub hx hb dX8_hasRoomFor_7 ?_
  refine iz_gt (tgt := 15) hx hb dX8_hasRoomFor_8 (by decide) (by unfold rg2; omega) (fun br_2 => ?_) (fun br_2 => ?_)
  · refine lv_iconst (v := kz 0) hx hb dX8_hasRoomFor_15 rfl ?_
    exact W.zret (v := kz 0) hx hb hr (by decide) (fun t9 ht hW => ⟨kz 0, rfl, Or.inr rfl, ht⟩) (fun q h => absurd h List.not_mem_nil) dX8_hasRoomFor_16
  · refine lv_iconst (v := kz 1) hx hb dX8_hasRoomFor_11 rfl ?_
    refine lv_goto (tgt := 16) hx hb dX8_hasRoomFor_12 (by decide) ?_
    exact W.zret (v := kz 1) hx hb hr (by decide) (fun t9 ht hW => ⟨kz 1, rfl, Or.inl rfl, ht⟩) (fun q h => absurd h List.not_mem_nil) dX8_hasRoomFor_16
set_option maxHeartbeats 4000000 in
set_option maxRecDepth 100000 in
/-- X8_addByte -/
theorem c_addByte (l : Launch) (dC : Nat → ClassId) (dI : Nat → Nat → Nat) (ca : Nat → ClassId) (A : Nat → Prop) (X : jG) (hU : jU X) (Hp : Heap) (a0 : Nat) (v : Int) (g_a0 : X.1 a0 = (8, 30, 0, 0, 0)) : Met l yX8_addByte wsX8_addByte ({ frames := 0, cells := 0, slots := 0, locals := 0 }) (va_Pc [.ref a0, .int (kz v)] (fun U => U.heap = Hp ∧ jK (dC, dI) ca U ∧ jv (dC, dI) ca A X U.heap)) (va_Qv (fun (u : Unit) => True) (fun u U => jK (dC, dI) ca U ∧ jv (dC, dI) ca A X U.heap ∧ kfm X [8, 200] Hp U.heap) A) 0 0 A := by
  refine Met.ofW (cc := cX8_addByte) (maxL := 2) (ret := none) (by decide) rfl ?_
  intro p e s m args below meth c s₁ B hml hv
  obtain ⟨rfl, hHp, ⟨hK, hN⟩, hI⟩ := hv
  have hx := B.exec
  have hb := B.bytes
  have hr := B.returns
  have hts := atoms_spec (ws := wsX8_addByte) B.pre
  have hown : s.vm.findClass RX8 = some m.cls := findClass_of_methodNamed B.named
  have hL15 := hts (.fieldLink RX8 15 "JoinBench$Tape" "size" "I") (by decide +kernel)
  have hL9 := hts (.fieldLink RX8 9 "JoinBench$Tape" "bytes" "[B") (by decide +kernel)
  have hinX8 : ∀ w ∈ u_ws RX8 TX8 2, w ∈ wsX8_addByte := by decide +kernel
  obtain ⟨H, hH⟩ : ∃ H : Heap, H = s.heap := ⟨_, rfl⟩
  have hS : va_S A s.heap H [] := by rw [hH]; exact va_S.rf
  have hF : kfm X [8, 200] Hp H := by rw [hH, hHp]; exact fm_rf _ _ _
  rw [← hH] at hI ⊢
  clear hH
  have hl := lv_entry ([.ref a0, .int (kz v)]) (n := 2) (Nat.le_of_ble_eq_true rfl)
  rw [lg_entry_eq]
  generalize (lg_sl ([.ref a0, .int (kz v)]) ++ List.replicate (2 - (lg_sl ([.ref a0, .int (kz v)])).length) Slot.unset).toArray = ls at hl ⊢
  have hl : lv_has ls 2 [(0, .ref a0), (1, .int (kz v))] := hl
  refine lv_aload_n hx hb dX8_addByte_0 rfl (lv_at hl 0 rfl) ?_
  obtain ⟨fs9, co_1, jo9⟩ := jv_o8 hI g_a0
  obtain ⟨bytes_1, size_1, rfl, g_bytes_1, ⟨size_1a, size_1b⟩⟩ := jo9
  refine iz_get (D := (dC, dI)) (ci := 8) (v := .int (kz size_1)) (C := RX8) (T := TX8) (N := 2) hx hb hts hinX8 hown hK co_1 rfl 1 (by decide) hL15 (fun _ h9 => h9) rfl dX8_addByte_1 ?_
  refine lv_bipush (v := kz 60) hx hb dX8_addByte_4 (by decide) ?_
  refine iz_ge (tgt := 30) hx hb dX8_addByte_6 (by decide) (by unfold rg2; omega) (fun br_2 => ?_) (fun br_2 => ?_)
  · exact W.vret hx hb hr (fun t9 ht hW => ⟨⟨(), rfl, trivial, jK_warm hW ⟨hK, hN⟩, by rw [ht]; exact ⟨hI, hF⟩⟩, hS.F ht⟩) hS.2.2 dX8_addByte_30
  · refine lv_aload_n hx hb dX8_addByte_9 rfl (lv_at hl 0 rfl) ?_
    refine iz_get (D := (dC, dI)) (ci := 8) (v := .ref bytes_1) (C := RX8) (T := TX8) (N := 2) hx hb hts hinX8 hown hK co_1 rfl 0 (by decide) hL9 (fun _ h9 => h9) rfl dX8_addByte_10 ?_
    refine lv_aload_n hx hb dX8_addByte_13 rfl (lv_at hl 0 rfl) ?_
    refine iz_get (D := (dC, dI)) (ci := 8) (v := .int (kz size_1)) (C := RX8) (T := TX8) (N := 2) hx hb hts hinX8 hown hK co_1 rfl 1 (by decide) hL15 (fun _ h9 => h9) rfl dX8_addByte_14 ?_
    refine lv_iload_n hx hb dX8_addByte_17 rfl (lv_at hl 1 rfl) ?_
    refine lv_i2b (v := (kz v).toInt8.toInt32) hx hb dX8_addByte_18 rfl ?_
    refine iz_any (fun z_3 z_3a z_3b z_3e => ?_)
    obtain ⟨f_4, c_f_4, k_f_4⟩ := jv_o200 hI g_bytes_1
    refine iz_bast hx hb hK 1 c_f_4 hS (jv_A hI g_bytes_1 (show (21 : Nat) ≠ 0 by decide)) rfl (by omega) (by decide) dX8_addByte_19 (fun H locs c9 oq hS => ?_)
    have hI := jv_s21b hI g_bytes_1 k_f_4 c9 oq
    have hF := fm_put hF g_bytes_1 (show (200 : Nat) ∈ [8, 200] by decide) oq
    have co_1 := co_1.kept (oq _ (kn_ne g_a0 g_bytes_1 (show (8 : Nat) ≠ 200 by decide)))
    clear oq c9
    refine lv_aload_n hx hb dX8_addByte_20 rfl (lv_at hl 0 rfl) ?_
    refine lv_dup hx hb dX8_addByte_21 rfl ?_
    refine iz_get (D := (dC, dI)) (ci := 8) (v := .int (kz size_1)) (C := RX8) (T := TX8) (N := 2) hx hb hts hinX8 hown hK co_1 rfl 1 (by decide) hL15 (fun _ h9 => h9) rfl dX8_addByte_22 ?_
    refine lv_iconst (v := kz 1) hx hb dX8_addByte_25 rfl ?_
    refine iz_iadd hx hb dX8_addByte_26 ?_
    refine iz_put (D := (dC, dI)) (ci := 8) (v := .int (kz (size_1 + 1))) (ty := .int) (C := RX8) (T := TX8) (N := 2) hx hb hts hinX8 tyX8 tyX8_ok nmX8 hown hK co_1 hS (jv_A hI g_a0 (show (30 : Nat) ≠ 0 by decide)) rfl 1 (by decide) hL15 (fun _ h9 => h9) rfl (by decide +kernel) rfl rfl (Nat.le_of_ble_eq_true rfl) dX8_addByte_27 (fun H locs c9 oq hS => ?_)
    have hI := jv_set hI c9 oq (by rw [g_a0]; exact jv_c8 ⟨bytes_1, (size_1 + 1), rfl, g_bytes_1, ⟨by omega, by omega⟩⟩)
    have hF := fm_put hF g_a0 (show (8 : Nat) ∈ [8, 200] by decide) oq
    have co_1 := c9
    clear oq c9
    exact W.vret hx hb hr (fun t9 ht hW => ⟨⟨(), rfl, trivial, jK_warm hW ⟨hK, hN⟩, by rw [ht]; exact ⟨hI, hF⟩⟩, hS.F ht⟩) hS.2.2 dX8_addByte_30
set_option maxHeartbeats 4000000 in
set_option maxRecDepth 100000 in
/-- X8_addNumber -/
theorem c_addNumber (l : Launch) (dC : Nat → ClassId) (dI : Nat → Nat → Nat) (ca : Nat → ClassId) (A : Nat → Prop) (X : jG) (hU : jU X) (Hp : Heap) (a0 : Nat) (v : Int) (g_a0 : X.1 a0 = (8, 30, 0, 0, 0)) : Met l yX8_addNumber wsX8_addNumber ({ frames := 1, cells := 0, slots := 0, locals := 21 }) (va_Pc [.ref a0, .int (kz v)] (fun U => U.heap = Hp ∧ jK (dC, dI) ca U ∧ jv (dC, dI) ca A X U.heap)) (va_Qv (fun (u : Unit) => True) (fun u U => jK (dC, dI) ca U ∧ jv (dC, dI) ca A X U.heap ∧ kfm X [8, 200] Hp U.heap) A) 0 0 A := by
  refine Met.ofW (cc := cX8_addNumber) (maxL := 3) (ret := none) (by decide) rfl ?_
  intro p e s m args below meth c s₁ B hml hv
  obtain ⟨rfl, hHp, ⟨hK, hN⟩, hI⟩ := hv
  have hx := B.exec
  have hb := B.bytes
  have hr := B.returns
  have hts := atoms_spec (ws := wsX8_addNumber) B.pre
  have hown : s.vm.findClass RX8 = some m.cls := findClass_of_methodNamed B.named
  obtain ⟨H, hH⟩ : ∃ H : Heap, H = s.heap := ⟨_, rfl⟩
  have hS : va_S A s.heap H [] := by rw [hH]; exact va_S.rf
  have hF : kfm X [8, 200] Hp H := by rw [hH, hHp]; exact fm_rf _ _ _
  rw [← hH] at hI ⊢
  clear hH
  have hl := lv_entry ([.ref a0, .int (kz v)]) (n := 3) (Nat.le_of_ble_eq_true rfl)
  rw [lg_entry_eq]
  generalize (lg_sl ([.ref a0, .int (kz v)]) ++ List.replicate (3 - (lg_sl ([.ref a0, .int (kz v)])).length) Slot.unset).toArray = ls at hl ⊢
  have hl : lv_has ls 3 [(0, .ref a0), (1, .int (kz v))] := hl
  refine lv_bipush (v := kz 24) hx hb dX8_addNumber_0 (by decide) ?_
  refine lv_istore_n (lv' := [(2, .int (kz 24)), (0, .ref a0), (1, .int (kz v))]) hx hb dX8_addNumber_2 rfl hl (by decide) rfl (fun ls hl => ?_)
  refine iz_loopA1 (α := Unit) (P := fun N9 _u9 k H locs ls => (-8 ≤ k) ∧ (k ≤ 24) ∧ k + 8 ≤ (N9 : Int) ∧ lv_has ls 3 [(2, .int (kz k)), (0, .ref a0), (1, .int (kz v))] ∧ jv (dC, dI) ca A X H ∧ va_S A s.heap H locs ∧ kfm X [8, 200] Hp H) 100000 () (x0 := 24) ?_ ⟨by omega, by omega, by omega, lv_sub hl [0, 1, 2] rfl, hI, hS, hF⟩
  intro n_1 _u9 k H locs ls ⟨n_1f0, n_1f1, n_1f2, hl, hI, hS, hF⟩ ihn_1
  refine lv_iload_n hx hb dX8_addNumber_3 rfl (lv_at hl 0 rfl) ?_
  refine iz_ltz (tgt := 20) hx hb dX8_addNumber_4 (by decide) (by unfold rg2; omega) (fun br_2 => ?_) (fun br_2 => ?_)
  · exact W.vret hx hb hr (fun t9 ht hW => ⟨⟨(), rfl, trivial, jK_warm hW ⟨hK, hN⟩, by rw [ht]; exact ⟨hI, hF⟩⟩, hS.F ht⟩) hS.2.2 dX8_addNumber_20
  · refine lv_aload_n hx hb dX8_addNumber_7 rfl (lv_at hl 1 rfl) ?_
    refine lv_iload_n hx hb dX8_addNumber_8 rfl (lv_at hl 2 rfl) ?_
    refine lv_iload_n hx hb dX8_addNumber_9 rfl (lv_at hl 0 rfl) ?_
    refine lv_ishr hx hb dX8_addNumber_10 ?_
    refine iz_any (fun z_3 z_3a z_3b z_3e => ?_)
    obtain ⟨fs9, co_4, jo9⟩ := jv_o8 hI g_a0
    obtain ⟨bytes_4, size_4, rfl, g_bytes_4, ⟨size_4a, size_4b⟩⟩ := jo9
    refine va_callv (va_runV (As := [.int (kz z_3)]) (rest := []) ⟨hx, hb, hml, hown, hts⟩ (c_addByte l dC dI ca A X hU H a0 z_3 g_a0) (cwV 1 hts gX8_addNumber_X8_addByte rfl rfl rfl (by decide +kernel) ⟨Nat.le_of_ble_eq_true rfl, Nat.le_of_ble_eq_true rfl⟩) ⟨fun a U g mk q => by obtain ⟨q0, qH, ⟨qK, qN⟩, qI⟩ := q; exact ⟨q0, qH, ⟨va_K.moved (u := U) (U := U.calling g mk a) (Vm.Alike.refl U.vm) qK, jN_same (U := U.calling g mk a) rfl qN⟩, qI⟩, va_recv hK (at_P co_4) (ci := 8) (q0 := 0) rfl rfl, fun U hU hW => ⟨rfl, hU, jK_warm hW ⟨hK, hN⟩, by rw [hU]; exact hI⟩⟩ rfl rfl hl.1 rfl (lv_room (Nat.le_of_ble_eq_true rfl)) dX8_addNumber_11 ⟨Nat.le_of_ble_eq_true rfl, Nat.le_of_ble_eq_true rfl⟩) hS (fun q _ h => h) (fun q h => h) (fun u t9 H locs ht hvm hw_5 hB hz1 hk1 hS => ?_)
    obtain ⟨-, hI, hf9⟩ := hB
    rw [ht] at hI hf9
    clear ht hvm hz1
    have hF := fm_tr hF hf9 (by decide)
    clear hk1 hf9
    refine lv_iinc (v := kz (k + (-8))) (lv' := [(2, .int (kz (k + (-8)))), (0, .ref a0), (1, .int (kz v))]) hx hb dX8_addNumber_14 hl (k := 0) rfl (kz_add k (-8)) (by decide) rfl (fun ls hl => ?_)
    refine lv_goto (tgt := 3) hx hb dX8_addNumber_17 (by decide) ?_
    exact ihn_1 (n_1 - 1) (by omega) () (k + (-8)) _ _ _ ⟨by omega, by omega, by omega, lv_sub hl [0, 1, 2] rfl, hI, hS, hF⟩
set_option maxHeartbeats 4000000 in
set_option maxRecDepth 100000 in
/-- X8_hasOnlyLetters -/
theorem c_hasOnlyLetters (l : Launch) (dC : Nat → ClassId) (dI : Nat → Nat → Nat) (ca : Nat → ClassId) (A : Nat → Prop) (X : jG) (hU : jU X) (a0 : Nat) (g_a0 : X.1 a0 = (8, 30, 0, 0, 0)) : Met l yX8_hasOnlyLetters wsX8_hasOnlyLetters ({ frames := 0, cells := 0, slots := 0, locals := 0 }) (va_Pc [.ref a0] (fun U => jK (dC, dI) ca U ∧ jv (dC, dI) ca A X U.heap)) (vp_Si (fun r => r = kz 1 ∨ r = kz 0)) 0 0 (fun _ => False) := by
  refine Met.ofW (cc := cX8_hasOnlyLetters) (maxL := 2) (ret := (some .boolean)) (by decide) rfl ?_
  intro p e s m args below meth c s₁ B hml hv
  obtain ⟨rfl, ⟨hK, hN⟩, hI⟩ := hv
  have hx := B.exec
  have hb := B.bytes
  have hr := B.returns
  have hts := atoms_spec (ws := wsX8_hasOnlyLetters) B.pre
  have hown : s.vm.findClass RX8 = some m.cls := findClass_of_methodNamed B.named
  have hL15 := hts (.fieldLink RX8 15 "JoinBench$Tape" "size" "I") (by decide +kernel)
  have hL9 := hts (.fieldLink RX8 9 "JoinBench$Tape" "bytes" "[B") (by decide +kernel)
  have hinX8 : ∀ w ∈ u_ws RX8 TX8 2, w ∈ wsX8_hasOnlyLetters := by decide +kernel
  have hl := lv_entry ([.ref a0]) (n := 2) (Nat.le_of_ble_eq_true rfl)
  rw [lg_entry_eq]
  generalize (lg_sl ([.ref a0]) ++ List.replicate (2 - (lg_sl ([.ref a0])).length) Slot.unset).toArray = ls at hl ⊢
  have hl : lv_has ls 2 [(0, .ref a0)] := hl
  refine lv_iconst (v := kz 0) hx hb dX8_hasOnlyLetters_0 rfl ?_
  refine lv_istore_n (lv' := [(1, .int (kz 0)), (0, .ref a0)]) hx hb dX8_hasOnlyLetters_1 rfl hl (by decide) rfl (fun ls hl => ?_)
  refine iz_loopS1 (P := fun N9 k ls => (0 ≤ k) ∧ (k ≤ 60) ∧ 60 - k ≤ (N9 : Int) ∧ lv_has ls 2 [(1, .int (kz k)), (0, .ref a0)]) 100000 (x0 := 0) ?_ ⟨by omega, by omega, by omega, lv_sub hl [0, 1] rfl⟩
  intro n_1 k ls ⟨n_1f0, n_1f1, n_1f2, hl⟩ ihn_1
  refine lv_iload_n hx hb dX8_hasOnlyLetters_2 rfl (lv_at hl 0 rfl) ?_
  refine lv_aload_n hx hb dX8_hasOnlyLetters_3 rfl (lv_at hl 1 rfl) ?_
  obtain ⟨fs9, co_2, jo9⟩ := jv_o8 hI g_a0
  obtain ⟨bytes_2, size_2, rfl, g_bytes_2, ⟨size_2a, size_2b⟩⟩ := jo9
  refine iz_get (D := (dC, dI)) (ci := 8) (v := .int (kz size_2)) (C := RX8) (T := TX8) (N := 2) hx hb hts hinX8 hown hK co_2 rfl 1 (by decide) hL15 (fun _ h9 => h9) rfl dX8_hasOnlyLetters_4 ?_
  refine iz_ge (tgt := 40) hx hb dX8_hasOnlyLetters_7 (by decide) (by unfold rg2; omega) (fun br_3 => ?_) (fun br_3 => ?_)
  · refine lv_iconst (v := kz 1) hx hb dX8_hasOnlyLetters_40 rfl ?_
    exact W.zret (v := kz 1) hx hb hr (by decide) (fun t9 ht hW => ⟨kz 1, rfl, Or.inl rfl, ht⟩) (fun q h => absurd h List.not_mem_nil) dX8_hasOnlyLetters_41
  · refine lv_aload_n hx hb dX8_hasOnlyLetters_10 rfl (lv_at hl 1 rfl) ?_
    refine iz_get (D := (dC, dI)) (ci := 8) (v := .ref bytes_2) (C := RX8) (T := TX8) (N := 2) hx hb hts hinX8 hown hK co_2 rfl 0 (by decide) hL9 (fun _ h9 => h9) rfl dX8_hasOnlyLetters_11 ?_
    refine lv_iload_n hx hb dX8_hasOnlyLetters_14 rfl (lv_at hl 0 rfl) ?_
    obtain ⟨f_4, c_f_4, k_f_4⟩ := jv_o200 hI g_bytes_2
    refine iz_bald hx hb hK 1 c_f_4 rfl (by omega) (by decide) dX8_hasOnlyLetters_15 ?_
    have v_5a := kz_lo (f_4 (Int.toNat k))
    have v_5b := kz_hi (f_4 (Int.toNat k))
    change _ ≤ ge1 f_4 k at v_5a
    change ge1 f_4 k ≤ _ at v_5b
    obtain ⟨v_5, ev_5⟩ : ∃ z9 : Int, ge1 f_4 k = z9 := ⟨_, rfl⟩
    rw [ev_5] at v_5a v_5b ⊢
    refine lv_bipush (v := kz 97) hx hb dX8_hasOnlyLetters_16 (by decide) ?_
    refine iz_lt (tgt := 32) hx hb dX8_hasOnlyLetters_18 (by decide) (by unfold rg2; omega) (fun br_6 => ?_) (fun br_6 => ?_)
    · refine lv_iconst (v := kz 0) hx hb dX8_hasOnlyLetters_32 rfl ?_
      exact W.zret (v := kz 0) hx hb hr (by decide) (fun t9 ht hW => ⟨kz 0, rfl, Or.inr rfl, ht⟩) (fun q h => absurd h List.not_mem_nil) dX8_hasOnlyLetters_33
    · refine lv_aload_n hx hb dX8_hasOnlyLetters_21 rfl (lv_at hl 1 rfl) ?_
      refine iz_get (D := (dC, dI)) (ci := 8) (v := .ref bytes_2) (C := RX8) (T := TX8) (N := 2) hx hb hts hinX8 hown hK co_2 rfl 0 (by decide) hL9 (fun _ h9 => h9) rfl dX8_hasOnlyLetters_22 ?_
      refine lv_iload_n hx hb dX8_hasOnlyLetters_25 rfl (lv_at hl 0 rfl) ?_
      refine iz_bald hx hb hK 1 c_f_4 rfl (by omega) (by decide) dX8_hasOnlyLetters_26 ?_
      rw [ev_5]
      refine lv_bipush (v := kz 122) hx hb dX8_hasOnlyLetters_27 (by decide) ?_
      refine iz_le (tgt := 34) hx hb dX8_hasOnlyLetters_29 (by decide) (by unfold rg2; omega) (fun br_7 => ?_) (fun br_7 => ?_)
      · refine lv_iinc (v := kz (k + 1)) (lv' := [(1, .int (kz (k + 1))), (0, .ref a0)]) hx hb dX8_hasOnlyLetters_34 hl (k := 0) rfl (kz_add k 1) (by decide) rfl (fun ls hl => ?_)
        refine lv_goto (tgt := 2) hx hb dX8_hasOnlyLetters_37 (by decide) ?_
        exact ihn_1 (n_1 - 1) (by omega) (k + 1) _ ⟨by omega, by omega, by omega, lv_sub hl [0, 1] rfl⟩
      · refine lv_iconst (v := kz 0) hx hb dX8_hasOnlyLetters_32 rfl ?_
        exact W.zret (v := kz 0) hx hb hr (by decide) (fun t9 ht hW => ⟨kz 0, rfl, Or.inr rfl, ht⟩) (fun q h => absurd h List.not_mem_nil) dX8_hasOnlyLetters_33
set_option maxHeartbeats 4000000 in
set_option maxRecDepth 100000 in
/-- X9_formAt -/
theorem c_formAt (l : Launch) (dC : Nat → ClassId) (dI : Nat → Nat → Nat) (ca : Nat → ClassId) (A : Nat → Prop) (X : jG) (hU : jU X) (a0 : Nat) (k : Int) (g_a0 : X.1 a0 = (9, 30, 0, 0, 0)) (kr : -2147483648 ≤ k ∧ k ≤ 2147483647) : Met l yX9_formAt wsX9_formAt ({ frames := 0, cells := 0, slots := 0, locals := 0 }) (va_Pc [.ref a0, .int (kz k)] (fun U => jK (dC, dI) ca U ∧ jv (dC, dI) ca A X U.heap)) (va_Sq (fun r => ∀ b9 : Nat, r = some b9 → X.1 b9 = (2, 30, 0, 0, 0))) 0 0 (fun _ => False) := by
  refine Met.ofW (cc := cX9_formAt) (maxL := 2) (ret := (some (.object "JoinBench$Form"))) (by decide) rfl ?_
  intro p e s m args below meth c s₁ B hml hv
  obtain ⟨rfl, ⟨hK, hN⟩, hI⟩ := hv
  have hx := B.exec
  have hb := B.bytes
  have hr := B.returns
  have hts := atoms_spec (ws := wsX9_formAt) B.pre
  have hown : s.vm.findClass RX9 = some m.cls := findClass_of_methodNamed B.named
  have hL23 := hts (.fieldLink RX9 23 "JoinBench$Tongue" "formCount" "I") (by decide +kernel)
  have hL11 := hts (.fieldLink RX9 11 "JoinBench$Tongue" "forms" "[LJoinBench$Form;") (by decide +kernel)
  have hinX9 : ∀ w ∈ u_ws RX9 TX9 5, w ∈ wsX9_formAt := by decide +kernel
  have hl := lv_entry ([.ref a0, .int (kz k)]) (n := 2) (Nat.le_of_ble_eq_true rfl)
  rw [lg_entry_eq]
  generalize (lg_sl ([.ref a0, .int (kz k)]) ++ List.replicate (2 - (lg_sl ([.ref a0, .int (kz k)])).length) Slot.unset).toArray = ls at hl ⊢
  have hl : lv_has ls 2 [(0, .ref a0), (1, .int (kz k))] := hl
  refine lv_iload_n hx hb dX9_formAt_0 rfl (lv_at hl 1 rfl) ?_
  refine iz_ltz (tgt := 21) hx hb dX9_formAt_1 (by decide) (by unfold rg2; omega) (fun br_1 => ?_) (fun br_1 => ?_)
  · refine lv_null hx hb dX9_formAt_21 ?_
    exact W.aret (v := .null) hx hb hr (Or.inl ⟨_, rfl⟩) (Or.inl rfl) (fun t9 ht hW => ⟨none, rfl, (fun b9 q9 => by cases q9), ht⟩) (fun q h => absurd h List.not_mem_nil) dX9_formAt_22
  · refine lv_iload_n hx hb dX9_formAt_4 rfl (lv_at hl 1 rfl) ?_
    refine lv_aload_n hx hb dX9_formAt_5 rfl (lv_at hl 0 rfl) ?_
    obtain ⟨fs9, co_2, jo9⟩ := jv_o9 hI g_a0
    obtain ⟨forms_2, rules_2, formCount_2, ruleCount_2, forbidden_2, rfl, g_forms_2, g_rules_2, ⟨formCount_2a, formCount_2b⟩, ⟨ruleCount_2a, ruleCount_2b⟩, g_forbidden_2, x_2_0, x_2_1, x_2_2⟩ := jo9
    refine iz_get (D := (dC, dI)) (ci := 9) (v := .int (kz formCount_2)) (C := RX9) (T := TX9) (N := 5) hx hb hts hinX9 hown hK co_2 rfl 2 (by decide) hL23 (fun _ h9 => h9) rfl dX9_formAt_6 ?_
    refine iz_ge (tgt := 21) hx hb dX9_formAt_9 (by decide) (by unfold rg2; omega) (fun br_3 => ?_) (fun br_3 => ?_)
    · refine lv_null hx hb dX9_formAt_21 ?_
      exact W.aret (v := .null) hx hb hr (Or.inl ⟨_, rfl⟩) (Or.inl rfl) (fun t9 ht hW => ⟨none, rfl, (fun b9 q9 => by cases q9), ht⟩) (fun q h => absurd h List.not_mem_nil) dX9_formAt_22
    · refine lv_aload_n hx hb dX9_formAt_12 rfl (lv_at hl 0 rfl) ?_
      refine iz_get (D := (dC, dI)) (ci := 9) (v := .ref forms_2) (C := RX9) (T := TX9) (N := 5) hx hb hts hinX9 hown hK co_2 rfl 0 (by decide) hL11 (fun _ h9 => h9) rfl dX9_formAt_13 ?_
      refine lv_iload_n hx hb dX9_formAt_16 rfl (lv_at hl 1 rfl) ?_
      obtain ⟨f_4, c_f_4, k_f_4⟩ := jv_q24 hI g_forms_2
      refine jz_aald hx hb hK 4 c_f_4 rfl rfl (by omega) (by decide) dX9_formAt_17 ?_
      obtain ⟨b_5, eb_5⟩ : ∃ b9 : Nat, f_4 (Int.toNat k) = some b9 := Option.ne_none_iff_exists'.mp ((k_f_4 (Int.toNat k) (by omega)).2 (by omega))
      have g_b_5 := (k_f_4 (Int.toNat k) (by omega)).1 b_5 eb_5
      rw [eb_5]
      refine W.eq (g2 := F0 m 18 ls [.ref b_5]) rfl ?_
      refine lv_goto (tgt := 22) hx hb dX9_formAt_18 (by decide) ?_
      exact W.aret (v := .ref b_5) hx hb hr (Or.inl ⟨_, rfl⟩) (Or.inr ⟨_, rfl⟩) (fun t9 ht hW => ⟨some b_5, rfl, (fun b9 q9 => by cases q9; exact g_b_5), ht⟩) (fun q h => absurd h List.not_mem_nil) dX9_formAt_22
set_option maxHeartbeats 4000000 in
set_option maxRecDepth 100000 in
/-- X9_ruleAt -/
theorem c_ruleAt (l : Launch) (dC : Nat → ClassId) (dI : Nat → Nat → Nat) (ca : Nat → ClassId) (A : Nat → Prop) (X : jG) (hU : jU X) (a0 : Nat) (k : Int) (g_a0 : X.1 a0 = (9, 30, 0, 0, 0)) (kr : -2147483648 ≤ k ∧ k ≤ 2147483647) : Met l yX9_ruleAt wsX9_ruleAt ({ frames := 0, cells := 0, slots := 0, locals := 0 }) (va_Pc [.ref a0, .int (kz k)] (fun U => jK (dC, dI) ca U ∧ jv (dC, dI) ca A X U.heap)) (va_Sq (fun r => ∀ b9 : Nat, r = some b9 → ∃ i9 : Nat, X.1 b9 = (7, 30, i9, 0, 0))) 0 0 (fun _ => False) := by
  refine Met.ofW (cc := cX9_ruleAt) (maxL := 2) (ret := (some (.object "JoinBench$Rule"))) (by decide) rfl ?_
  intro p e s m args below meth c s₁ B hml hv
  obtain ⟨rfl, ⟨hK, hN⟩, hI⟩ := hv
  have hx := B.exec
  have hb := B.bytes
  have hr := B.returns
  have hts := atoms_spec (ws := wsX9_ruleAt) B.pre
  have hown : s.vm.findClass RX9 = some m.cls := findClass_of_methodNamed B.named
  have hL27 := hts (.fieldLink RX9 27 "JoinBench$Tongue" "ruleCount" "I") (by decide +kernel)
  have hL19 := hts (.fieldLink RX9 19 "JoinBench$Tongue" "rules" "[LJoinBench$Rule;") (by decide +kernel)
  have hinX9 : ∀ w ∈ u_ws RX9 TX9 5, w ∈ wsX9_ruleAt := by decide +kernel
  have hl := lv_entry ([.ref a0, .int (kz k)]) (n := 2) (Nat.le_of_ble_eq_true rfl)
  rw [lg_entry_eq]
  generalize (lg_sl ([.ref a0, .int (kz k)]) ++ List.replicate (2 - (lg_sl ([.ref a0, .int (kz k)])).length) Slot.unset).toArray = ls at hl ⊢
  have hl : lv_has ls 2 [(0, .ref a0), (1, .int (kz k))] := hl
  refine lv_iload_n hx hb dX9_ruleAt_0 rfl (lv_at hl 1 rfl) ?_
  refine iz_ltz (tgt := 21) hx hb dX9_ruleAt_1 (by decide) (by unfold rg2; omega) (fun br_1 => ?_) (fun br_1 => ?_)
  · refine lv_null hx hb dX9_ruleAt_21 ?_
    exact W.aret (v := .null) hx hb hr (Or.inl ⟨_, rfl⟩) (Or.inl rfl) (fun t9 ht hW => ⟨none, rfl, (fun b9 q9 => by cases q9), ht⟩) (fun q h => absurd h List.not_mem_nil) dX9_ruleAt_22
  · refine lv_iload_n hx hb dX9_ruleAt_4 rfl (lv_at hl 1 rfl) ?_
    refine lv_aload_n hx hb dX9_ruleAt_5 rfl (lv_at hl 0 rfl) ?_
    obtain ⟨fs9, co_2, jo9⟩ := jv_o9 hI g_a0
    obtain ⟨forms_2, rules_2, formCount_2, ruleCount_2, forbidden_2, rfl, g_forms_2, g_rules_2, ⟨formCount_2a, formCount_2b⟩, ⟨ruleCount_2a, ruleCount_2b⟩, g_forbidden_2, x_2_0, x_2_1, x_2_2⟩ := jo9
    refine iz_get (D := (dC, dI)) (ci := 9) (v := .int (kz ruleCount_2)) (C := RX9) (T := TX9) (N := 5) hx hb hts hinX9 hown hK co_2 rfl 3 (by decide) hL27 (fun _ h9 => h9) rfl dX9_ruleAt_6 ?_
    refine iz_ge (tgt := 21) hx hb dX9_ruleAt_9 (by decide) (by unfold rg2; omega) (fun br_3 => ?_) (fun br_3 => ?_)
    · refine lv_null hx hb dX9_ruleAt_21 ?_
      exact W.aret (v := .null) hx hb hr (Or.inl ⟨_, rfl⟩) (Or.inl rfl) (fun t9 ht hW => ⟨none, rfl, (fun b9 q9 => by cases q9), ht⟩) (fun q h => absurd h List.not_mem_nil) dX9_ruleAt_22
    · refine lv_aload_n hx hb dX9_ruleAt_12 rfl (lv_at hl 0 rfl) ?_
      refine iz_get (D := (dC, dI)) (ci := 9) (v := .ref rules_2) (C := RX9) (T := TX9) (N := 5) hx hb hts hinX9 hown hK co_2 rfl 1 (by decide) hL19 (fun _ h9 => h9) rfl dX9_ruleAt_13 ?_
      refine lv_iload_n hx hb dX9_ruleAt_16 rfl (lv_at hl 1 rfl) ?_
      obtain ⟨f_4, c_f_4, k_f_4⟩ := jv_q29 hI g_rules_2
      refine jz_aald hx hb hK 5 c_f_4 rfl rfl (by omega) (by decide) dX9_ruleAt_17 ?_
      obtain ⟨b_5, eb_5⟩ : ∃ b9 : Nat, f_4 (Int.toNat k) = some b9 := Option.ne_none_iff_exists'.mp ((k_f_4 (Int.toNat k) (by omega)).2 (by omega))
      have g_b_5 := (k_f_4 (Int.toNat k) (by omega)).1 b_5 eb_5
      rw [eb_5]
      refine W.eq (g2 := F0 m 18 ls [.ref b_5]) rfl ?_
      refine lv_goto (tgt := 22) hx hb dX9_ruleAt_18 (by decide) ?_
      exact W.aret (v := .ref b_5) hx hb hr (Or.inl ⟨_, rfl⟩) (Or.inr ⟨_, rfl⟩) (fun t9 ht hW => ⟨some b_5, rfl, (fun b9 q9 => by cases q9; exact ⟨_, g_b_5⟩), ht⟩) (fun q h => absurd h List.not_mem_nil) dX9_ruleAt_22
set_option maxHeartbeats 4000000 in
set_option maxRecDepth 100000 in
/-- X9_rulesInForce -/
theorem c_rulesInForce (l : Launch) (dC : Nat → ClassId) (dI : Nat → Nat → Nat) (ca : Nat → ClassId) (A : Nat → Prop) (X : jG) (hU : jU X) (a0 : Nat) (day : Int) (g_a0 : X.1 a0 = (9, 30, 0, 0, 0)) (dayr : -2147483648 ≤ day ∧ day ≤ 2147483647) : Met l yX9_rulesInForce wsX9_rulesInForce ({ frames := 0, cells := 0, slots := 0, locals := 0 }) (va_Pc [.ref a0, .int (kz day)] (fun U => jK (dC, dI) ca U ∧ jv (dC, dI) ca A X U.heap)) (vp_Si (fun r => True)) 0 0 (fun _ => False) := by
  refine Met.ofW (cc := cX9_rulesInForce) (maxL := 4) (ret := (some .int)) (by decide) rfl ?_
  intro p e s m args below meth c s₁ B hml hv
  obtain ⟨rfl, ⟨hK, hN⟩, hI⟩ := hv
  have hx := B.exec
  have hb := B.bytes
  have hr := B.returns
  have hts := atoms_spec (ws := wsX9_rulesInForce) B.pre
  have hown : s.vm.findClass RX9 = some m.cls := findClass_of_methodNamed B.named
  have hL27 := hts (.fieldLink RX9 27 "JoinBench$Tongue" "ruleCount" "I") (by decide +kernel)
  have hL19 := hts (.fieldLink RX9 19 "JoinBench$Tongue" "rules" "[LJoinBench$Rule;") (by decide +kernel)
  have hL59 := hts (.fieldLink RX9 59 "JoinBench$Rule" "firstDay" "I") (by decide +kernel)
  have hL62 := hts (.fieldLink RX9 62 "JoinBench$Rule" "lastDay" "I") (by decide +kernel)
  have hinX7 : ∀ w ∈ u_ws RX7 TX7 9, w ∈ wsX9_rulesInForce := by decide +kernel
  have hinX9 : ∀ w ∈ u_ws RX9 TX9 5, w ∈ wsX9_rulesInForce := by decide +kernel
  have hl := lv_entry ([.ref a0, .int (kz day)]) (n := 4) (Nat.le_of_ble_eq_true rfl)
  rw [lg_entry_eq]
  generalize (lg_sl ([.ref a0, .int (kz day)]) ++ List.replicate (4 - (lg_sl ([.ref a0, .int (kz day)])).length) Slot.unset).toArray = ls at hl ⊢
  have hl : lv_has ls 4 [(0, .ref a0), (1, .int (kz day))] := hl
  refine lv_iconst (v := kz 0) hx hb dX9_rulesInForce_0 rfl ?_
  refine lv_istore_n (lv' := [(2, .int (kz 0)), (0, .ref a0), (1, .int (kz day))]) hx hb dX9_rulesInForce_1 rfl hl (by decide) rfl (fun ls hl => ?_)
  refine lv_iconst (v := kz 0) hx hb dX9_rulesInForce_2 rfl ?_
  refine lv_istore_n (lv' := [(3, .int (kz 0)), (2, .int (kz 0)), (0, .ref a0), (1, .int (kz day))]) hx hb dX9_rulesInForce_3 rfl hl (by decide) rfl (fun ls hl => ?_)
  refine iz_loopS2 (P := fun N9 v k ls => (-2147483648 ≤ v ∧ v ≤ 2147483647) ∧ (0 ≤ k) ∧ (k ≤ 24) ∧ 24 - k ≤ (N9 : Int) ∧ lv_has ls 4 [(3, .int (kz k)), (2, .int (kz v)), (0, .ref a0), (1, .int (kz day))]) 100000 (x0 := 0) (x1 := 0) ?_ ⟨by omega, by omega, by omega, by omega, lv_sub hl [0, 1, 2, 3] rfl⟩
  intro n_1 v k ls ⟨n_1f0, n_1f1, n_1f2, n_1f3, hl⟩ ihn_1
  refine lv_iload_n hx hb dX9_rulesInForce_4 rfl (lv_at hl 0 rfl) ?_
  refine lv_aload_n hx hb dX9_rulesInForce_5 rfl (lv_at hl 2 rfl) ?_
  obtain ⟨fs9, co_2, jo9⟩ := jv_o9 hI g_a0
  obtain ⟨forms_2, rules_2, formCount_2, ruleCount_2, forbidden_2, rfl, g_forms_2, g_rules_2, ⟨formCount_2a, formCount_2b⟩, ⟨ruleCount_2a, ruleCount_2b⟩, g_forbidden_2, x_2_0, x_2_1, x_2_2⟩ := jo9
  refine iz_get (D := (dC, dI)) (ci := 9) (v := .int (kz ruleCount_2)) (C := RX9) (T := TX9) (N := 5) hx hb hts hinX9 hown hK co_2 rfl 3 (by decide) hL27 (fun _ h9 => h9) rfl dX9_rulesInForce_6 ?_
  refine iz_ge (tgt := 50) hx hb dX9_rulesInForce_9 (by decide) (by unfold rg2; omega) (fun br_3 => ?_) (fun br_3 => ?_)
  · refine lv_iload_n hx hb dX9_rulesInForce_50 rfl (lv_at hl 1 rfl) ?_
    exact W.iret (v := kz v) hx hb hr (fun t9 ht hW => ⟨kz v, rfl, trivial, ht⟩) (fun q h => absurd h List.not_mem_nil) dX9_rulesInForce_51
  · refine lv_aload_n hx hb dX9_rulesInForce_12 rfl (lv_at hl 2 rfl) ?_
    refine iz_get (D := (dC, dI)) (ci := 9) (v := .ref rules_2) (C := RX9) (T := TX9) (N := 5) hx hb hts hinX9 hown hK co_2 rfl 1 (by decide) hL19 (fun _ h9 => h9) rfl dX9_rulesInForce_13 ?_
    refine lv_iload_n hx hb dX9_rulesInForce_16 rfl (lv_at hl 0 rfl) ?_
    obtain ⟨f_4, c_f_4, k_f_4⟩ := jv_q29 hI g_rules_2
    refine jz_aald hx hb hK 5 c_f_4 rfl rfl (by omega) (by decide) dX9_rulesInForce_17 ?_
    obtain ⟨b_5, eb_5⟩ : ∃ b9 : Nat, f_4 (Int.toNat k) = some b9 := Option.ne_none_iff_exists'.mp ((k_f_4 (Int.toNat k) (by omega)).2 (by omega))
    have g_b_5 := (k_f_4 (Int.toNat k) (by omega)).1 b_5 eb_5
    rw [eb_5]
    refine W.eq (g2 := F0 m 18 ls [.ref b_5]) rfl ?_
    obtain ⟨fs9, co_6, jo9⟩ := jv_o7 hI g_b_5
    obtain ⟨ln_6, letters_6, endSize_6, beginningSize_6, comesFrom_6, comesSize_6, cost_6, firstDay_6, lastDay_6, number_6, rfl, g_letters_6, ⟨endSize_6a, endSize_6b⟩, ⟨beginningSize_6a, beginningSize_6b⟩, ⟨comesFrom_6a, comesFrom_6b⟩, ⟨comesSize_6a, comesSize_6b⟩, ⟨cost_6a, cost_6b⟩, ⟨firstDay_6a, firstDay_6b⟩, ⟨lastDay_6a, lastDay_6b⟩, ⟨number_6a, number_6b⟩, x_6_0, x_6_1, x_6_2, x_6_3, x_6_4, x_6_5⟩ := jo9
    refine iz_get (D := (dC, dI)) (ci := 7) (v := .int (kz firstDay_6)) (C := RX7) (T := TX7) (N := 9) hx hb hts hinX7 hown hK co_6 rfl 6 (by decide) hL59 (fun _ h9 => h9) rfl dX9_rulesInForce_18 ?_
    refine lv_iload_n hx hb dX9_rulesInForce_21 rfl (lv_at hl 3 rfl) ?_
    refine iz_gt (tgt := 44) hx hb dX9_rulesInForce_22 (by decide) (by unfold rg2; omega) (fun br_7 => ?_) (fun br_7 => ?_)
    · refine lv_iinc (v := kz (k + 1)) (lv' := [(3, .int (kz (k + 1))), (2, .int (kz v)), (0, .ref a0), (1, .int (kz day))]) hx hb dX9_rulesInForce_44 hl (k := 0) rfl (kz_add k 1) (by decide) rfl (fun ls hl => ?_)
      refine lv_goto (tgt := 4) hx hb dX9_rulesInForce_47 (by decide) ?_
      exact ihn_1 (n_1 - 1) (by omega) v (k + 1) _ ⟨by omega, by omega, by omega, by omega, lv_sub hl [0, 1, 2, 3] rfl⟩
    · refine lv_iload_n hx hb dX9_rulesInForce_25 rfl (lv_at hl 3 rfl) ?_
      refine lv_aload_n hx hb dX9_rulesInForce_26 rfl (lv_at hl 2 rfl) ?_
      refine iz_get (D := (dC, dI)) (ci := 9) (v := .ref rules_2) (C := RX9) (T := TX9) (N := 5) hx hb hts hinX9 hown hK co_2 rfl 1 (by decide) hL19 (fun _ h9 => h9) rfl dX9_rulesInForce_27 ?_
      refine lv_iload_n hx hb dX9_rulesInForce_30 rfl (lv_at hl 0 rfl) ?_
      refine jz_aald hx hb hK 5 c_f_4 rfl rfl (by omega) (by decide) dX9_rulesInForce_31 ?_
      rw [eb_5]
      refine W.eq (g2 := F0 m 32 ls [.ref b_5, .int (kz day)]) rfl ?_
      refine iz_get (D := (dC, dI)) (ci := 7) (v := .int (kz lastDay_6)) (C := RX7) (T := TX7) (N := 9) hx hb hts hinX7 hown hK co_6 rfl 7 (by decide) hL62 (fun _ h9 => h9) rfl dX9_rulesInForce_32 ?_
      refine iz_gt (tgt := 44) hx hb dX9_rulesInForce_35 (by decide) (by unfold rg2; omega) (fun br_9 => ?_) (fun br_9 => ?_)
      · refine lv_iinc (v := kz (k + 1)) (lv' := [(3, .int (kz (k + 1))), (2, .int (kz v)), (0, .ref a0), (1, .int (kz day))]) hx hb dX9_rulesInForce_44 hl (k := 0) rfl (kz_add k 1) (by decide) rfl (fun ls hl => ?_)
        refine lv_goto (tgt := 4) hx hb dX9_rulesInForce_47 (by decide) ?_
        exact ihn_1 (n_1 - 1) (by omega) v (k + 1) _ ⟨by omega, by omega, by omega, by omega, lv_sub hl [0, 1, 2, 3] rfl⟩
      · refine lv_iload_n hx hb dX9_rulesInForce_38 rfl (lv_at hl 1 rfl) ?_
        refine lv_iconst (v := kz 1) hx hb dX9_rulesInForce_39 rfl ?_
        refine lv_iload_n hx hb dX9_rulesInForce_40 rfl (lv_at hl 0 rfl) ?_
        refine lv_ishl hx hb dX9_rulesInForce_41 ?_
        refine iz_any (fun z_10 z_10a z_10b z_10e => ?_)
        refine lv_ior hx hb dX9_rulesInForce_42 ?_
        refine iz_any (fun z_11 z_11a z_11b z_11e => ?_)
        refine lv_istore_n (lv' := [(2, .int (kz z_11)), (3, .int (kz k)), (0, .ref a0), (1, .int (kz day))]) hx hb dX9_rulesInForce_43 rfl hl (by decide) rfl (fun ls hl => ?_)
        refine lv_iinc (v := kz (k + 1)) (lv' := [(3, .int (kz (k + 1))), (2, .int (kz z_11)), (0, .ref a0), (1, .int (kz day))]) hx hb dX9_rulesInForce_44 hl (k := 1) rfl (kz_add k 1) (by decide) rfl (fun ls hl => ?_)
        refine lv_goto (tgt := 4) hx hb dX9_rulesInForce_47 (by decide) ?_
        exact ihn_1 (n_1 - 1) (by omega) z_11 (k + 1) _ ⟨by omega, by omega, by omega, by omega, lv_sub hl [0, 1, 2, 3] rfl⟩
set_option maxHeartbeats 4000000 in
set_option maxRecDepth 100000 in
/-- X9_allMayMeet -/
theorem c_allMayMeet (l : Launch) (dC : Nat → ClassId) (dI : Nat → Nat → Nat) (ca : Nat → ClassId) (A : Nat → Prop) (X : jG) (hU : jU X) (a0 : Nat) (g_a0 : X.1 a0 = (9, 30, 0, 0, 0)) : Met l yX9_allMayMeet wsX9_allMayMeet ({ frames := 0, cells := 0, slots := 0, locals := 0 }) (va_Pc [.ref a0] (fun U => jK (dC, dI) ca U ∧ jv (dC, dI) ca A X U.heap)) (vp_Si (fun r => r = kz 1 ∨ r = kz 0)) 0 0 (fun _ => False) := by
  refine Met.ofW (cc := cX9_allMayMeet) (maxL := 2) (ret := (some .boolean)) (by decide) rfl ?_
  intro p e s m args below meth c s₁ B hml hv
  obtain ⟨rfl, ⟨hK, hN⟩, hI⟩ := hv
  have hx := B.exec
  have hb := B.bytes
  have hr := B.returns
  have hts := atoms_spec (ws := wsX9_allMayMeet) B.pre
  have hown : s.vm.findClass RX9 = some m.cls := findClass_of_methodNamed B.named
  have hL30 := hts (.fieldLink RX9 30 "JoinBench$Tongue" "forbidden" "[Z") (by decide +kernel)
  have hinX9 : ∀ w ∈ u_ws RX9 TX9 5, w ∈ wsX9_allMayMeet := by decide +kernel
  have hl := lv_entry ([.ref a0]) (n := 2) (Nat.le_of_ble_eq_true rfl)
  rw [lg_entry_eq]
  generalize (lg_sl ([.ref a0]) ++ List.replicate (2 - (lg_sl ([.ref a0])).length) Slot.unset).toArray = ls at hl ⊢
  have hl : lv_has ls 2 [(0, .ref a0)] := hl
  refine lv_iconst (v := kz 0) hx hb dX9_allMayMeet_0 rfl ?_
  refine lv_istore_n (lv' := [(1, .int (kz 0)), (0, .ref a0)]) hx hb dX9_allMayMeet_1 rfl hl (by decide) rfl (fun ls hl => ?_)
  refine iz_loopS1 (P := fun N9 k ls => (0 ≤ k) ∧ (k ≤ 36) ∧ 36 - k ≤ (N9 : Int) ∧ lv_has ls 2 [(1, .int (kz k)), (0, .ref a0)]) 100000 (x0 := 0) ?_ ⟨by omega, by omega, by omega, lv_sub hl [0, 1] rfl⟩
  intro n_1 k ls ⟨n_1f0, n_1f1, n_1f2, hl⟩ ihn_1
  refine lv_iload_n hx hb dX9_allMayMeet_2 rfl (lv_at hl 0 rfl) ?_
  refine lv_bipush (v := kz 36) hx hb dX9_allMayMeet_3 (by decide) ?_
  refine iz_ge (tgt := 25) hx hb dX9_allMayMeet_5 (by decide) (by unfold rg2; omega) (fun br_2 => ?_) (fun br_2 => ?_)
  · refine lv_iconst (v := kz 1) hx hb dX9_allMayMeet_25 rfl ?_
    exact W.zret (v := kz 1) hx hb hr (by decide) (fun t9 ht hW => ⟨kz 1, rfl, Or.inl rfl, ht⟩) (fun q h => absurd h List.not_mem_nil) dX9_allMayMeet_26
  · refine lv_aload_n hx hb dX9_allMayMeet_8 rfl (lv_at hl 1 rfl) ?_
    obtain ⟨fs9, co_3, jo9⟩ := jv_o9 hI g_a0
    obtain ⟨forms_3, rules_3, formCount_3, ruleCount_3, forbidden_3, rfl, g_forms_3, g_rules_3, ⟨formCount_3a, formCount_3b⟩, ⟨ruleCount_3a, ruleCount_3b⟩, g_forbidden_3, x_3_0, x_3_1, x_3_2⟩ := jo9
    refine iz_get (D := (dC, dI)) (ci := 9) (v := .ref forbidden_3) (C := RX9) (T := TX9) (N := 5) hx hb hts hinX9 hown hK co_3 rfl 4 (by decide) hL30 (fun _ h9 => h9) rfl dX9_allMayMeet_9 ?_
    refine lv_iload_n hx hb dX9_allMayMeet_12 rfl (lv_at hl 0 rfl) ?_
    obtain ⟨f_4, c_f_4⟩ := iv_o22 (jv_iv hI) g_forbidden_3
    refine iz_zald hx hb hK 2 c_f_4 rfl (by omega) (by decide) dX9_allMayMeet_13 ?_
    have v_5a := kz_lo (f_4 (Int.toNat k))
    have v_5b := kz_hi (f_4 (Int.toNat k))
    change _ ≤ ge1 f_4 k at v_5a
    change ge1 f_4 k ≤ _ at v_5b
    obtain ⟨v_5, ev_5⟩ : ∃ z9 : Int, ge1 f_4 k = z9 := ⟨_, rfl⟩
    rw [ev_5] at v_5a v_5b ⊢
    refine iz_eqz (tgt := 19) hx hb dX9_allMayMeet_14 (by decide) (by unfold rg2; omega) (fun br_6 => ?_) (fun br_6 => ?_)
    · refine lv_iinc (v := kz (k + 1)) (lv' := [(1, .int (kz (k + 1))), (0, .ref a0)]) hx hb dX9_allMayMeet_19 hl (k := 0) rfl (kz_add k 1) (by decide) rfl (fun ls hl => ?_)
      refine lv_goto (tgt := 2) hx hb dX9_allMayMeet_22 (by decide) ?_
      exact ihn_1 (n_1 - 1) (by omega) (k + 1) _ ⟨by omega, by omega, by omega, lv_sub hl [0, 1] rfl⟩
    · refine lv_iconst (v := kz 0) hx hb dX9_allMayMeet_17 rfl ?_
      exact W.zret (v := kz 0) hx hb hr (by decide) (fun t9 ht hW => ⟨kz 0, rfl, Or.inr rfl, ht⟩) (fun q h => absurd h List.not_mem_nil) dX9_allMayMeet_18
set_option maxHeartbeats 4000000 in
set_option maxRecDepth 100000 in
/-- X9_setMeeting -/
theorem c_setMeeting (l : Launch) (dC : Nat → ClassId) (dI : Nat → Nat → Nat) (ca : Nat → ClassId) (A : Nat → Prop) (X : jG) (hU : jU X) (Hp : Heap) (a0 : Nat) (x : Int) (y : Int) (may : Int) (g_a0 : X.1 a0 = (9, 30, 0, 0, 0)) (xi : 0 ≤ x ∧ x ≤ 5) (yi : 0 ≤ y ∧ y ≤ 5) (mayr : -2147483648 ≤ may ∧ may ≤ 2147483647) : Met l yX9_setMeeting wsX9_setMeeting ({ frames := 0, cells := 0, slots := 0, locals := 0 }) (va_Pc [.ref a0, .int (kz x), .int (kz y), .int (kz may)] (fun U => U.heap = Hp ∧ jK (dC, dI) ca U ∧ jv (dC, dI) ca A X U.heap)) (va_Qi (fun (r : Int32) (u : Unit) => r = kz 1 ∨ r = kz 0) (fun u U => jK (dC, dI) ca U ∧ jv (dC, dI) ca A X U.heap ∧ kfm X [214] Hp U.heap) A) 0 0 A := by
  refine Met.ofW (cc := cX9_setMeeting) (maxL := 5) (ret := (some .boolean)) (by decide) rfl ?_
  intro p e s m args below meth c s₁ B hml hv
  obtain ⟨rfl, hHp, ⟨hK, hN⟩, hI⟩ := hv
  have hx := B.exec
  have hb := B.bytes
  have hr := B.returns
  have hts := atoms_spec (ws := wsX9_setMeeting) B.pre
  have hown : s.vm.findClass RX9 = some m.cls := findClass_of_methodNamed B.named
  have hL30 := hts (.fieldLink RX9 30 "JoinBench$Tongue" "forbidden" "[Z") (by decide +kernel)
  have hinX9 : ∀ w ∈ u_ws RX9 TX9 5, w ∈ wsX9_setMeeting := by decide +kernel
  obtain ⟨H, hH⟩ : ∃ H : Heap, H = s.heap := ⟨_, rfl⟩
  have hS : va_S A s.heap H [] := by rw [hH]; exact va_S.rf
  have hF : kfm X [214] Hp H := by rw [hH, hHp]; exact fm_rf _ _ _
  rw [← hH] at hI ⊢
  clear hH
  have hl := lv_entry ([.ref a0, .int (kz x), .int (kz y), .int (kz may)]) (n := 5) (Nat.le_of_ble_eq_true rfl)
  rw [lg_entry_eq]
  generalize (lg_sl ([.ref a0, .int (kz x), .int (kz y), .int (kz may)]) ++ List.replicate (5 - (lg_sl ([.ref a0, .int (kz x), .int (kz y), .int (kz may)])).length) Slot.unset).toArray = ls at hl ⊢
  have hl : lv_has ls 5 [(0, .ref a0), (1, .int (kz x)), (2, .int (kz y)), (3, .int (kz may))] := hl
  refine lv_aload_n hx hb dX9_setMeeting_0 rfl (lv_at hl 0 rfl) ?_
  obtain ⟨fs9, co_1, jo9⟩ := jv_o9 hI g_a0
  obtain ⟨forms_1, rules_1, formCount_1, ruleCount_1, forbidden_1, rfl, g_forms_1, g_rules_1, ⟨formCount_1a, formCount_1b⟩, ⟨ruleCount_1a, ruleCount_1b⟩, g_forbidden_1, x_1_0, x_1_1, x_1_2⟩ := jo9
  refine iz_get (D := (dC, dI)) (ci := 9) (v := .ref forbidden_1) (C := RX9) (T := TX9) (N := 5) hx hb hts hinX9 hown hK co_1 rfl 4 (by decide) hL30 (fun _ h9 => h9) rfl dX9_setMeeting_1 ?_
  refine lv_iload_n hx hb dX9_setMeeting_4 rfl (lv_at hl 1 rfl) ?_
  refine lv_bipush (v := kz 6) hx hb dX9_setMeeting_5 (by decide) ?_
  refine iz_imul hx hb dX9_setMeeting_7 ?_
  refine lv_iload_n hx hb dX9_setMeeting_8 rfl (lv_at hl 2 rfl) ?_
  refine iz_iadd hx hb dX9_setMeeting_9 ?_
  obtain ⟨f_2, c_f_2⟩ := iv_o22 (jv_iv hI) g_forbidden_1
  refine iz_zald hx hb hK 2 c_f_2 rfl (by omega) (by decide) dX9_setMeeting_10 ?_
  have v_3a := kz_lo (f_2 (Int.toNat ((x * 6) + y)))
  have v_3b := kz_hi (f_2 (Int.toNat ((x * 6) + y)))
  change _ ≤ ge1 f_2 ((x * 6) + y) at v_3a
  change ge1 f_2 ((x * 6) + y) ≤ _ at v_3b
  obtain ⟨v_3, ev_3⟩ : ∃ z9 : Int, ge1 f_2 ((x * 6) + y) = z9 := ⟨_, rfl⟩
  rw [ev_3] at v_3a v_3b ⊢
  refine lv_iload_n hx hb dX9_setMeeting_11 rfl (lv_at hl 3 rfl) ?_
  refine iz_ne (tgt := 19) hx hb dX9_setMeeting_12 (by decide) (by unfold rg2; omega) (fun br_4 => ?_) (fun br_4 => ?_)
  · refine lv_iconst (v := kz 0) hx hb dX9_setMeeting_19 rfl ?_
    refine lv_istore (lv' := [(4, .int (kz 0)), (0, .ref a0), (1, .int (kz x)), (2, .int (kz y)), (3, .int (kz may))]) hx hb dX9_setMeeting_20 hl (by decide) rfl (fun ls hl => ?_)
    refine lv_aload_n hx hb dX9_setMeeting_22 rfl (lv_at hl 1 rfl) ?_
    refine iz_get (D := (dC, dI)) (ci := 9) (v := .ref forbidden_1) (C := RX9) (T := TX9) (N := 5) hx hb hts hinX9 hown hK co_1 rfl 4 (by decide) hL30 (fun _ h9 => h9) rfl dX9_setMeeting_23 ?_
    refine lv_iload_n hx hb dX9_setMeeting_26 rfl (lv_at hl 2 rfl) ?_
    refine lv_bipush (v := kz 6) hx hb dX9_setMeeting_27 (by decide) ?_
    refine iz_imul hx hb dX9_setMeeting_29 ?_
    refine lv_iload_n hx hb dX9_setMeeting_30 rfl (lv_at hl 3 rfl) ?_
    refine iz_iadd hx hb dX9_setMeeting_31 ?_
    refine lv_iload_n hx hb dX9_setMeeting_32 rfl (lv_at hl 4 rfl) ?_
    refine iz_nez (tgt := 40) hx hb dX9_setMeeting_33 (by decide) (by unfold rg2; omega) (fun br_5 => ?_) (fun br_5 => ?_)
    · refine lv_iconst (v := kz 0) hx hb dX9_setMeeting_40 rfl ?_
      refine iz_zast hx hb hK 2 c_f_2 hS (jv_A hI g_forbidden_1 (show (22 : Nat) ≠ 0 by decide)) rfl (by omega) (by decide) dX9_setMeeting_41 (fun H locs c9 oq hS => ?_)
      have hI := jv_s22 hI g_forbidden_1 c9 oq
      have hF := fm_put hF g_forbidden_1 (show (214 : Nat) ∈ [214] by decide) oq
      have co_1 := co_1.kept (oq _ (kn_ne g_a0 g_forbidden_1 (show (9 : Nat) ≠ 214 by decide)))
      clear oq c9
      refine lv_iload hx hb dX9_setMeeting_42 (lv_at hl 0 rfl) ?_
      exact W.zret (v := kz 0) hx hb hr (by decide) (fun t9 ht hW => ⟨⟨kz 0, (), rfl, Or.inr rfl, jK_warm hW ⟨hK, hN⟩, by rw [ht]; exact ⟨hI, hF⟩⟩, hS.F ht⟩) hS.2.2 dX9_setMeeting_44
    · refine lv_iconst (v := kz 1) hx hb dX9_setMeeting_36 rfl ?_
      refine lv_goto (tgt := 41) hx hb dX9_setMeeting_37 (by decide) ?_
      refine iz_zast hx hb hK 2 c_f_2 hS (jv_A hI g_forbidden_1 (show (22 : Nat) ≠ 0 by decide)) rfl (by omega) (by decide) dX9_setMeeting_41 (fun H locs c9 oq hS => ?_)
      have hI := jv_s22 hI g_forbidden_1 c9 oq
      have hF := fm_put hF g_forbidden_1 (show (214 : Nat) ∈ [214] by decide) oq
      have co_1 := co_1.kept (oq _ (kn_ne g_a0 g_forbidden_1 (show (9 : Nat) ≠ 214 by decide)))
      clear oq c9
      refine lv_iload hx hb dX9_setMeeting_42 (lv_at hl 0 rfl) ?_
      exact W.zret (v := kz 0) hx hb hr (by decide) (fun t9 ht hW => ⟨⟨kz 0, (), rfl, Or.inr rfl, jK_warm hW ⟨hK, hN⟩, by rw [ht]; exact ⟨hI, hF⟩⟩, hS.F ht⟩) hS.2.2 dX9_setMeeting_44
  · refine lv_iconst (v := kz 1) hx hb dX9_setMeeting_15 rfl ?_
    refine lv_goto (tgt := 20) hx hb dX9_setMeeting_16 (by decide) ?_
    refine lv_istore (lv' := [(4, .int (kz 1)), (0, .ref a0), (1, .int (kz x)), (2, .int (kz y)), (3, .int (kz may))]) hx hb dX9_setMeeting_20 hl (by decide) rfl (fun ls hl => ?_)
    refine lv_aload_n hx hb dX9_setMeeting_22 rfl (lv_at hl 1 rfl) ?_
    refine iz_get (D := (dC, dI)) (ci := 9) (v := .ref forbidden_1) (C := RX9) (T := TX9) (N := 5) hx hb hts hinX9 hown hK co_1 rfl 4 (by decide) hL30 (fun _ h9 => h9) rfl dX9_setMeeting_23 ?_
    refine lv_iload_n hx hb dX9_setMeeting_26 rfl (lv_at hl 2 rfl) ?_
    refine lv_bipush (v := kz 6) hx hb dX9_setMeeting_27 (by decide) ?_
    refine iz_imul hx hb dX9_setMeeting_29 ?_
    refine lv_iload_n hx hb dX9_setMeeting_30 rfl (lv_at hl 3 rfl) ?_
    refine iz_iadd hx hb dX9_setMeeting_31 ?_
    refine lv_iload_n hx hb dX9_setMeeting_32 rfl (lv_at hl 4 rfl) ?_
    refine iz_nez (tgt := 40) hx hb dX9_setMeeting_33 (by decide) (by unfold rg2; omega) (fun br_6 => ?_) (fun br_6 => ?_)
    · refine lv_iconst (v := kz 0) hx hb dX9_setMeeting_40 rfl ?_
      refine iz_zast hx hb hK 2 c_f_2 hS (jv_A hI g_forbidden_1 (show (22 : Nat) ≠ 0 by decide)) rfl (by omega) (by decide) dX9_setMeeting_41 (fun H locs c9 oq hS => ?_)
      have hI := jv_s22 hI g_forbidden_1 c9 oq
      have hF := fm_put hF g_forbidden_1 (show (214 : Nat) ∈ [214] by decide) oq
      have co_1 := co_1.kept (oq _ (kn_ne g_a0 g_forbidden_1 (show (9 : Nat) ≠ 214 by decide)))
      clear oq c9
      refine lv_iload hx hb dX9_setMeeting_42 (lv_at hl 0 rfl) ?_
      exact W.zret (v := kz 1) hx hb hr (by decide) (fun t9 ht hW => ⟨⟨kz 1, (), rfl, Or.inl rfl, jK_warm hW ⟨hK, hN⟩, by rw [ht]; exact ⟨hI, hF⟩⟩, hS.F ht⟩) hS.2.2 dX9_setMeeting_44
    · refine lv_iconst (v := kz 1) hx hb dX9_setMeeting_36 rfl ?_
      refine lv_goto (tgt := 41) hx hb dX9_setMeeting_37 (by decide) ?_
      refine iz_zast hx hb hK 2 c_f_2 hS (jv_A hI g_forbidden_1 (show (22 : Nat) ≠ 0 by decide)) rfl (by omega) (by decide) dX9_setMeeting_41 (fun H locs c9 oq hS => ?_)
      have hI := jv_s22 hI g_forbidden_1 c9 oq
      have hF := fm_put hF g_forbidden_1 (show (214 : Nat) ∈ [214] by decide) oq
      have co_1 := co_1.kept (oq _ (kn_ne g_a0 g_forbidden_1 (show (9 : Nat) ≠ 214 by decide)))
      clear oq c9
      refine lv_iload hx hb dX9_setMeeting_42 (lv_at hl 0 rfl) ?_
      exact W.zret (v := kz 1) hx hb hr (by decide) (fun t9 ht hW => ⟨⟨kz 1, (), rfl, Or.inl rfl, jK_warm hW ⟨hK, hN⟩, by rw [ht]; exact ⟨hI, hF⟩⟩, hS.F ht⟩) hS.2.2 dX9_setMeeting_44
set_option maxHeartbeats 4000000 in
set_option maxRecDepth 100000 in
/-- X0_formAt -/
theorem c_chFormAt (l : Launch) (dC : Nat → ClassId) (dI : Nat → Nat → Nat) (ca : Nat → ClassId) (A : Nat → Prop) (X : jG) (hU : jU X) (a0 : Nat) (k : Int) (id : Nat) (g_a0 : X.1 a0 = (0, 30, id, 0, 0)) (kr : -2147483648 ≤ k ∧ k ≤ 2147483647) : Met l yX0_formAt wsX0_formAt ({ frames := 0, cells := 0, slots := 0, locals := 0 }) (va_Pc [.ref a0, .int (kz k)] (fun U => jK (dC, dI) ca U ∧ jv (dC, dI) ca A X U.heap)) (va_Sq (fun r => ∀ b9 : Nat, r = some b9 → X.1 b9 = (2, 30, 0, 0, 0))) 0 0 (fun _ => False) := by
  refine Met.ofW (cc := cX0_formAt) (maxL := 2) (ret := (some (.object "JoinBench$Form"))) (by decide) rfl ?_
  intro p e s m args below meth c s₁ B hml hv
  obtain ⟨rfl, ⟨hK, hN⟩, hI⟩ := hv
  have hx := B.exec
  have hb := B.bytes
  have hr := B.returns
  have hts := atoms_spec (ws := wsX0_formAt) B.pre
  have hown : s.vm.findClass RX0 = some m.cls := findClass_of_methodNamed B.named
  have hL23 := hts (.fieldLink RX0 23 "JoinBench$Chain" "size" "I") (by decide +kernel)
  have hL11 := hts (.fieldLink RX0 11 "JoinBench$Chain" "forms" "[LJoinBench$Form;") (by decide +kernel)
  have hinX0 : ∀ w ∈ u_ws RX0 TX0 3, w ∈ wsX0_formAt := by decide +kernel
  have hl := lv_entry ([.ref a0, .int (kz k)]) (n := 2) (Nat.le_of_ble_eq_true rfl)
  rw [lg_entry_eq]
  generalize (lg_sl ([.ref a0, .int (kz k)]) ++ List.replicate (2 - (lg_sl ([.ref a0, .int (kz k)])).length) Slot.unset).toArray = ls at hl ⊢
  have hl : lv_has ls 2 [(0, .ref a0), (1, .int (kz k))] := hl
  refine lv_iload_n hx hb dX0_formAt_0 rfl (lv_at hl 1 rfl) ?_
  refine iz_ltz (tgt := 21) hx hb dX0_formAt_1 (by decide) (by unfold rg2; omega) (fun br_1 => ?_) (fun br_1 => ?_)
  · refine lv_null hx hb dX0_formAt_21 ?_
    exact W.aret (v := .null) hx hb hr (Or.inl ⟨_, rfl⟩) (Or.inl rfl) (fun t9 ht hW => ⟨none, rfl, (fun b9 q9 => by cases q9), ht⟩) (fun q h => absurd h List.not_mem_nil) dX0_formAt_22
  · refine lv_iload_n hx hb dX0_formAt_4 rfl (lv_at hl 1 rfl) ?_
    refine lv_aload_n hx hb dX0_formAt_5 rfl (lv_at hl 0 rfl) ?_
    obtain ⟨fs9, co_2, jo9⟩ := jv_o0 hI g_a0
    obtain ⟨forms_2, rules_2, size_2, rfl, g_forms_2, g_rules_2, ⟨size_2a, size_2b⟩, x_2_0⟩ := jo9
    refine iz_get (D := (dC, dI)) (ci := 0) (v := .int (kz size_2)) (C := RX0) (T := TX0) (N := 3) hx hb hts hinX0 hown hK co_2 rfl 2 (by decide) hL23 (fun _ h9 => h9) rfl dX0_formAt_6 ?_
    refine iz_ge (tgt := 21) hx hb dX0_formAt_9 (by decide) (by unfold rg2; omega) (fun br_3 => ?_) (fun br_3 => ?_)
    · refine lv_null hx hb dX0_formAt_21 ?_
      exact W.aret (v := .null) hx hb hr (Or.inl ⟨_, rfl⟩) (Or.inl rfl) (fun t9 ht hW => ⟨none, rfl, (fun b9 q9 => by cases q9), ht⟩) (fun q h => absurd h List.not_mem_nil) dX0_formAt_22
    · refine lv_aload_n hx hb dX0_formAt_12 rfl (lv_at hl 0 rfl) ?_
      refine iz_get (D := (dC, dI)) (ci := 0) (v := .ref forms_2) (C := RX0) (T := TX0) (N := 3) hx hb hts hinX0 hown hK co_2 rfl 0 (by decide) hL11 (fun _ h9 => h9) rfl dX0_formAt_13 ?_
      refine lv_iload_n hx hb dX0_formAt_16 rfl (lv_at hl 1 rfl) ?_
      obtain ⟨f_4, c_f_4, k_f_4⟩ := jv_q24 hI g_forms_2
      refine jz_aald hx hb hK 4 c_f_4 rfl rfl (by omega) (by decide) dX0_formAt_17 ?_
      obtain ⟨b_5, eb_5⟩ : ∃ b9 : Nat, f_4 (Int.toNat k) = some b9 := Option.ne_none_iff_exists'.mp ((k_f_4 (Int.toNat k) (by omega)).2 (by omega))
      have g_b_5 := (k_f_4 (Int.toNat k) (by omega)).1 b_5 eb_5
      rw [eb_5]
      refine W.eq (g2 := F0 m 18 ls [.ref b_5]) rfl ?_
      refine lv_goto (tgt := 22) hx hb dX0_formAt_18 (by decide) ?_
      exact W.aret (v := .ref b_5) hx hb hr (Or.inl ⟨_, rfl⟩) (Or.inr ⟨_, rfl⟩) (fun t9 ht hW => ⟨some b_5, rfl, (fun b9 q9 => by cases q9; exact g_b_5), ht⟩) (fun q h => absurd h List.not_mem_nil) dX0_formAt_22
set_option maxHeartbeats 4000000 in
set_option maxRecDepth 100000 in
/-- X0_ruleAheadOf -/
theorem c_ruleAheadOf (l : Launch) (dC : Nat → ClassId) (dI : Nat → Nat → Nat) (ca : Nat → ClassId) (A : Nat → Prop) (X : jG) (hU : jU X) (a0 : Nat) (k : Int) (id : Nat) (g_a0 : X.1 a0 = (0, 30, id, 0, 0)) (kr : -2147483648 ≤ k ∧ k ≤ 2147483647) : Met l yX0_ruleAheadOf wsX0_ruleAheadOf ({ frames := 0, cells := 0, slots := 0, locals := 0 }) (va_Pc [.ref a0, .int (kz k)] (fun U => jK (dC, dI) ca U ∧ jv (dC, dI) ca A X U.heap)) (va_Sq (fun r => ∀ b9 : Nat, r = some b9 → ∃ i9 : Nat, X.1 b9 = (7, 30, i9, 0, 0))) 0 0 (fun _ => False) := by
  refine Met.ofW (cc := cX0_ruleAheadOf) (maxL := 2) (ret := (some (.object "JoinBench$Rule"))) (by decide) rfl ?_
  intro p e s m args below meth c s₁ B hml hv
  obtain ⟨rfl, ⟨hK, hN⟩, hI⟩ := hv
  have hx := B.exec
  have hb := B.bytes
  have hr := B.returns
  have hts := atoms_spec (ws := wsX0_ruleAheadOf) B.pre
  have hown : s.vm.findClass RX0 = some m.cls := findClass_of_methodNamed B.named
  have hL23 := hts (.fieldLink RX0 23 "JoinBench$Chain" "size" "I") (by decide +kernel)
  have hL19 := hts (.fieldLink RX0 19 "JoinBench$Chain" "rules" "[LJoinBench$Rule;") (by decide +kernel)
  have hinX0 : ∀ w ∈ u_ws RX0 TX0 3, w ∈ wsX0_ruleAheadOf := by decide +kernel
  have hl := lv_entry ([.ref a0, .int (kz k)]) (n := 2) (Nat.le_of_ble_eq_true rfl)
  rw [lg_entry_eq]
  generalize (lg_sl ([.ref a0, .int (kz k)]) ++ List.replicate (2 - (lg_sl ([.ref a0, .int (kz k)])).length) Slot.unset).toArray = ls at hl ⊢
  have hl : lv_has ls 2 [(0, .ref a0), (1, .int (kz k))] := hl
  refine lv_iload_n hx hb dX0_ruleAheadOf_0 rfl (lv_at hl 1 rfl) ?_
  refine iz_ltz (tgt := 21) hx hb dX0_ruleAheadOf_1 (by decide) (by unfold rg2; omega) (fun br_1 => ?_) (fun br_1 => ?_)
  · refine lv_null hx hb dX0_ruleAheadOf_21 ?_
    exact W.aret (v := .null) hx hb hr (Or.inl ⟨_, rfl⟩) (Or.inl rfl) (fun t9 ht hW => ⟨none, rfl, (fun b9 q9 => by cases q9), ht⟩) (fun q h => absurd h List.not_mem_nil) dX0_ruleAheadOf_22
  · refine lv_iload_n hx hb dX0_ruleAheadOf_4 rfl (lv_at hl 1 rfl) ?_
    refine lv_aload_n hx hb dX0_ruleAheadOf_5 rfl (lv_at hl 0 rfl) ?_
    obtain ⟨fs9, co_2, jo9⟩ := jv_o0 hI g_a0
    obtain ⟨forms_2, rules_2, size_2, rfl, g_forms_2, g_rules_2, ⟨size_2a, size_2b⟩, x_2_0⟩ := jo9
    refine iz_get (D := (dC, dI)) (ci := 0) (v := .int (kz size_2)) (C := RX0) (T := TX0) (N := 3) hx hb hts hinX0 hown hK co_2 rfl 2 (by decide) hL23 (fun _ h9 => h9) rfl dX0_ruleAheadOf_6 ?_
    refine iz_ge (tgt := 21) hx hb dX0_ruleAheadOf_9 (by decide) (by unfold rg2; omega) (fun br_3 => ?_) (fun br_3 => ?_)
    · refine lv_null hx hb dX0_ruleAheadOf_21 ?_
      exact W.aret (v := .null) hx hb hr (Or.inl ⟨_, rfl⟩) (Or.inl rfl) (fun t9 ht hW => ⟨none, rfl, (fun b9 q9 => by cases q9), ht⟩) (fun q h => absurd h List.not_mem_nil) dX0_ruleAheadOf_22
    · refine lv_aload_n hx hb dX0_ruleAheadOf_12 rfl (lv_at hl 0 rfl) ?_
      refine iz_get (D := (dC, dI)) (ci := 0) (v := .ref rules_2) (C := RX0) (T := TX0) (N := 3) hx hb hts hinX0 hown hK co_2 rfl 1 (by decide) hL19 (fun _ h9 => h9) rfl dX0_ruleAheadOf_13 ?_
      refine lv_iload_n hx hb dX0_ruleAheadOf_16 rfl (lv_at hl 1 rfl) ?_
      obtain ⟨f_4, c_f_4, k_f_4⟩ := jv_q25 hI g_rules_2
      refine jz_aald hx hb hK 5 c_f_4 rfl rfl (by omega) (by decide) dX0_ruleAheadOf_17 ?_
      rcases eb_5 : f_4 (Int.toNat k) with _ | b_5
      · refine W.eq (g2 := F0 m 18 ls [.null]) rfl ?_
        refine lv_goto (tgt := 22) hx hb dX0_ruleAheadOf_18 (by decide) ?_
        exact W.aret (v := .null) hx hb hr (Or.inl ⟨_, rfl⟩) (Or.inl rfl) (fun t9 ht hW => ⟨none, rfl, (fun b9 q9 => by cases q9), ht⟩) (fun q h => absurd h List.not_mem_nil) dX0_ruleAheadOf_22
      · obtain ⟨i_b_5, g_b_5⟩ := k_f_4 (Int.toNat k) (by omega) b_5 eb_5
        refine W.eq (g2 := F0 m 18 ls [.ref b_5]) rfl ?_
        refine lv_goto (tgt := 22) hx hb dX0_ruleAheadOf_18 (by decide) ?_
        exact W.aret (v := .ref b_5) hx hb hr (Or.inl ⟨_, rfl⟩) (Or.inr ⟨_, rfl⟩) (fun t9 ht hW => ⟨some b_5, rfl, (fun b9 q9 => by cases q9; exact ⟨_, g_b_5⟩), ht⟩) (fun q h => absurd h List.not_mem_nil) dX0_ruleAheadOf_22
set_option maxHeartbeats 4000000 in
set_option maxRecDepth 100000 in
/-- X0_last -/
theorem c_last (l : Launch) (dC : Nat → ClassId) (dI : Nat → Nat → Nat) (ca : Nat → ClassId) (A : Nat → Prop) (X : jG) (hU : jU X) (a0 : Nat) (id : Nat) (g_a0 : X.1 a0 = (0, 30, id, 0, 0)) : Met l yX0_last wsX0_last ({ frames := 1, cells := 0, slots := 0, locals := 21 }) (va_Pc [.ref a0] (fun U => jK (dC, dI) ca U ∧ jv (dC, dI) ca A X U.heap)) (va_Sq (fun r => ∀ b9 : Nat, r = some b9 → X.1 b9 = (2, 30, 0, 0, 0))) 0 0 (fun _ => False) := by
  refine Met.ofW (cc := cX0_last) (maxL := 1) (ret := (some (.object "JoinBench$Form"))) (by decide) rfl ?_
  intro p e s m args below meth c s₁ B hml hv
  obtain ⟨rfl, ⟨hK, hN⟩, hI⟩ := hv
  have hx := B.exec
  have hb := B.bytes
  have hr := B.returns
  have hts := atoms_spec (ws := wsX0_last) B.pre
  have hown : s.vm.findClass RX0 = some m.cls := findClass_of_methodNamed B.named
  have hL23 := hts (.fieldLink RX0 23 "JoinBench$Chain" "size" "I") (by decide +kernel)
  have hinX0 : ∀ w ∈ u_ws RX0 TX0 3, w ∈ wsX0_last := by decide +kernel
  have hl := lv_entry ([.ref a0]) (n := 1) (Nat.le_of_ble_eq_true rfl)
  rw [lg_entry_eq]
  generalize (lg_sl ([.ref a0]) ++ List.replicate (1 - (lg_sl ([.ref a0])).length) Slot.unset).toArray = ls at hl ⊢
  have hl : lv_has ls 1 [(0, .ref a0)] := hl
  refine lv_aload_n hx hb dX0_last_0 rfl (lv_at hl 0 rfl) ?_
  refine lv_aload_n hx hb dX0_last_1 rfl (lv_at hl 0 rfl) ?_
  obtain ⟨fs9, co_1, jo9⟩ := jv_o0 hI g_a0
  obtain ⟨forms_1, rules_1, size_1, rfl, g_forms_1, g_rules_1, ⟨size_1a, size_1b⟩, x_1_0⟩ := jo9
  refine iz_get (D := (dC, dI)) (ci := 0) (v := .int (kz size_1)) (C := RX0) (T := TX0) (N := 3) hx hb hts hinX0 hown hK co_1 rfl 2 (by decide) hL23 (fun _ h9 => h9) rfl dX0_last_2 ?_
  refine lv_iconst (v := kz 1) hx hb dX0_last_5 rfl ?_
  refine iz_isub hx hb dX0_last_6 ?_
  refine va_csq (va_Run.run (va_runV (As := [.int (kz (size_1 - 1))]) (rest := []) ⟨hx, hb, hml, hown, hts⟩ (c_chFormAt l dC dI ca A X hU a0 (size_1 - 1) id g_a0 (by omega)) (cwV 1 hts gX0_last_X0_formAt rfl rfl rfl (by decide +kernel) ⟨Nat.le_of_ble_eq_true rfl, Nat.le_of_ble_eq_true rfl⟩) ⟨fun a U g mk q => by obtain ⟨q0, ⟨qK, qN⟩, qI⟩ := q; exact ⟨q0, ⟨va_K.moved (u := U) (U := U.calling g mk a) (Vm.Alike.refl U.vm) qK, jN_same (U := U.calling g mk a) rfl qN⟩, qI⟩, va_recv hK (at_P co_1) (ci := 0) (q0 := 0) rfl rfl, fun U hU hW => ⟨rfl, jK_warm hW ⟨hK, hN⟩, by rw [hU]; exact hI⟩⟩ rfl rfl hl.1 rfl (lv_room (Nat.le_of_ble_eq_true rfl)) dX0_last_7 ⟨Nat.le_of_ble_eq_true rfl, Nat.le_of_ble_eq_true rfl⟩)) (fun r_3 hw_2 => ?_)
  rcases r_3 with _ | b_4
  · refine W.eq (g2 := F0 m 10 ls [.null]) rfl ?_
    exact W.aret (v := .null) hx hb hr (Or.inl ⟨_, rfl⟩) (Or.inl rfl) (fun t9 ht hW => ⟨none, rfl, (fun b9 q9 => by cases q9), ht⟩) (fun q h => absurd h List.not_mem_nil) dX0_last_10
  · have g_b_4 := hw_2 b_4 rfl
    refine W.eq (g2 := F0 m 10 ls [.ref b_4]) rfl ?_
    exact W.aret (v := .ref b_4) hx hb hr (Or.inl ⟨_, rfl⟩) (Or.inr ⟨_, rfl⟩) (fun t9 ht hW => ⟨some b_4, rfl, (fun b9 q9 => by cases q9; exact g_b_4), ht⟩) (fun q h => absurd h List.not_mem_nil) dX0_last_10
set_option maxHeartbeats 4000000 in
set_option maxRecDepth 100000 in
/-- X0_cutAtBeginning -/
theorem c_cutAtBeginning (l : Launch) (dC : Nat → ClassId) (dI : Nat → Nat → Nat) (ca : Nat → ClassId) (A : Nat → Prop) (X : jG) (hU : jU X) (a0 : Nat) (k : Int) (id : Nat) (g_a0 : X.1 a0 = (0, 30, id, 0, 0)) (kr : -2147483648 ≤ k ∧ k ≤ 2147483647) : Met l yX0_cutAtBeginning wsX0_cutAtBeginning ({ frames := 1, cells := 0, slots := 0, locals := 21 }) (va_Pc [.ref a0, .int (kz k)] (fun U => jK (dC, dI) ca U ∧ jv (dC, dI) ca A X U.heap)) (vp_Si (fun r => ∃ z : Int, r = kz z ∧ 0 ≤ z ∧ z ≤ 3)) 0 0 (fun _ => False) := by
  refine Met.ofW (cc := cX0_cutAtBeginning) (maxL := 3) (ret := (some .int)) (by decide) rfl ?_
  intro p e s m args below meth c s₁ B hml hv
  obtain ⟨rfl, ⟨hK, hN⟩, hI⟩ := hv
  have hx := B.exec
  have hb := B.bytes
  have hr := B.returns
  have hts := atoms_spec (ws := wsX0_cutAtBeginning) B.pre
  have hown : s.vm.findClass RX0 = some m.cls := findClass_of_methodNamed B.named
  have hL39 := hts (.fieldLink RX0 39 "JoinBench$Rule" "beginningSize" "I") (by decide +kernel)
  have hinX7 : ∀ w ∈ u_ws RX7 TX7 9, w ∈ wsX0_cutAtBeginning := by decide +kernel
  have hl := lv_entry ([.ref a0, .int (kz k)]) (n := 3) (Nat.le_of_ble_eq_true rfl)
  rw [lg_entry_eq]
  generalize (lg_sl ([.ref a0, .int (kz k)]) ++ List.replicate (3 - (lg_sl ([.ref a0, .int (kz k)])).length) Slot.unset).toArray = ls at hl ⊢
  have hl : lv_has ls 3 [(0, .ref a0), (1, .int (kz k))] := hl
  refine lv_aload_n hx hb dX0_cutAtBeginning_0 rfl (lv_at hl 0 rfl) ?_
  refine lv_iload_n hx hb dX0_cutAtBeginning_1 rfl (lv_at hl 1 rfl) ?_
  obtain ⟨fs9, co_1, jo9⟩ := jv_o0 hI g_a0
  obtain ⟨forms_1, rules_1, size_1, rfl, g_forms_1, g_rules_1, ⟨size_1a, size_1b⟩, x_1_0⟩ := jo9
  refine va_csq (va_Run.run (va_runV (As := [.int (kz k)]) (rest := []) ⟨hx, hb, hml, hown, hts⟩ (c_ruleAheadOf l dC dI ca A X hU a0 k id g_a0 (by omega)) (cwV 1 hts gX0_cutAtBeginning_X0_ruleAheadOf rfl rfl rfl (by decide +kernel) ⟨Nat.le_of_ble_eq_true rfl, Nat.le_of_ble_eq_true rfl⟩) ⟨fun a U g mk q => by obtain ⟨q0, ⟨qK, qN⟩, qI⟩ := q; exact ⟨q0, ⟨va_K.moved (u := U) (U := U.calling g mk a) (Vm.Alike.refl U.vm) qK, jN_same (U := U.calling g mk a) rfl qN⟩, qI⟩, va_recv hK (at_P co_1) (ci := 0) (q0 := 0) rfl rfl, fun U hU hW => ⟨rfl, jK_warm hW ⟨hK, hN⟩, by rw [hU]; exact hI⟩⟩ rfl rfl hl.1 rfl (lv_room (Nat.le_of_ble_eq_true rfl)) dX0_cutAtBeginning_2 ⟨Nat.le_of_ble_eq_true rfl, Nat.le_of_ble_eq_true rfl⟩)) (fun r_3 hw_2 => ?_)
  rcases r_3 with _ | b_4
  · refine W.eq (g2 := F0 m 5 ls [.null]) rfl ?_
    refine lv_astore_nN (lv' := [(2, .null), (0, .ref a0), (1, .int (kz k))]) hx hb dX0_cutAtBeginning_5 rfl hl (by decide) rfl (fun ls hl => ?_)
    refine lv_aload_nN hx hb dX0_cutAtBeginning_6 rfl (lv_at hl 0 rfl) ?_
    refine lv_ifnonnullN hx hb dX0_cutAtBeginning_7 ?_
    refine lv_iconst (v := kz 0) hx hb dX0_cutAtBeginning_10 rfl ?_
    refine lv_goto (tgt := 18) hx hb dX0_cutAtBeginning_11 (by decide) ?_
    exact W.iret (v := kz 0) hx hb hr (fun t9 ht hW => ⟨kz 0, rfl, ⟨0, rfl, by omega⟩, ht⟩) (fun q h => absurd h List.not_mem_nil) dX0_cutAtBeginning_18
  · obtain ⟨i_b_4, g_b_4⟩ := hw_2 b_4 rfl
    refine W.eq (g2 := F0 m 5 ls [.ref b_4]) rfl ?_
    refine lv_astore_n (lv' := [(2, .ref b_4), (0, .ref a0), (1, .int (kz k))]) hx hb dX0_cutAtBeginning_5 rfl hl (by decide) rfl (fun ls hl => ?_)
    refine lv_aload_n hx hb dX0_cutAtBeginning_6 rfl (lv_at hl 0 rfl) ?_
    refine lv_ifnonnull (tgt := 14) hx hb dX0_cutAtBeginning_7 (by decide) ?_
    refine lv_aload_n hx hb dX0_cutAtBeginning_14 rfl (lv_at hl 0 rfl) ?_
    obtain ⟨fs9, co_5, jo9⟩ := jv_o7 hI g_b_4
    obtain ⟨ln_5, letters_5, endSize_5, beginningSize_5, comesFrom_5, comesSize_5, cost_5, firstDay_5, lastDay_5, number_5, rfl, g_letters_5, ⟨endSize_5a, endSize_5b⟩, ⟨beginningSize_5a, beginningSize_5b⟩, ⟨comesFrom_5a, comesFrom_5b⟩, ⟨comesSize_5a, comesSize_5b⟩, ⟨cost_5a, cost_5b⟩, ⟨firstDay_5a, firstDay_5b⟩, ⟨lastDay_5a, lastDay_5b⟩, ⟨number_5a, number_5b⟩, x_5_0, x_5_1, x_5_2, x_5_3, x_5_4, x_5_5⟩ := jo9
    refine iz_get (D := (dC, dI)) (ci := 7) (v := .int (kz beginningSize_5)) (C := RX7) (T := TX7) (N := 9) hx hb hts hinX7 hown hK co_5 rfl 2 (by decide) hL39 (fun _ h9 => h9) rfl dX0_cutAtBeginning_15 ?_
    exact W.iret (v := kz beginningSize_5) hx hb hr (fun t9 ht hW => ⟨kz beginningSize_5, rfl, ⟨beginningSize_5, rfl, by omega⟩, ht⟩) (fun q h => absurd h List.not_mem_nil) dX0_cutAtBeginning_18
set_option maxHeartbeats 4000000 in
set_option maxRecDepth 100000 in
/-- X0_lastCut -/
theorem c_lastCut (l : Launch) (dC : Nat → ClassId) (dI : Nat → Nat → Nat) (ca : Nat → ClassId) (A : Nat → Prop) (X : jG) (hU : jU X) (a0 : Nat) (id : Nat) (g_a0 : X.1 a0 = (0, 30, id, 0, 0)) : Met l yX0_lastCut wsX0_lastCut ({ frames := 2, cells := 0, slots := 0, locals := 43 }) (va_Pc [.ref a0] (fun U => jK (dC, dI) ca U ∧ jv (dC, dI) ca A X U.heap)) (vp_Si (fun r => ∃ z : Int, r = kz z ∧ 0 ≤ z ∧ z ≤ 3)) 0 0 (fun _ => False) := by
  refine Met.ofW (cc := cX0_lastCut) (maxL := 1) (ret := (some .int)) (by decide) rfl ?_
  intro p e s m args below meth c s₁ B hml hv
  obtain ⟨rfl, ⟨hK, hN⟩, hI⟩ := hv
  have hx := B.exec
  have hb := B.bytes
  have hr := B.returns
  have hts := atoms_spec (ws := wsX0_lastCut) B.pre
  have hown : s.vm.findClass RX0 = some m.cls := findClass_of_methodNamed B.named
  have hL23 := hts (.fieldLink RX0 23 "JoinBench$Chain" "size" "I") (by decide +kernel)
  have hinX0 : ∀ w ∈ u_ws RX0 TX0 3, w ∈ wsX0_lastCut := by decide +kernel
  have hl := lv_entry ([.ref a0]) (n := 1) (Nat.le_of_ble_eq_true rfl)
  rw [lg_entry_eq]
  generalize (lg_sl ([.ref a0]) ++ List.replicate (1 - (lg_sl ([.ref a0])).length) Slot.unset).toArray = ls at hl ⊢
  have hl : lv_has ls 1 [(0, .ref a0)] := hl
  refine lv_aload_n hx hb dX0_lastCut_0 rfl (lv_at hl 0 rfl) ?_
  refine lv_aload_n hx hb dX0_lastCut_1 rfl (lv_at hl 0 rfl) ?_
  obtain ⟨fs9, co_1, jo9⟩ := jv_o0 hI g_a0
  obtain ⟨forms_1, rules_1, size_1, rfl, g_forms_1, g_rules_1, ⟨size_1a, size_1b⟩, x_1_0⟩ := jo9
  refine iz_get (D := (dC, dI)) (ci := 0) (v := .int (kz size_1)) (C := RX0) (T := TX0) (N := 3) hx hb hts hinX0 hown hK co_1 rfl 2 (by decide) hL23 (fun _ h9 => h9) rfl dX0_lastCut_2 ?_
  refine lv_iconst (v := kz 1) hx hb dX0_lastCut_5 rfl ?_
  refine iz_isub hx hb dX0_lastCut_6 ?_
  refine vp_callSi (va_Run.run (va_runV (As := [.int (kz (size_1 - 1))]) (rest := []) ⟨hx, hb, hml, hown, hts⟩ (c_cutAtBeginning l dC dI ca A X hU a0 (size_1 - 1) id g_a0 (by omega)) (cwV 1 hts gX0_lastCut_X0_cutAtBeginning rfl rfl rfl (by decide +kernel) ⟨Nat.le_of_ble_eq_true rfl, Nat.le_of_ble_eq_true rfl⟩) ⟨fun a U g mk q => by obtain ⟨q0, ⟨qK, qN⟩, qI⟩ := q; exact ⟨q0, ⟨va_K.moved (u := U) (U := U.calling g mk a) (Vm.Alike.refl U.vm) qK, jN_same (U := U.calling g mk a) rfl qN⟩, qI⟩, va_recv hK (at_P co_1) (ci := 0) (q0 := 0) rfl rfl, fun U hU hW => ⟨rfl, jK_warm hW ⟨hK, hN⟩, by rw [hU]; exact hI⟩⟩ rfl rfl hl.1 rfl (lv_room (Nat.le_of_ble_eq_true rfl)) dX0_lastCut_7 ⟨Nat.le_of_ble_eq_true rfl, Nat.le_of_ble_eq_true rfl⟩)) (fun r_3 hw_2 => ?_)
  obtain ⟨z_4, rfl, z_4h⟩ := hw_2
  exact W.iret (v := kz z_4) hx hb hr (fun t9 ht hW => ⟨kz z_4, rfl, ⟨z_4, rfl, by omega⟩, ht⟩) (fun q h => absurd h List.not_mem_nil) dX0_lastCut_10
set_option maxHeartbeats 4000000 in
set_option maxRecDepth 100000 in
/-- X0_cutAtEnd -/
theorem c_cutAtEnd (l : Launch) (dC : Nat → ClassId) (dI : Nat → Nat → Nat) (ca : Nat → ClassId) (A : Nat → Prop) (X : jG) (hU : jU X) (a0 : Nat) (k : Int) (id : Nat) (g_a0 : X.1 a0 = (0, 30, id, 0, 0)) (ki : -10 ≤ k ∧ k ≤ 1000) : Met l yX0_cutAtEnd wsX0_cutAtEnd ({ frames := 1, cells := 0, slots := 0, locals := 21 }) (va_Pc [.ref a0, .int (kz k)] (fun U => jK (dC, dI) ca U ∧ jv (dC, dI) ca A X U.heap)) (vp_Si (fun r => ∃ z : Int, r = kz z ∧ 0 ≤ z ∧ z ≤ 3)) 0 0 (fun _ => False) := by
  refine Met.ofW (cc := cX0_cutAtEnd) (maxL := 3) (ret := (some .int)) (by decide) rfl ?_
  intro p e s m args below meth c s₁ B hml hv
  obtain ⟨rfl, ⟨hK, hN⟩, hI⟩ := hv
  have hx := B.exec
  have hb := B.bytes
  have hr := B.returns
  have hts := atoms_spec (ws := wsX0_cutAtEnd) B.pre
  have hown : s.vm.findClass RX0 = some m.cls := findClass_of_methodNamed B.named
  have hL42 := hts (.fieldLink RX0 42 "JoinBench$Rule" "endSize" "I") (by decide +kernel)
  have hinX7 : ∀ w ∈ u_ws RX7 TX7 9, w ∈ wsX0_cutAtEnd := by decide +kernel
  have hl := lv_entry ([.ref a0, .int (kz k)]) (n := 3) (Nat.le_of_ble_eq_true rfl)
  rw [lg_entry_eq]
  generalize (lg_sl ([.ref a0, .int (kz k)]) ++ List.replicate (3 - (lg_sl ([.ref a0, .int (kz k)])).length) Slot.unset).toArray = ls at hl ⊢
  have hl : lv_has ls 3 [(0, .ref a0), (1, .int (kz k))] := hl
  refine lv_aload_n hx hb dX0_cutAtEnd_0 rfl (lv_at hl 0 rfl) ?_
  refine lv_iload_n hx hb dX0_cutAtEnd_1 rfl (lv_at hl 1 rfl) ?_
  refine lv_iconst (v := kz 1) hx hb dX0_cutAtEnd_2 rfl ?_
  refine iz_iadd hx hb dX0_cutAtEnd_3 ?_
  obtain ⟨fs9, co_1, jo9⟩ := jv_o0 hI g_a0
  obtain ⟨forms_1, rules_1, size_1, rfl, g_forms_1, g_rules_1, ⟨size_1a, size_1b⟩, x_1_0⟩ := jo9
  refine va_csq (va_Run.run (va_runV (As := [.int (kz (k + 1))]) (rest := []) ⟨hx, hb, hml, hown, hts⟩ (c_ruleAheadOf l dC dI ca A X hU a0 (k + 1) id g_a0 (by omega)) (cwV 1 hts gX0_cutAtEnd_X0_ruleAheadOf rfl rfl rfl (by decide +kernel) ⟨Nat.le_of_ble_eq_true rfl, Nat.le_of_ble_eq_true rfl⟩) ⟨fun a U g mk q => by obtain ⟨q0, ⟨qK, qN⟩, qI⟩ := q; exact ⟨q0, ⟨va_K.moved (u := U) (U := U.calling g mk a) (Vm.Alike.refl U.vm) qK, jN_same (U := U.calling g mk a) rfl qN⟩, qI⟩, va_recv hK (at_P co_1) (ci := 0) (q0 := 0) rfl rfl, fun U hU hW => ⟨rfl, jK_warm hW ⟨hK, hN⟩, by rw [hU]; exact hI⟩⟩ rfl rfl hl.1 rfl (lv_room (Nat.le_of_ble_eq_true rfl)) dX0_cutAtEnd_4 ⟨Nat.le_of_ble_eq_true rfl, Nat.le_of_ble_eq_true rfl⟩)) (fun r_3 hw_2 => ?_)
  rcases r_3 with _ | b_4
  · refine W.eq (g2 := F0 m 7 ls [.null]) rfl ?_
    refine lv_astore_nN (lv' := [(2, .null), (0, .ref a0), (1, .int (kz k))]) hx hb dX0_cutAtEnd_7 rfl hl (by decide) rfl (fun ls hl => ?_)
    refine lv_aload_nN hx hb dX0_cutAtEnd_8 rfl (lv_at hl 0 rfl) ?_
    refine lv_ifnonnullN hx hb dX0_cutAtEnd_9 ?_
    refine lv_iconst (v := kz 0) hx hb dX0_cutAtEnd_12 rfl ?_
    refine lv_goto (tgt := 20) hx hb dX0_cutAtEnd_13 (by decide) ?_
    exact W.iret (v := kz 0) hx hb hr (fun t9 ht hW => ⟨kz 0, rfl, ⟨0, rfl, by omega⟩, ht⟩) (fun q h => absurd h List.not_mem_nil) dX0_cutAtEnd_20
  · obtain ⟨i_b_4, g_b_4⟩ := hw_2 b_4 rfl
    refine W.eq (g2 := F0 m 7 ls [.ref b_4]) rfl ?_
    refine lv_astore_n (lv' := [(2, .ref b_4), (0, .ref a0), (1, .int (kz k))]) hx hb dX0_cutAtEnd_7 rfl hl (by decide) rfl (fun ls hl => ?_)
    refine lv_aload_n hx hb dX0_cutAtEnd_8 rfl (lv_at hl 0 rfl) ?_
    refine lv_ifnonnull (tgt := 16) hx hb dX0_cutAtEnd_9 (by decide) ?_
    refine lv_aload_n hx hb dX0_cutAtEnd_16 rfl (lv_at hl 0 rfl) ?_
    obtain ⟨fs9, co_5, jo9⟩ := jv_o7 hI g_b_4
    obtain ⟨ln_5, letters_5, endSize_5, beginningSize_5, comesFrom_5, comesSize_5, cost_5, firstDay_5, lastDay_5, number_5, rfl, g_letters_5, ⟨endSize_5a, endSize_5b⟩, ⟨beginningSize_5a, beginningSize_5b⟩, ⟨comesFrom_5a, comesFrom_5b⟩, ⟨comesSize_5a, comesSize_5b⟩, ⟨cost_5a, cost_5b⟩, ⟨firstDay_5a, firstDay_5b⟩, ⟨lastDay_5a, lastDay_5b⟩, ⟨number_5a, number_5b⟩, x_5_0, x_5_1, x_5_2, x_5_3, x_5_4, x_5_5⟩ := jo9
    refine iz_get (D := (dC, dI)) (ci := 7) (v := .int (kz endSize_5)) (C := RX7) (T := TX7) (N := 9) hx hb hts hinX7 hown hK co_5 rfl 1 (by decide) hL42 (fun _ h9 => h9) rfl dX0_cutAtEnd_17 ?_
    exact W.iret (v := kz endSize_5) hx hb hr (fun t9 ht hW => ⟨kz endSize_5, rfl, ⟨endSize_5, rfl, by omega⟩, ht⟩) (fun q h => absurd h List.not_mem_nil) dX0_cutAtEnd_20
set_option maxHeartbeats 4000000 in
set_option maxRecDepth 100000 in
/-- X0_price -/
theorem c_price (l : Launch) (dC : Nat → ClassId) (dI : Nat → Nat → Nat) (ca : Nat → ClassId) (A : Nat → Prop) (X : jG) (hU : jU X) (a0 : Nat) (id : Nat) (g_a0 : X.1 a0 = (0, 30, id, 0, 0)) : Met l yX0_price wsX0_price ({ frames := 0, cells := 0, slots := 0, locals := 0 }) (va_Pc [.ref a0] (fun U => jK (dC, dI) ca U ∧ jv (dC, dI) ca A X U.heap)) (vp_Si (fun r => True)) 0 0 (fun _ => False) := by
  refine Met.ofW (cc := cX0_price) (maxL := 3) (ret := (some .int)) (by decide) rfl ?_
  intro p e s m args below meth c s₁ B hml hv
  obtain ⟨rfl, ⟨hK, hN⟩, hI⟩ := hv
  have hx := B.exec
  have hb := B.bytes
  have hr := B.returns
  have hts := atoms_spec (ws := wsX0_price) B.pre
  have hown : s.vm.findClass RX0 = some m.cls := findClass_of_methodNamed B.named
  have hL23 := hts (.fieldLink RX0 23 "JoinBench$Chain" "size" "I") (by decide +kernel)
  have hL11 := hts (.fieldLink RX0 11 "JoinBench$Chain" "forms" "[LJoinBench$Form;") (by decide +kernel)
  have hL45 := hts (.fieldLink RX0 45 "JoinBench$Form" "cost" "I") (by decide +kernel)
  have hL19 := hts (.fieldLink RX0 19 "JoinBench$Chain" "rules" "[LJoinBench$Rule;") (by decide +kernel)
  have hL48 := hts (.fieldLink RX0 48 "JoinBench$Rule" "cost" "I") (by decide +kernel)
  have hinX0 : ∀ w ∈ u_ws RX0 TX0 3, w ∈ wsX0_price := by decide +kernel
  have hinX2 : ∀ w ∈ u_ws RX2 TX2 8, w ∈ wsX0_price := by decide +kernel
  have hinX7 : ∀ w ∈ u_ws RX7 TX7 9, w ∈ wsX0_price := by decide +kernel
  have hl := lv_entry ([.ref a0]) (n := 3) (Nat.le_of_ble_eq_true rfl)
  rw [lg_entry_eq]
  generalize (lg_sl ([.ref a0]) ++ List.replicate (3 - (lg_sl ([.ref a0])).length) Slot.unset).toArray = ls at hl ⊢
  have hl : lv_has ls 3 [(0, .ref a0)] := hl
  refine lv_iconst (v := kz 0) hx hb dX0_price_0 rfl ?_
  refine lv_istore_n (lv' := [(1, .int (kz 0)), (0, .ref a0)]) hx hb dX0_price_1 rfl hl (by decide) rfl (fun ls hl => ?_)
  refine lv_iconst (v := kz 0) hx hb dX0_price_2 rfl ?_
  refine lv_istore_n (lv' := [(2, .int (kz 0)), (1, .int (kz 0)), (0, .ref a0)]) hx hb dX0_price_3 rfl hl (by decide) rfl (fun ls hl => ?_)
  refine iz_loopS2 (P := fun N9 v k ls => (0 ≤ k) ∧ (k ≤ 40) ∧ 40 - k ≤ (N9 : Int) ∧ lv_has ls 3 [(2, .int (kz k)), (1, .int (kz v)), (0, .ref a0)]) 100000 (x0 := 0) (x1 := 0) ?_ ⟨by omega, by omega, by omega, lv_sub hl [0, 1, 2] rfl⟩
  intro n_1 v k ls ⟨n_1f0, n_1f1, n_1f2, hl⟩ ihn_1
  refine lv_iload_n hx hb dX0_price_4 rfl (lv_at hl 0 rfl) ?_
  refine lv_aload_n hx hb dX0_price_5 rfl (lv_at hl 2 rfl) ?_
  obtain ⟨fs9, co_2, jo9⟩ := jv_o0 hI g_a0
  obtain ⟨forms_2, rules_2, size_2, rfl, g_forms_2, g_rules_2, ⟨size_2a, size_2b⟩, x_2_0⟩ := jo9
  refine iz_get (D := (dC, dI)) (ci := 0) (v := .int (kz size_2)) (C := RX0) (T := TX0) (N := 3) hx hb hts hinX0 hown hK co_2 rfl 2 (by decide) hL23 (fun _ h9 => h9) rfl dX0_price_6 ?_
  refine iz_ge (tgt := 51) hx hb dX0_price_9 (by decide) (by unfold rg2; omega) (fun br_3 => ?_) (fun br_3 => ?_)
  · refine lv_iload_n hx hb dX0_price_51 rfl (lv_at hl 1 rfl) ?_
    exact W.iret (v := kz v) hx hb hr (fun t9 ht hW => ⟨kz v, rfl, trivial, ht⟩) (fun q h => absurd h List.not_mem_nil) dX0_price_52
  · refine lv_iload_n hx hb dX0_price_12 rfl (lv_at hl 1 rfl) ?_
    refine lv_aload_n hx hb dX0_price_13 rfl (lv_at hl 2 rfl) ?_
    refine iz_get (D := (dC, dI)) (ci := 0) (v := .ref forms_2) (C := RX0) (T := TX0) (N := 3) hx hb hts hinX0 hown hK co_2 rfl 0 (by decide) hL11 (fun _ h9 => h9) rfl dX0_price_14 ?_
    refine lv_iload_n hx hb dX0_price_17 rfl (lv_at hl 0 rfl) ?_
    obtain ⟨f_4, c_f_4, k_f_4⟩ := jv_q24 hI g_forms_2
    refine jz_aald hx hb hK 4 c_f_4 rfl rfl (by omega) (by decide) dX0_price_18 ?_
    obtain ⟨b_5, eb_5⟩ : ∃ b9 : Nat, f_4 (Int.toNat k) = some b9 := Option.ne_none_iff_exists'.mp ((k_f_4 (Int.toNat k) (by omega)).2 (by omega))
    have g_b_5 := (k_f_4 (Int.toNat k) (by omega)).1 b_5 eb_5
    rw [eb_5]
    refine W.eq (g2 := F0 m 19 ls [.ref b_5, .int (kz v)]) rfl ?_
    obtain ⟨fs9, co_6, jo9⟩ := jv_o2 hI g_b_5
    obtain ⟨ln_6, letters_6, kind_6, stem_6, kept_6, cost_6, number_6, ends_6, begins_6, rfl, g_letters_6, ⟨kind_6a, kind_6b⟩, ⟨stem_6a, stem_6b⟩, ⟨kept_6a, kept_6b⟩, ⟨cost_6a, cost_6b⟩, ⟨number_6a, number_6b⟩, ⟨ends_6a, ends_6b⟩, ⟨begins_6a, begins_6b⟩, x_6_0, x_6_1, x_6_2, x_6_3⟩ := jo9
    refine iz_get (D := (dC, dI)) (ci := 2) (v := .int (kz cost_6)) (C := RX2) (T := TX2) (N := 8) hx hb hts hinX2 hown hK co_6 rfl 4 (by decide) hL45 (fun _ h9 => h9) rfl dX0_price_19 ?_
    refine iz_iadd hx hb dX0_price_22 ?_
    refine lv_istore_n (lv' := [(1, .int (kz (v + cost_6))), (2, .int (kz k)), (0, .ref a0)]) hx hb dX0_price_23 rfl hl (by decide) rfl (fun ls hl => ?_)
    refine lv_aload_n hx hb dX0_price_24 rfl (lv_at hl 2 rfl) ?_
    refine iz_get (D := (dC, dI)) (ci := 0) (v := .ref rules_2) (C := RX0) (T := TX0) (N := 3) hx hb hts hinX0 hown hK co_2 rfl 1 (by decide) hL19 (fun _ h9 => h9) rfl dX0_price_25 ?_
    refine lv_iload_n hx hb dX0_price_28 rfl (lv_at hl 1 rfl) ?_
    obtain ⟨f_7, c_f_7, k_f_7⟩ := jv_q25 hI g_rules_2
    refine jz_aald hx hb hK 5 c_f_7 rfl rfl (by omega) (by decide) dX0_price_29 ?_
    rcases eb_8 : f_7 (Int.toNat k) with _ | b_8
    · refine W.eq (g2 := F0 m 30 ls [.null]) rfl ?_
      refine lv_ifnullN (tgt := 45) hx hb dX0_price_30 (by decide) ?_
      refine lv_iinc (v := kz (k + 1)) (lv' := [(2, .int (kz (k + 1))), (1, .int (kz (v + cost_6))), (0, .ref a0)]) hx hb dX0_price_45 hl (k := 1) rfl (kz_add k 1) (by decide) rfl (fun ls hl => ?_)
      refine lv_goto (tgt := 4) hx hb dX0_price_48 (by decide) ?_
      exact ihn_1 (n_1 - 1) (by omega) (v + cost_6) (k + 1) _ ⟨by omega, by omega, by omega, lv_sub hl [0, 1, 2] rfl⟩
    · obtain ⟨i_b_8, g_b_8⟩ := k_f_7 (Int.toNat k) (by omega) b_8 eb_8
      refine W.eq (g2 := F0 m 30 ls [.ref b_8]) rfl ?_
      refine lv_ifnull hx hb dX0_price_30 ?_
      refine lv_iload_n hx hb dX0_price_33 rfl (lv_at hl 0 rfl) ?_
      refine lv_aload_n hx hb dX0_price_34 rfl (lv_at hl 2 rfl) ?_
      refine iz_get (D := (dC, dI)) (ci := 0) (v := .ref rules_2) (C := RX0) (T := TX0) (N := 3) hx hb hts hinX0 hown hK co_2 rfl 1 (by decide) hL19 (fun _ h9 => h9) rfl dX0_price_35 ?_
      refine lv_iload_n hx hb dX0_price_38 rfl (lv_at hl 1 rfl) ?_
      refine jz_aald hx hb hK 5 c_f_7 rfl rfl (by omega) (by decide) dX0_price_39 ?_
      rw [eb_8]
      refine W.eq (g2 := F0 m 40 ls [.ref b_8, .int (kz (v + cost_6))]) rfl ?_
      obtain ⟨fs9, co_10, jo9⟩ := jv_o7 hI g_b_8
      obtain ⟨ln_10, letters_10, endSize_10, beginningSize_10, comesFrom_10, comesSize_10, cost_10, firstDay_10, lastDay_10, number_10, rfl, g_letters_10, ⟨endSize_10a, endSize_10b⟩, ⟨beginningSize_10a, beginningSize_10b⟩, ⟨comesFrom_10a, comesFrom_10b⟩, ⟨comesSize_10a, comesSize_10b⟩, ⟨cost_10a, cost_10b⟩, ⟨firstDay_10a, firstDay_10b⟩, ⟨lastDay_10a, lastDay_10b⟩, ⟨number_10a, number_10b⟩, x_10_0, x_10_1, x_10_2, x_10_3, x_10_4, x_10_5⟩ := jo9
      refine iz_get (D := (dC, dI)) (ci := 7) (v := .int (kz cost_10)) (C := RX7) (T := TX7) (N := 9) hx hb hts hinX7 hown hK co_10 rfl 5 (by decide) hL48 (fun _ h9 => h9) rfl dX0_price_40 ?_
      refine iz_iadd hx hb dX0_price_43 ?_
      refine lv_istore_n (lv' := [(1, .int (kz ((v + cost_6) + cost_10))), (2, .int (kz k)), (0, .ref a0)]) hx hb dX0_price_44 rfl hl (by decide) rfl (fun ls hl => ?_)
      refine lv_iinc (v := kz (k + 1)) (lv' := [(2, .int (kz (k + 1))), (1, .int (kz ((v + cost_6) + cost_10))), (0, .ref a0)]) hx hb dX0_price_45 hl (k := 1) rfl (kz_add k 1) (by decide) rfl (fun ls hl => ?_)
      refine lv_goto (tgt := 4) hx hb dX0_price_48 (by decide) ?_
      exact ihn_1 (n_1 - 1) (by omega) ((v + cost_6) + cost_10) (k + 1) _ ⟨by omega, by omega, by omega, lv_sub hl [0, 1, 2] rfl⟩
