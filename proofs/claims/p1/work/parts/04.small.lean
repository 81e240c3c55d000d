set_option maxHeartbeats 4000000 in
set_option maxRecDepth 100000 in
/-- X11_within -/
theorem k_within (l : Launch) (dC : Nat → ClassId) (dI : Nat → Nat → Nat) (x0 : Int32) (x1 : Int32) (x2 : Int32) : Met l yX11_within wsX11_within ({ frames := 0, cells := 0, slots := 0, locals := 0 }) (va_Pc [.int x0, .int x1, .int x2] (fun U => va_P (dC, dI) vwCl [] U.heap ∧ va_K (dC, dI) vwCl [] U)) (vp_Si (fun r => bP r (inR x0 x1 x2))) 0 0 (fun _ => False) := by
  refine Met.ofW (cc := cX11_within) (maxL := 3) (ret := (some .boolean)) (by decide) rfl ?_
  intro p e s m args below meth c s₁ B hml hv
  obtain ⟨rfl, hP, hK⟩ := hv
  have hx := B.exec
  have hb := B.bytes
  have hr := B.returns
  have hts := atoms_spec (ws := wsX11_within) B.pre
  have hown : s.vm.findClass RX11 = some m.cls := findClass_of_methodNamed B.named
  have hlocks := B.notSynchronized
  have hP : va_P (dC, dI) vwCl [] s.heap := hP
  have hl := lv_entry ([.int x0, .int x1, .int x2]) (n := 3) (Nat.le_of_ble_eq_true rfl)
  rw [lg_entry_eq]
  generalize (lg_sl ([.int x0, .int x1, .int x2]) ++ List.replicate (3 - (lg_sl ([.int x0, .int x1, .int x2])).length) Slot.unset).toArray = ls at hl ⊢
  have hl : lv_has ls 3 [(0, .int x0), (1, .int x1), (2, .int x2)] := hl
  refine lv_iload_n hx hb dX11_within_0 rfl (lv_at hl 0 rfl) ?_
  refine lv_iload_n hx hb dX11_within_1 rfl (lv_at hl 1 rfl) ?_
  refine lv_icmp_lt (tgt := 14) hx hb dX11_within_2 (by decide) (fun c_1 => ?_) (fun c_1 => ?_)
  · refine lv_iconst (v := 0) hx hb dX11_within_14 (by decide) ?_
    exact W.zret (v := 0) hx hb hr rfl (fun t ht hW => ⟨0, rfl, bP_f (fun q => nle_lt c_1 q.1), ht⟩) (fun q h => absurd h List.not_mem_nil) dX11_within_15
  · refine lv_iload_n hx hb dX11_within_5 rfl (lv_at hl 0 rfl) ?_
    refine lv_iload_n hx hb dX11_within_6 rfl (lv_at hl 2 rfl) ?_
    refine lv_icmp_gt (tgt := 14) hx hb dX11_within_7 (by decide) (fun c_2 => ?_) (fun c_2 => ?_)
    · refine lv_iconst (v := 0) hx hb dX11_within_14 (by decide) ?_
      exact W.zret (v := 0) hx hb hr rfl (fun t ht hW => ⟨0, rfl, bP_f (fun q => nle_lt c_2 q.2), ht⟩) (fun q h => absurd h List.not_mem_nil) dX11_within_15
    · refine lv_iconst (v := 1) hx hb dX11_within_10 (by decide) ?_
      refine lv_goto (tgt := 15) hx hb dX11_within_11 (by decide) ?_
      exact W.zret (v := 1) hx hb hr rfl (fun t ht hW => ⟨1, rfl, bP_t ⟨le_nlt c_1, le_nlt c_2⟩, ht⟩) (fun q h => absurd h List.not_mem_nil) dX11_within_15
set_option maxHeartbeats 4000000 in
set_option maxRecDepth 100000 in
/-- X11_isKind -/
theorem k_isKind (l : Launch) (dC : Nat → ClassId) (dI : Nat → Nat → Nat) (x0 : Int32) : Met l yX11_isKind wsX11_isKind ({ frames := 1, cells := 0, slots := 0, locals := 22 }) (va_Pc [.int x0] (fun U => va_P (dC, dI) vwCl [] U.heap ∧ va_K (dC, dI) vwCl [] U)) (vp_Si (fun r => bP r (inR x0 0 5))) 0 0 (fun _ => False) := by
  refine Met.ofW (cc := cX11_isKind) (maxL := 1) (ret := (some .boolean)) (by decide) rfl ?_
  intro p e s m args below meth c s₁ B hml hv
  obtain ⟨rfl, hP, hK⟩ := hv
  have hx := B.exec
  have hb := B.bytes
  have hr := B.returns
  have hts := atoms_spec (ws := wsX11_isKind) B.pre
  have hown : s.vm.findClass RX11 = some m.cls := findClass_of_methodNamed B.named
  have hlocks := B.notSynchronized
  have hP : va_P (dC, dI) vwCl [] s.heap := hP
  have hl := lv_entry ([.int x0]) (n := 1) (Nat.le_of_ble_eq_true rfl)
  rw [lg_entry_eq]
  generalize (lg_sl ([.int x0]) ++ List.replicate (1 - (lg_sl ([.int x0])).length) Slot.unset).toArray = ls at hl ⊢
  have hl : lv_has ls 1 [(0, .int x0)] := hl
  refine lv_iload_n hx hb dX11_isKind_0 rfl (lv_at hl 0 rfl) ?_
  refine lv_iconst (v := 0) hx hb dX11_isKind_1 (by decide) ?_
  refine lv_iconst (v := 5) hx hb dX11_isKind_2 (by decide) ?_
  have hPc := hP.sub (ws' := []) [] rfl
  have hKc := hK.sub (tys' := []) [] rfl
  refine vp_callSi (va_Run.run (va_runS (As := [.int x0, .int 0, .int 5]) (rest := []) ⟨hx, hb, hml, hown, hts⟩ (k_within l dC dI x0 0 5) (va_cwS 3 hts gX11_isKind_X11_within rfl rfl rfl (by decide +kernel) ⟨Nat.le_of_ble_eq_true rfl, Nat.le_of_ble_eq_true rfl⟩) ⟨fun a U g mk q => by obtain ⟨q0, qP, qK⟩ := q; exact ⟨q0, qP, va_K.moved (u := U) (U := U.calling g mk a) (Vm.Alike.refl U.vm) qK⟩, fun U hU hW => ⟨rfl, by rw [hU]; exact hPc, va_K.moved hW.alike hKc⟩⟩ rfl rfl hl.1 rfl (lv_room (Nat.le_of_ble_eq_true rfl)) dX11_isKind_3 ⟨Nat.le_of_ble_eq_true rfl, Nat.le_of_ble_eq_true rfl⟩)) (fun r_2 hw_1 => ?_)
  rcases hw_1 with ⟨rfl, hw_1⟩ | ⟨rfl, hw_1⟩
  · exact W.zret (v := 1) hx hb hr rfl (fun t ht hW => ⟨1, rfl, bP_t hw_1, ht⟩) (fun q h => absurd h List.not_mem_nil) dX11_isKind_6
  · exact W.zret (v := 0) hx hb hr rfl (fun t ht hW => ⟨0, rfl, bP_f hw_1, ht⟩) (fun q h => absurd h List.not_mem_nil) dX11_isKind_6
set_option maxHeartbeats 4000000 in
set_option maxRecDepth 100000 in
/-- X11_isStem -/
theorem k_isStem (l : Launch) (dC : Nat → ClassId) (dI : Nat → Nat → Nat) (x0 : Int32) : Met l yX11_isStem wsX11_isStem ({ frames := 1, cells := 0, slots := 0, locals := 22 }) (va_Pc [.int x0] (fun U => va_P (dC, dI) vwCl [] U.heap ∧ va_K (dC, dI) vwCl [] U)) (vp_Si (fun r => bP r (inR x0 0 19))) 0 0 (fun _ => False) := by
  refine Met.ofW (cc := cX11_isStem) (maxL := 1) (ret := (some .boolean)) (by decide) rfl ?_
  intro p e s m args below meth c s₁ B hml hv
  obtain ⟨rfl, hP, hK⟩ := hv
  have hx := B.exec
  have hb := B.bytes
  have hr := B.returns
  have hts := atoms_spec (ws := wsX11_isStem) B.pre
  have hown : s.vm.findClass RX11 = some m.cls := findClass_of_methodNamed B.named
  have hlocks := B.notSynchronized
  have hP : va_P (dC, dI) vwCl [] s.heap := hP
  have hl := lv_entry ([.int x0]) (n := 1) (Nat.le_of_ble_eq_true rfl)
  rw [lg_entry_eq]
  generalize (lg_sl ([.int x0]) ++ List.replicate (1 - (lg_sl ([.int x0])).length) Slot.unset).toArray = ls at hl ⊢
  have hl : lv_has ls 1 [(0, .int x0)] := hl
  refine lv_iload_n hx hb dX11_isStem_0 rfl (lv_at hl 0 rfl) ?_
  refine lv_iconst (v := 0) hx hb dX11_isStem_1 (by decide) ?_
  refine lv_bipush (v := 19) hx hb dX11_isStem_2 (by decide) ?_
  have hPc := hP.sub (ws' := []) [] rfl
  have hKc := hK.sub (tys' := []) [] rfl
  refine vp_callSi (va_Run.run (va_runS (As := [.int x0, .int 0, .int 19]) (rest := []) ⟨hx, hb, hml, hown, hts⟩ (k_within l dC dI x0 0 19) (va_cwS 3 hts gX11_isStem_X11_within rfl rfl rfl (by decide +kernel) ⟨Nat.le_of_ble_eq_true rfl, Nat.le_of_ble_eq_true rfl⟩) ⟨fun a U g mk q => by obtain ⟨q0, qP, qK⟩ := q; exact ⟨q0, qP, va_K.moved (u := U) (U := U.calling g mk a) (Vm.Alike.refl U.vm) qK⟩, fun U hU hW => ⟨rfl, by rw [hU]; exact hPc, va_K.moved hW.alike hKc⟩⟩ rfl rfl hl.1 rfl (lv_room (Nat.le_of_ble_eq_true rfl)) dX11_isStem_4 ⟨Nat.le_of_ble_eq_true rfl, Nat.le_of_ble_eq_true rfl⟩)) (fun r_2 hw_1 => ?_)
  rcases hw_1 with ⟨rfl, hw_1⟩ | ⟨rfl, hw_1⟩
  · exact W.zret (v := 1) hx hb hr rfl (fun t ht hW => ⟨1, rfl, bP_t hw_1, ht⟩) (fun q h => absurd h List.not_mem_nil) dX11_isStem_7
  · exact W.zret (v := 0) hx hb hr rfl (fun t ht hW => ⟨0, rfl, bP_f hw_1, ht⟩) (fun q h => absurd h List.not_mem_nil) dX11_isStem_7
set_option maxHeartbeats 4000000 in
set_option maxRecDepth 100000 in
/-- X11_isCost -/
theorem k_isCost (l : Launch) (dC : Nat → ClassId) (dI : Nat → Nat → Nat) (x0 : Int32) : Met l yX11_isCost wsX11_isCost ({ frames := 1, cells := 0, slots := 0, locals := 22 }) (va_Pc [.int x0] (fun U => va_P (dC, dI) vwCl [] U.heap ∧ va_K (dC, dI) vwCl [] U)) (vp_Si (fun r => bP r (inR x0 0 99))) 0 0 (fun _ => False) := by
  refine Met.ofW (cc := cX11_isCost) (maxL := 1) (ret := (some .boolean)) (by decide) rfl ?_
  intro p e s m args below meth c s₁ B hml hv
  obtain ⟨rfl, hP, hK⟩ := hv
  have hx := B.exec
  have hb := B.bytes
  have hr := B.returns
  have hts := atoms_spec (ws := wsX11_isCost) B.pre
  have hown : s.vm.findClass RX11 = some m.cls := findClass_of_methodNamed B.named
  have hlocks := B.notSynchronized
  have hP : va_P (dC, dI) vwCl [] s.heap := hP
  have hl := lv_entry ([.int x0]) (n := 1) (Nat.le_of_ble_eq_true rfl)
  rw [lg_entry_eq]
  generalize (lg_sl ([.int x0]) ++ List.replicate (1 - (lg_sl ([.int x0])).length) Slot.unset).toArray = ls at hl ⊢
  have hl : lv_has ls 1 [(0, .int x0)] := hl
  refine lv_iload_n hx hb dX11_isCost_0 rfl (lv_at hl 0 rfl) ?_
  refine lv_iconst (v := 0) hx hb dX11_isCost_1 (by decide) ?_
  refine lv_bipush (v := 99) hx hb dX11_isCost_2 (by decide) ?_
  have hPc := hP.sub (ws' := []) [] rfl
  have hKc := hK.sub (tys' := []) [] rfl
  refine vp_callSi (va_Run.run (va_runS (As := [.int x0, .int 0, .int 99]) (rest := []) ⟨hx, hb, hml, hown, hts⟩ (k_within l dC dI x0 0 99) (va_cwS 3 hts gX11_isCost_X11_within rfl rfl rfl (by decide +kernel) ⟨Nat.le_of_ble_eq_true rfl, Nat.le_of_ble_eq_true rfl⟩) ⟨fun a U g mk q => by obtain ⟨q0, qP, qK⟩ := q; exact ⟨q0, qP, va_K.moved (u := U) (U := U.calling g mk a) (Vm.Alike.refl U.vm) qK⟩, fun U hU hW => ⟨rfl, by rw [hU]; exact hPc, va_K.moved hW.alike hKc⟩⟩ rfl rfl hl.1 rfl (lv_room (Nat.le_of_ble_eq_true rfl)) dX11_isCost_4 ⟨Nat.le_of_ble_eq_true rfl, Nat.le_of_ble_eq_true rfl⟩)) (fun r_2 hw_1 => ?_)
  rcases hw_1 with ⟨rfl, hw_1⟩ | ⟨rfl, hw_1⟩
  · exact W.zret (v := 1) hx hb hr rfl (fun t ht hW => ⟨1, rfl, bP_t hw_1, ht⟩) (fun q h => absurd h List.not_mem_nil) dX11_isCost_7
  · exact W.zret (v := 0) hx hb hr rfl (fun t ht hW => ⟨0, rfl, bP_f hw_1, ht⟩) (fun q h => absurd h List.not_mem_nil) dX11_isCost_7
set_option maxHeartbeats 4000000 in
set_option maxRecDepth 100000 in
/-- X11_isDay -/
theorem k_isDay (l : Launch) (dC : Nat → ClassId) (dI : Nat → Nat → Nat) (x0 : Int32) : Met l yX11_isDay wsX11_isDay ({ frames := 1, cells := 0, slots := 0, locals := 22 }) (va_Pc [.int x0] (fun U => va_P (dC, dI) vwCl [] U.heap ∧ va_K (dC, dI) vwCl [] U)) (vp_Si (fun r => bP r (inR x0 0 999))) 0 0 (fun _ => False) := by
  refine Met.ofW (cc := cX11_isDay) (maxL := 1) (ret := (some .boolean)) (by decide) rfl ?_
  intro p e s m args below meth c s₁ B hml hv
  obtain ⟨rfl, hP, hK⟩ := hv
  have hx := B.exec
  have hb := B.bytes
  have hr := B.returns
  have hts := atoms_spec (ws := wsX11_isDay) B.pre
  have hown : s.vm.findClass RX11 = some m.cls := findClass_of_methodNamed B.named
  have hlocks := B.notSynchronized
  have hP : va_P (dC, dI) vwCl [] s.heap := hP
  have hl := lv_entry ([.int x0]) (n := 1) (Nat.le_of_ble_eq_true rfl)
  rw [lg_entry_eq]
  generalize (lg_sl ([.int x0]) ++ List.replicate (1 - (lg_sl ([.int x0])).length) Slot.unset).toArray = ls at hl ⊢
  have hl : lv_has ls 1 [(0, .int x0)] := hl
  refine lv_iload_n hx hb dX11_isDay_0 rfl (lv_at hl 0 rfl) ?_
  refine lv_iconst (v := 0) hx hb dX11_isDay_1 (by decide) ?_
  refine lv_sipush (v := 999) hx hb dX11_isDay_2 (by decide) ?_
  have hPc := hP.sub (ws' := []) [] rfl
  have hKc := hK.sub (tys' := []) [] rfl
  refine vp_callSi (va_Run.run (va_runS (As := [.int x0, .int 0, .int 999]) (rest := []) ⟨hx, hb, hml, hown, hts⟩ (k_within l dC dI x0 0 999) (va_cwS 3 hts gX11_isDay_X11_within rfl rfl rfl (by decide +kernel) ⟨Nat.le_of_ble_eq_true rfl, Nat.le_of_ble_eq_true rfl⟩) ⟨fun a U g mk q => by obtain ⟨q0, qP, qK⟩ := q; exact ⟨q0, qP, va_K.moved (u := U) (U := U.calling g mk a) (Vm.Alike.refl U.vm) qK⟩, fun U hU hW => ⟨rfl, by rw [hU]; exact hPc, va_K.moved hW.alike hKc⟩⟩ rfl rfl hl.1 rfl (lv_room (Nat.le_of_ble_eq_true rfl)) dX11_isDay_5 ⟨Nat.le_of_ble_eq_true rfl, Nat.le_of_ble_eq_true rfl⟩)) (fun r_2 hw_1 => ?_)
  rcases hw_1 with ⟨rfl, hw_1⟩ | ⟨rfl, hw_1⟩
  · exact W.zret (v := 1) hx hb hr rfl (fun t ht hW => ⟨1, rfl, bP_t hw_1, ht⟩) (fun q h => absurd h List.not_mem_nil) dX11_isDay_8
  · exact W.zret (v := 0) hx hb hr rfl (fun t ht hW => ⟨0, rfl, bP_f hw_1, ht⟩) (fun q h => absurd h List.not_mem_nil) dX11_isDay_8
set_option maxHeartbeats 4000000 in
set_option maxRecDepth 100000 in
/-- X12_in -/
theorem m_in (l : Launch) (dC : Nat → ClassId) (dI : Nat → Nat → Nat) (x0 : Int32) (x1 : Int32) (x2 : Int32) : Met l yX12_in wsX12_in ({ frames := 0, cells := 0, slots := 0, locals := 0 }) (va_Pc [.int x0, .int x1, .int x2] (fun U => va_P (dC, dI) vwCl [] U.heap ∧ va_K (dC, dI) vwCl [] U)) (vp_Si (fun r => bP r (inR x0 x1 x2))) 0 0 (fun _ => False) := by
  refine Met.ofW (cc := cX12_in) (maxL := 3) (ret := (some .boolean)) (by decide) rfl ?_
  intro p e s m args below meth c s₁ B hml hv
  obtain ⟨rfl, hP, hK⟩ := hv
  have hx := B.exec
  have hb := B.bytes
  have hr := B.returns
  have hts := atoms_spec (ws := wsX12_in) B.pre
  have hown : s.vm.findClass RX12 = some m.cls := findClass_of_methodNamed B.named
  have hlocks := B.notSynchronized
  have hP : va_P (dC, dI) vwCl [] s.heap := hP
  have hl := lv_entry ([.int x0, .int x1, .int x2]) (n := 3) (Nat.le_of_ble_eq_true rfl)
  rw [lg_entry_eq]
  generalize (lg_sl ([.int x0, .int x1, .int x2]) ++ List.replicate (3 - (lg_sl ([.int x0, .int x1, .int x2])).length) Slot.unset).toArray = ls at hl ⊢
  have hl : lv_has ls 3 [(0, .int x0), (1, .int x1), (2, .int x2)] := hl
  refine lv_iload_n hx hb dX12_in_0 rfl (lv_at hl 0 rfl) ?_
  refine lv_iload_n hx hb dX12_in_1 rfl (lv_at hl 1 rfl) ?_
  refine lv_icmp_lt (tgt := 14) hx hb dX12_in_2 (by decide) (fun c_1 => ?_) (fun c_1 => ?_)
  · refine lv_iconst (v := 0) hx hb dX12_in_14 (by decide) ?_
    exact W.zret (v := 0) hx hb hr rfl (fun t ht hW => ⟨0, rfl, bP_f (fun q => nle_lt c_1 q.1), ht⟩) (fun q h => absurd h List.not_mem_nil) dX12_in_15
  · refine lv_iload_n hx hb dX12_in_5 rfl (lv_at hl 0 rfl) ?_
    refine lv_iload_n hx hb dX12_in_6 rfl (lv_at hl 2 rfl) ?_
    refine lv_icmp_gt (tgt := 14) hx hb dX12_in_7 (by decide) (fun c_2 => ?_) (fun c_2 => ?_)
    · refine lv_iconst (v := 0) hx hb dX12_in_14 (by decide) ?_
      exact W.zret (v := 0) hx hb hr rfl (fun t ht hW => ⟨0, rfl, bP_f (fun q => nle_lt c_2 q.2), ht⟩) (fun q h => absurd h List.not_mem_nil) dX12_in_15
    · refine lv_iconst (v := 1) hx hb dX12_in_10 (by decide) ?_
      refine lv_goto (tgt := 15) hx hb dX12_in_11 (by decide) ?_
      exact W.zret (v := 1) hx hb hr rfl (fun t ht hW => ⟨1, rfl, bP_t ⟨le_nlt c_1, le_nlt c_2⟩, ht⟩) (fun q h => absurd h List.not_mem_nil) dX12_in_15
set_option maxHeartbeats 4000000 in
set_option maxRecDepth 100000 in
/-- X12_isKind -/
theorem m_isKind (l : Launch) (dC : Nat → ClassId) (dI : Nat → Nat → Nat) (x0 : Int32) : Met l yX12_isKind wsX12_isKind ({ frames := 1, cells := 0, slots := 0, locals := 22 }) (va_Pc [.int x0] (fun U => va_P (dC, dI) vwCl [] U.heap ∧ va_K (dC, dI) vwCl [] U)) (vp_Si (fun r => bP r (inR x0 0 5))) 0 0 (fun _ => False) := by
  refine Met.ofW (cc := cX12_isKind) (maxL := 1) (ret := (some .boolean)) (by decide) rfl ?_
  intro p e s m args below meth c s₁ B hml hv
  obtain ⟨rfl, hP, hK⟩ := hv
  have hx := B.exec
  have hb := B.bytes
  have hr := B.returns
  have hts := atoms_spec (ws := wsX12_isKind) B.pre
  have hown : s.vm.findClass RX12 = some m.cls := findClass_of_methodNamed B.named
  have hlocks := B.notSynchronized
  have hP : va_P (dC, dI) vwCl [] s.heap := hP
  have hl := lv_entry ([.int x0]) (n := 1) (Nat.le_of_ble_eq_true rfl)
  rw [lg_entry_eq]
  generalize (lg_sl ([.int x0]) ++ List.replicate (1 - (lg_sl ([.int x0])).length) Slot.unset).toArray = ls at hl ⊢
  have hl : lv_has ls 1 [(0, .int x0)] := hl
  refine lv_iload_n hx hb dX12_isKind_0 rfl (lv_at hl 0 rfl) ?_
  refine lv_iconst (v := 0) hx hb dX12_isKind_1 (by decide) ?_
  refine lv_iconst (v := 5) hx hb dX12_isKind_2 (by decide) ?_
  have hPc := hP.sub (ws' := []) [] rfl
  have hKc := hK.sub (tys' := []) [] rfl
  refine vp_callSi (va_Run.run (va_runS (As := [.int x0, .int 0, .int 5]) (rest := []) ⟨hx, hb, hml, hown, hts⟩ (m_in l dC dI x0 0 5) (va_cwS 3 hts gX12_isKind_X12_in rfl rfl rfl (by decide +kernel) ⟨Nat.le_of_ble_eq_true rfl, Nat.le_of_ble_eq_true rfl⟩) ⟨fun a U g mk q => by obtain ⟨q0, qP, qK⟩ := q; exact ⟨q0, qP, va_K.moved (u := U) (U := U.calling g mk a) (Vm.Alike.refl U.vm) qK⟩, fun U hU hW => ⟨rfl, by rw [hU]; exact hPc, va_K.moved hW.alike hKc⟩⟩ rfl rfl hl.1 rfl (lv_room (Nat.le_of_ble_eq_true rfl)) dX12_isKind_3 ⟨Nat.le_of_ble_eq_true rfl, Nat.le_of_ble_eq_true rfl⟩)) (fun r_2 hw_1 => ?_)
  rcases hw_1 with ⟨rfl, hw_1⟩ | ⟨rfl, hw_1⟩
  · exact W.zret (v := 1) hx hb hr rfl (fun t ht hW => ⟨1, rfl, bP_t hw_1, ht⟩) (fun q h => absurd h List.not_mem_nil) dX12_isKind_6
  · exact W.zret (v := 0) hx hb hr rfl (fun t ht hW => ⟨0, rfl, bP_f hw_1, ht⟩) (fun q h => absurd h List.not_mem_nil) dX12_isKind_6
set_option maxHeartbeats 4000000 in
set_option maxRecDepth 100000 in
/-- X12_isDay -/
theorem m_isDay (l : Launch) (dC : Nat → ClassId) (dI : Nat → Nat → Nat) (x0 : Int32) : Met l yX12_isDay wsX12_isDay ({ frames := 1, cells := 0, slots := 0, locals := 22 }) (va_Pc [.int x0] (fun U => va_P (dC, dI) vwCl [] U.heap ∧ va_K (dC, dI) vwCl [] U)) (vp_Si (fun r => bP r (inR x0 0 999))) 0 0 (fun _ => False) := by
  refine Met.ofW (cc := cX12_isDay) (maxL := 1) (ret := (some .boolean)) (by decide) rfl ?_
  intro p e s m args below meth c s₁ B hml hv
  obtain ⟨rfl, hP, hK⟩ := hv
  have hx := B.exec
  have hb := B.bytes
  have hr := B.returns
  have hts := atoms_spec (ws := wsX12_isDay) B.pre
  have hown : s.vm.findClass RX12 = some m.cls := findClass_of_methodNamed B.named
  have hlocks := B.notSynchronized
  have hP : va_P (dC, dI) vwCl [] s.heap := hP
  have hl := lv_entry ([.int x0]) (n := 1) (Nat.le_of_ble_eq_true rfl)
  rw [lg_entry_eq]
  generalize (lg_sl ([.int x0]) ++ List.replicate (1 - (lg_sl ([.int x0])).length) Slot.unset).toArray = ls at hl ⊢
  have hl : lv_has ls 1 [(0, .int x0)] := hl
  refine lv_iload_n hx hb dX12_isDay_0 rfl (lv_at hl 0 rfl) ?_
  refine lv_iconst (v := 0) hx hb dX12_isDay_1 (by decide) ?_
  refine lv_sipush (v := 999) hx hb dX12_isDay_2 (by decide) ?_
  have hPc := hP.sub (ws' := []) [] rfl
  have hKc := hK.sub (tys' := []) [] rfl
  refine vp_callSi (va_Run.run (va_runS (As := [.int x0, .int 0, .int 999]) (rest := []) ⟨hx, hb, hml, hown, hts⟩ (m_in l dC dI x0 0 999) (va_cwS 3 hts gX12_isDay_X12_in rfl rfl rfl (by decide +kernel) ⟨Nat.le_of_ble_eq_true rfl, Nat.le_of_ble_eq_true rfl⟩) ⟨fun a U g mk q => by obtain ⟨q0, qP, qK⟩ := q; exact ⟨q0, qP, va_K.moved (u := U) (U := U.calling g mk a) (Vm.Alike.refl U.vm) qK⟩, fun U hU hW => ⟨rfl, by rw [hU]; exact hPc, va_K.moved hW.alike hKc⟩⟩ rfl rfl hl.1 rfl (lv_room (Nat.le_of_ble_eq_true rfl)) dX12_isDay_5 ⟨Nat.le_of_ble_eq_true rfl, Nat.le_of_ble_eq_true rfl⟩)) (fun r_2 hw_1 => ?_)
  rcases hw_1 with ⟨rfl, hw_1⟩ | ⟨rfl, hw_1⟩
  · exact W.zret (v := 1) hx hb hr rfl (fun t ht hW => ⟨1, rfl, bP_t hw_1, ht⟩) (fun q h => absurd h List.not_mem_nil) dX12_isDay_8
  · exact W.zret (v := 0) hx hb hr rfl (fun t ht hW => ⟨0, rfl, bP_f hw_1, ht⟩) (fun q h => absurd h List.not_mem_nil) dX12_isDay_8
set_option maxHeartbeats 4000000 in
set_option maxRecDepth 100000 in
/-- Tape.hasRoomFor -/
theorem k_hasRoomFor (l : Launch) (dC : Nat → ClassId) (dI : Nat → Nat → Nat) (h0 : Nat) (h1 : Nat) (v : Int32) (k : Int32) : Met l yX8_hasRoomFor wsX8_hasRoomFor ({ frames := 0, cells := 0, slots := 0, locals := 0 }) (va_Pc [.ref h0, .int k] (fun U => va_P (dC, dI) vwCl [(h0, .inr (8, [.ref h1, .int v]))] U.heap ∧ va_K (dC, dI) vwCl [] U)) (vp_Si (fun r => bP r (k ≤ 60 - v))) 0 0 (fun _ => False) := by
  refine Met.ofW (cc := cX8_hasRoomFor) (maxL := 2) (ret := (some .boolean)) (by decide) rfl ?_
  intro p e s m args below meth c s₁ B hml hv
  obtain ⟨rfl, hP, hK⟩ := hv
  have hx := B.exec
  have hb := B.bytes
  have hr := B.returns
  have hts := atoms_spec (ws := wsX8_hasRoomFor) B.pre
  have hown : s.vm.findClass RX8 = some m.cls := findClass_of_methodNamed B.named
  have hlocks := B.notSynchronized
  have hP : va_P (dC, dI) vwCl [(h0, .inr (8, [.ref h1, .int v]))] s.heap := hP
  have hl := lv_entry ([.ref h0, .int k]) (n := 2) (Nat.le_of_ble_eq_true rfl)
  rw [lg_entry_eq]
  generalize (lg_sl ([.ref h0, .int k]) ++ List.replicate (2 - (lg_sl ([.ref h0, .int k])).length) Slot.unset).toArray = ls at hl ⊢
  have hl : lv_has ls 2 [(0, .ref h0), (1, .int k)] := hl
  refine lv_iload_n hx hb dX8_hasRoomFor_0 rfl (lv_at hl 1 rfl) ?_
  refine lv_bipush (v := 60) hx hb dX8_hasRoomFor_1 (by decide) ?_
  refine lv_aload_n hx hb dX8_hasRoomFor_3 rfl (lv_at hl 0 rfl) ?_
  refine va_get (D := (dC, dI)) (ci := 8) (v := .int v) (C := RX8) (T := TX8) (N := 2) hx hb hts (by decide +kernel) hown hK hP 0 rfl rfl 1 (by decide) (hts (.fieldLink RX8 15 "JoinBench$Tape" "size" "I") (by decide +kernel)) (fun _ h9 => h9) rfl dX8_hasRoomFor_4 ?_
  refine lv_isub hx hb dX8_hasRoomFor_7 ?_
  refine lv_topi (fun y_1 ey_1 => ?_)
  refine lv_icmp_gt (tgt := 15) hx hb dX8_hasRoomFor_8 (by decide) (fun c_2 => ?_) (fun c_2 => ?_)
  · refine lv_iconst (v := 0) hx hb dX8_hasRoomFor_15 (by decide) ?_
    exact W.zret (v := 0) hx hb hr rfl (fun t ht hW => ⟨0, rfl, bP_f (by rw [← ey_1]; exact nle_lt c_2), ht⟩) (fun q h => absurd h List.not_mem_nil) dX8_hasRoomFor_16
  · refine lv_iconst (v := 1) hx hb dX8_hasRoomFor_11 (by decide) ?_
    refine lv_goto (tgt := 16) hx hb dX8_hasRoomFor_12 (by decide) ?_
    exact W.zret (v := 1) hx hb hr rfl (fun t ht hW => ⟨1, rfl, bP_t (by rw [← ey_1]; exact le_nlt c_2), ht⟩) (fun q h => absurd h List.not_mem_nil) dX8_hasRoomFor_16
set_option maxHeartbeats 4000000 in
set_option maxRecDepth 100000 in
/-- Tape.addByte -/
theorem k_addByte (l : Launch) (dC : Nat → ClassId) (dI : Nat → Nat → Nat) (sz : Nat) (h0 : Nat) (h1 : Nat) (cB : ClassId) (n : Nat) (f : Nat → Int32) (k : Int32) (hn : n < 60) : Met l yX8_addByte wsX8_addByte ({ frames := 0, cells := 0, slots := 0, locals := 0 }) (va_Pc [.ref h0, .int k] (fun U => U.heap.size = sz ∧ va_P (dC, dI) vwCl [(h0, .inr (8, [.ref h1, .int (nI n)])), (h1, .inl (cB, 60, .inl f))] U.heap ∧ va_K (dC, dI) vwCl [(cB, .byte)] U ∧ va_D (fun _ => True) [(h0, .inr (8, [.ref h1, .int (nI n)])), (h1, .inl (cB, 60, .inl f))])) (va_Qv (fun (u : Nat → Int32) => True) (fun (u : Nat → Int32) (t : State) => va_P (dC, dI) vwCl [(h0, .inr (8, [.ref h1, .int (nI (n + 1))])), (h1, .inl (cB, 60, .inl u))] t.heap ∧ va_K (dC, dI) vwCl [(cB, .byte)] t ∧ va_D (va_A [(h0, .inr (8, [.ref h1, .int (nI n)])), (h1, .inl (cB, 60, .inl f))] sz) [(h0, .inr (8, [.ref h1, .int (nI (n + 1))])), (h1, .inl (cB, 60, .inl u))]) (va_A [(h0, .inr (8, [.ref h1, .int (nI n)])), (h1, .inl (cB, 60, .inl f))] sz)) 0 0 (va_A [(h0, .inr (8, [.ref h1, .int (nI n)])), (h1, .inl (cB, 60, .inl f))] sz) := by
  refine Met.ofW (cc := cX8_addByte) (maxL := 2) (ret := none) (by decide) rfl ?_
  intro p e s m args below meth c s₁ B hml hv
  obtain ⟨rfl, hsz, hP, hK, hD0⟩ := hv
  have hx := B.exec
  have hb := B.bytes
  have hr := B.returns
  have hts := atoms_spec (ws := wsX8_addByte) B.pre
  have hown : s.vm.findClass RX8 = some m.cls := findClass_of_methodNamed B.named
  have hlocks := B.notSynchronized
  subst hsz
  have hD := hD0.self (sz := s.heap.size)
  generalize hAe : va_A [(h0, .inr (8, [.ref h1, .int (nI n)])), (h1, .inl (cB, 60, .inl f))] s.heap.size = A at hD ⊢
  have hA : ∀ q : Nat, s.heap.size ≤ q → A q := fun q h => by rw [← hAe]; exact Or.inr h
  obtain ⟨H, hH⟩ : ∃ H : Heap, H = s.heap := ⟨_, rfl⟩
  have hS : va_S A s.heap H [] := by rw [hH]; exact va_S.rf
  rw [← hH] at hP ⊢
  have hP : va_P (dC, dI) vwCl [(h0, .inr (8, [.ref h1, .int (nI n)])), (h1, .inl (cB, 60, .inl f))] H := hP
  have hl := lv_entry ([.ref h0, .int k]) (n := 2) (Nat.le_of_ble_eq_true rfl)
  rw [lg_entry_eq]
  generalize (lg_sl ([.ref h0, .int k]) ++ List.replicate (2 - (lg_sl ([.ref h0, .int k])).length) Slot.unset).toArray = ls at hl ⊢
  have hl : lv_has ls 2 [(0, .ref h0), (1, .int k)] := hl
  refine lv_aload_n hx hb dX8_addByte_0 rfl (lv_at hl 0 rfl) ?_
  refine va_get (D := (dC, dI)) (ci := 8) (v := .int (nI n)) (C := RX8) (T := TX8) (N := 2) hx hb hts (by decide +kernel) hown hK hP 0 rfl rfl 1 (by decide) (hts (.fieldLink RX8 15 "JoinBench$Tape" "size" "I") (by decide +kernel)) (fun _ h9 => h9) rfl dX8_addByte_1 ?_
  refine lv_bipush (v := 60) hx hb dX8_addByte_4 (by decide) ?_
  refine lv_icmp_ge (tgt := 30) hx hb dX8_addByte_6 (by decide) (fun c_1 => ?_) (fun c_1 => ?_)
  · exact absurd c_1 (nI_ge hn (by decide))
  refine lv_aload_n hx hb dX8_addByte_9 rfl (lv_at hl 0 rfl) ?_
  refine va_get (D := (dC, dI)) (ci := 8) (v := .ref h1) (C := RX8) (T := TX8) (N := 2) hx hb hts (by decide +kernel) hown hK hP 0 rfl rfl 0 (by decide) (hts (.fieldLink RX8 9 "JoinBench$Tape" "bytes" "[B") (by decide +kernel)) (fun _ h9 => h9) rfl dX8_addByte_10 ?_
  refine lv_aload_n hx hb dX8_addByte_13 rfl (lv_at hl 0 rfl) ?_
  refine va_get (D := (dC, dI)) (ci := 8) (v := .int (nI n)) (C := RX8) (T := TX8) (N := 2) hx hb hts (by decide +kernel) hown hK hP 0 rfl rfl 1 (by decide) (hts (.fieldLink RX8 15 "JoinBench$Tape" "size" "I") (by decide +kernel)) (fun _ h9 => h9) rfl dX8_addByte_14 ?_
  refine lv_iload_n hx hb dX8_addByte_17 rfl (lv_at hl 1 rfl) ?_
  refine lv_i2b (v := (k : Int32).toInt8.toInt32) hx hb dX8_addByte_18 rfl ?_
  refine va_bast hx hb hK hP hD hS 1 0 rfl rfl (vp_in_nI hn (by decide)) dX8_addByte_19 (fun H locs hP hD hS => ?_)
  have hP : va_P (dC, dI) vwCl [(h0, .inr (8, [.ref h1, .int (nI n)])), (h1, .inl (cB, 60, .inl (upd f (nI n : Int32).toNatClampNeg (vp_nar .byte ((k : Int32).toInt8.toInt32)))))] H := hP
  have hD : va_D A [(h0, .inr (8, [.ref h1, .int (nI n)])), (h1, .inl (cB, 60, .inl (upd f (nI n : Int32).toNatClampNeg (vp_nar .byte ((k : Int32).toInt8.toInt32)))))] := hD
  generalize (upd f (nI n : Int32).toNatClampNeg (vp_nar .byte ((k : Int32).toInt8.toInt32))) = f_2 at hP hD
  refine lv_aload_n hx hb dX8_addByte_20 rfl (lv_at hl 0 rfl) ?_
  refine lv_dup hx hb dX8_addByte_21 rfl ?_
  refine va_get (D := (dC, dI)) (ci := 8) (v := .int (nI n)) (C := RX8) (T := TX8) (N := 2) hx hb hts (by decide +kernel) hown hK hP 0 rfl rfl 1 (by decide) (hts (.fieldLink RX8 15 "JoinBench$Tape" "size" "I") (by decide +kernel)) (fun _ h9 => h9) rfl dX8_addByte_22 ?_
  refine lv_iconst (v := 1) hx hb dX8_addByte_25 (by decide) ?_
  refine lv_iadd hx hb dX8_addByte_26 ?_
  refine lv_topi (fun y_3 ey_3 => ?_)
  obtain rfl : y_3 = nI (n + 1) := ey_3.trans (nI_1 n)
  refine va_put (D := (dC, dI)) (ci := 8) (v := .int (nI (n + 1))) (ty := .int) (C := RX8) (T := TX8) (N := 2) hx hb hts (by decide +kernel) tyX8 tyX8_ok nmX8 hown hK hP hD hS 0 rfl rfl 1 (by decide) (hts (.fieldLink RX8 15 "JoinBench$Tape" "size" "I") (by decide +kernel)) (fun _ h9 => h9) rfl (by decide +kernel) rfl rfl (Nat.le_of_ble_eq_true rfl) dX8_addByte_27 (fun H locs hP hD hS => ?_)
  have hP : va_P (dC, dI) vwCl [(h0, .inr (8, [.ref h1, .int (nI (n + 1))])), (h1, .inl (cB, 60, .inl f_2))] H := hP
  have hD : va_D A [(h0, .inr (8, [.ref h1, .int (nI (n + 1))])), (h1, .inl (cB, 60, .inl f_2))] := hD
  have hP9 := hP.sub (ws' := [(h0, .inr (8, [.ref h1, .int (nI (n + 1))])), (h1, .inl (cB, 60, .inl f_2))]) [0, 1] rfl
  have hD9 := hD.sub (ws' := [(h0, .inr (8, [.ref h1, .int (nI (n + 1))])), (h1, .inl (cB, 60, .inl f_2))]) [0, 1] (by decide) rfl
  have hK9 := hK.sub (tys' := [(cB, .byte)]) [0] rfl
  refine W.widen (k := 0) (n := 0) (Nat.le_of_ble_eq_true rfl) (Nat.le_of_ble_eq_true rfl) ?_
  exact W.vret hx hb hr (fun t ht hW => ⟨⟨f_2, rfl, trivial, by rw [ht]; exact hP9, va_K.moved hW.alike hK9, hD9⟩, hS.F ht⟩) hS.2.2 dX8_addByte_30
set_option maxHeartbeats 4000000 in
set_option maxRecDepth 100000 in
/-- Tape.addNumber -/
theorem k_addNumber (l : Launch) (dC : Nat → ClassId) (dI : Nat → Nat → Nat) (sz : Nat) (h0 : Nat) (h1 : Nat) (cB : ClassId) (n : Nat) (f : Nat → Int32) (k : Int32) (hn : n + 3 < 60) : Met l yX8_addNumber wsX8_addNumber ({ frames := 1, cells := 0, slots := 0, locals := 21 }) (va_Pc [.ref h0, .int k] (fun U => U.heap.size = sz ∧ va_P (dC, dI) vwCl [(h0, .inr (8, [.ref h1, .int (nI n)])), (h1, .inl (cB, 60, .inl f))] U.heap ∧ va_K (dC, dI) vwCl [(cB, .byte)] U ∧ va_D (fun _ => True) [(h0, .inr (8, [.ref h1, .int (nI n)])), (h1, .inl (cB, 60, .inl f))])) (va_Qv (fun (u : Nat → Int32) => True) (fun (u : Nat → Int32) (t : State) => va_P (dC, dI) vwCl [(h0, .inr (8, [.ref h1, .int (nI (n + 4))])), (h1, .inl (cB, 60, .inl u))] t.heap ∧ va_K (dC, dI) vwCl [(cB, .byte)] t ∧ va_D (va_A [(h0, .inr (8, [.ref h1, .int (nI n)])), (h1, .inl (cB, 60, .inl f))] sz) [(h0, .inr (8, [.ref h1, .int (nI (n + 4))])), (h1, .inl (cB, 60, .inl u))]) (va_A [(h0, .inr (8, [.ref h1, .int (nI n)])), (h1, .inl (cB, 60, .inl f))] sz)) 0 0 (va_A [(h0, .inr (8, [.ref h1, .int (nI n)])), (h1, .inl (cB, 60, .inl f))] sz) := by
  refine Met.ofW (cc := cX8_addNumber) (maxL := 3) (ret := none) (by decide) rfl ?_
  intro p e s m args below meth c s₁ B hml hv
  obtain ⟨rfl, hsz, hP, hK, hD0⟩ := hv
  have hx := B.exec
  have hb := B.bytes
  have hr := B.returns
  have hts := atoms_spec (ws := wsX8_addNumber) B.pre
  have hown : s.vm.findClass RX8 = some m.cls := findClass_of_methodNamed B.named
  have hlocks := B.notSynchronized
  subst hsz
  have hD := hD0.self (sz := s.heap.size)
  generalize hAe : va_A [(h0, .inr (8, [.ref h1, .int (nI n)])), (h1, .inl (cB, 60, .inl f))] s.heap.size = A at hD ⊢
  have hA : ∀ q : Nat, s.heap.size ≤ q → A q := fun q h => by rw [← hAe]; exact Or.inr h
  obtain ⟨H, hH⟩ : ∃ H : Heap, H = s.heap := ⟨_, rfl⟩
  have hS : va_S A s.heap H [] := by rw [hH]; exact va_S.rf
  rw [← hH] at hP ⊢
  have hP : va_P (dC, dI) vwCl [(h0, .inr (8, [.ref h1, .int (nI n)])), (h1, .inl (cB, 60, .inl f))] H := hP
  have hl := lv_entry ([.ref h0, .int k]) (n := 3) (Nat.le_of_ble_eq_true rfl)
  rw [lg_entry_eq]
  generalize (lg_sl ([.ref h0, .int k]) ++ List.replicate (3 - (lg_sl ([.ref h0, .int k])).length) Slot.unset).toArray = ls at hl ⊢
  have hl : lv_has ls 3 [(0, .ref h0), (1, .int k)] := hl
  refine lv_bipush (v := 24) hx hb dX8_addNumber_0 (by decide) ?_
  refine lv_istore_n (lv' := [(2, .int 24), (0, .ref h0), (1, .int k)]) hx hb dX8_addNumber_2 rfl hl (by decide) rfl (fun ls hl => ?_)
  refine lv_iload_n hx hb dX8_addNumber_3 rfl (lv_at hl 0 rfl) ?_
  refine lv_if_lt (tgt := 20) hx hb dX8_addNumber_4 (by decide) (fun c_1 => ?_) (fun c_1 => ?_)
  · exact absurd c_1 (by decide)
  refine lv_aload_n hx hb dX8_addNumber_7 rfl (lv_at hl 1 rfl) ?_
  refine lv_iload_n hx hb dX8_addNumber_8 rfl (lv_at hl 2 rfl) ?_
  refine lv_iload_n hx hb dX8_addNumber_9 rfl (lv_at hl 0 rfl) ?_
  refine lv_ishr hx hb dX8_addNumber_10 ?_
  refine lv_topi (fun y_2 ey_2 => ?_)
  have hPc := hP.sub (ws' := [(h0, .inr (8, [.ref h1, .int (nI n)])), (h1, .inl (cB, 60, .inl f))]) [0, 1] rfl
  have hDc := hD.sub (ws' := [(h0, .inr (8, [.ref h1, .int (nI n)])), (h1, .inl (cB, 60, .inl f))]) [0, 1] (by decide) rfl
  have hKc := hK.sub (tys' := [(cB, .byte)]) [0] rfl
  have hFc := va_free (wc := [(h0, .inr (8, [.ref h1, .int (nI n)])), (h1, .inl (cB, 60, .inl f))]) hD hS hA [0, 1] rfl
  refine va_callv (va_runV (As := [.int y_2]) (rest := []) ⟨hx, hb, hml, hown, hts⟩ (k_addByte l dC dI H.size h0 h1 cB n f y_2 (by omega)) (cwV 1 hts gX8_addNumber_X8_addByte rfl rfl rfl (by decide +kernel) ⟨Nat.le_of_ble_eq_true rfl, Nat.le_of_ble_eq_true rfl⟩) ⟨fun a U g mk q => by obtain ⟨q0, q1, qP, qK, qD⟩ := q; exact ⟨q0, q1, qP, va_K.moved (u := U) (U := U.calling g mk a) (Vm.Alike.refl U.vm) qK, qD⟩, va_recv hKc hPc (ci := 8) (q0 := 0) rfl rfl, fun U hU hW => ⟨rfl, by rw [hU], by rw [hU]; exact hPc, va_K.moved hW.alike hKc, hDc.weaken (fun _ _ _ _ => trivial)⟩⟩ rfl rfl hl.1 rfl (lv_room (Nat.le_of_ble_eq_true rfl)) dX8_addNumber_11 ⟨Nat.le_of_ble_eq_true rfl, Nat.le_of_ble_eq_true rfl⟩) hS (fun q _ h => hFc q h) hFc (fun u t H1 locs ht hvm hw_3 hB hz1 hk1 hS => ?_)
  obtain ⟨f_5, rfl⟩ : ∃ z, z = u := ⟨_, rfl⟩
  obtain ⟨hP1, hK1, hD1⟩ := hB
  rw [ht] at hP1
  have hK1 := va_K.moved hvm.symm hK1
  obtain ⟨hP, hD⟩ := va_join (wr := []) (w1 := [(h0, .inr (8, [.ref h1, .int (nI (n + 1))])), (h1, .inl (cB, 60, .inl f_5))]) hP hD [0, 1] [] rfl rfl (by decide) (by decide) hk1 hFc hP1 hD1
  clear hPc hDc hFc hk1 hz1
  generalize H1 = H at hP hS ⊢
  have hP : va_P (dC, dI) vwCl [(h0, .inr (8, [.ref h1, .int (nI (n + 1))])), (h1, .inl (cB, 60, .inl f_5))] H := hP
  have hD : va_D A [(h0, .inr (8, [.ref h1, .int (nI (n + 1))])), (h1, .inl (cB, 60, .inl f_5))] := hD
  refine lv_iinc (v := 16) (lv' := [(2, .int 16), (0, .ref h0), (1, .int k)]) hx hb dX8_addNumber_14 hl (k := 0) rfl (by decide) (by decide) rfl (fun ls hl => ?_)
  refine lv_goto (tgt := 3) hx hb dX8_addNumber_17 (by decide) ?_
  refine lv_iload_n hx hb dX8_addNumber_3 rfl (lv_at hl 0 rfl) ?_
  refine lv_if_lt (tgt := 20) hx hb dX8_addNumber_4 (by decide) (fun c_6 => ?_) (fun c_6 => ?_)
  · exact absurd c_6 (by decide)
  refine lv_aload_n hx hb dX8_addNumber_7 rfl (lv_at hl 1 rfl) ?_
  refine lv_iload_n hx hb dX8_addNumber_8 rfl (lv_at hl 2 rfl) ?_
  refine lv_iload_n hx hb dX8_addNumber_9 rfl (lv_at hl 0 rfl) ?_
  refine lv_ishr hx hb dX8_addNumber_10 ?_
  refine lv_topi (fun y_7 ey_7 => ?_)
  have hPc := hP.sub (ws' := [(h0, .inr (8, [.ref h1, .int (nI (n + 1))])), (h1, .inl (cB, 60, .inl f_5))]) [0, 1] rfl
  have hDc := hD.sub (ws' := [(h0, .inr (8, [.ref h1, .int (nI (n + 1))])), (h1, .inl (cB, 60, .inl f_5))]) [0, 1] (by decide) rfl
  have hKc := hK.sub (tys' := [(cB, .byte)]) [0] rfl
  have hFc := va_free (wc := [(h0, .inr (8, [.ref h1, .int (nI (n + 1))])), (h1, .inl (cB, 60, .inl f_5))]) hD hS hA [0, 1] rfl
  refine va_callv (va_runV (As := [.int y_7]) (rest := []) ⟨hx, hb, hml, hown, hts⟩ (k_addByte l dC dI H.size h0 h1 cB (n + 1) f_5 y_7 (by omega)) (cwV 1 hts gX8_addNumber_X8_addByte rfl rfl rfl (by decide +kernel) ⟨Nat.le_of_ble_eq_true rfl, Nat.le_of_ble_eq_true rfl⟩) ⟨fun a U g mk q => by obtain ⟨q0, q1, qP, qK, qD⟩ := q; exact ⟨q0, q1, qP, va_K.moved (u := U) (U := U.calling g mk a) (Vm.Alike.refl U.vm) qK, qD⟩, va_recv hKc hPc (ci := 8) (q0 := 0) rfl rfl, fun U hU hW => ⟨rfl, by rw [hU], by rw [hU]; exact hPc, va_K.moved hW.alike hKc, hDc.weaken (fun _ _ _ _ => trivial)⟩⟩ rfl rfl hl.1 rfl (lv_room (Nat.le_of_ble_eq_true rfl)) dX8_addNumber_11 ⟨Nat.le_of_ble_eq_true rfl, Nat.le_of_ble_eq_true rfl⟩) hS (fun q _ h => hFc q h) hFc (fun u t H1 locs ht hvm hw_8 hB hz1 hk1 hS => ?_)
  obtain ⟨f_10, rfl⟩ : ∃ z, z = u := ⟨_, rfl⟩
  obtain ⟨hP1, hK1, hD1⟩ := hB
  rw [ht] at hP1
  have hK1 := va_K.moved hvm.symm hK1
  obtain ⟨hP, hD⟩ := va_join (wr := []) (w1 := [(h0, .inr (8, [.ref h1, .int (nI ((n + 1) + 1))])), (h1, .inl (cB, 60, .inl f_10))]) hP hD [0, 1] [] rfl rfl (by decide) (by decide) hk1 hFc hP1 hD1
  clear hPc hDc hFc hk1 hz1
  generalize H1 = H at hP hS ⊢
  have hP : va_P (dC, dI) vwCl [(h0, .inr (8, [.ref h1, .int (nI ((n + 1) + 1))])), (h1, .inl (cB, 60, .inl f_10))] H := hP
  have hD : va_D A [(h0, .inr (8, [.ref h1, .int (nI ((n + 1) + 1))])), (h1, .inl (cB, 60, .inl f_10))] := hD
  refine lv_iinc (v := 8) (lv' := [(2, .int 8), (0, .ref h0), (1, .int k)]) hx hb dX8_addNumber_14 hl (k := 0) rfl (by decide) (by decide) rfl (fun ls hl => ?_)
  refine lv_goto (tgt := 3) hx hb dX8_addNumber_17 (by decide) ?_
  refine lv_iload_n hx hb dX8_addNumber_3 rfl (lv_at hl 0 rfl) ?_
  refine lv_if_lt (tgt := 20) hx hb dX8_addNumber_4 (by decide) (fun c_11 => ?_) (fun c_11 => ?_)
  · exact absurd c_11 (by decide)
  refine lv_aload_n hx hb dX8_addNumber_7 rfl (lv_at hl 1 rfl) ?_
  refine lv_iload_n hx hb dX8_addNumber_8 rfl (lv_at hl 2 rfl) ?_
  refine lv_iload_n hx hb dX8_addNumber_9 rfl (lv_at hl 0 rfl) ?_
  refine lv_ishr hx hb dX8_addNumber_10 ?_
  refine lv_topi (fun y_12 ey_12 => ?_)
  have hPc := hP.sub (ws' := [(h0, .inr (8, [.ref h1, .int (nI ((n + 1) + 1))])), (h1, .inl (cB, 60, .inl f_10))]) [0, 1] rfl
  have hDc := hD.sub (ws' := [(h0, .inr (8, [.ref h1, .int (nI ((n + 1) + 1))])), (h1, .inl (cB, 60, .inl f_10))]) [0, 1] (by decide) rfl
  have hKc := hK.sub (tys' := [(cB, .byte)]) [0] rfl
  have hFc := va_free (wc := [(h0, .inr (8, [.ref h1, .int (nI ((n + 1) + 1))])), (h1, .inl (cB, 60, .inl f_10))]) hD hS hA [0, 1] rfl
  refine va_callv (va_runV (As := [.int y_12]) (rest := []) ⟨hx, hb, hml, hown, hts⟩ (k_addByte l dC dI H.size h0 h1 cB ((n + 1) + 1) f_10 y_12 (by omega)) (cwV 1 hts gX8_addNumber_X8_addByte rfl rfl rfl (by decide +kernel) ⟨Nat.le_of_ble_eq_true rfl, Nat.le_of_ble_eq_true rfl⟩) ⟨fun a U g mk q => by obtain ⟨q0, q1, qP, qK, qD⟩ := q; exact ⟨q0, q1, qP, va_K.moved (u := U) (U := U.calling g mk a) (Vm.Alike.refl U.vm) qK, qD⟩, va_recv hKc hPc (ci := 8) (q0 := 0) rfl rfl, fun U hU hW => ⟨rfl, by rw [hU], by rw [hU]; exact hPc, va_K.moved hW.alike hKc, hDc.weaken (fun _ _ _ _ => trivial)⟩⟩ rfl rfl hl.1 rfl (lv_room (Nat.le_of_ble_eq_true rfl)) dX8_addNumber_11 ⟨Nat.le_of_ble_eq_true rfl, Nat.le_of_ble_eq_true rfl⟩) hS (fun q _ h => hFc q h) hFc (fun u t H1 locs ht hvm hw_13 hB hz1 hk1 hS => ?_)
  obtain ⟨f_15, rfl⟩ : ∃ z, z = u := ⟨_, rfl⟩
  obtain ⟨hP1, hK1, hD1⟩ := hB
  rw [ht] at hP1
  have hK1 := va_K.moved hvm.symm hK1
  obtain ⟨hP, hD⟩ := va_join (wr := []) (w1 := [(h0, .inr (8, [.ref h1, .int (nI (((n + 1) + 1) + 1))])), (h1, .inl (cB, 60, .inl f_15))]) hP hD [0, 1] [] rfl rfl (by decide) (by decide) hk1 hFc hP1 hD1
  clear hPc hDc hFc hk1 hz1
  generalize H1 = H at hP hS ⊢
  have hP : va_P (dC, dI) vwCl [(h0, .inr (8, [.ref h1, .int (nI (((n + 1) + 1) + 1))])), (h1, .inl (cB, 60, .inl f_15))] H := hP
  have hD : va_D A [(h0, .inr (8, [.ref h1, .int (nI (((n + 1) + 1) + 1))])), (h1, .inl (cB, 60, .inl f_15))] := hD
  refine lv_iinc (v := 0) (lv' := [(2, .int 0), (0, .ref h0), (1, .int k)]) hx hb dX8_addNumber_14 hl (k := 0) rfl (by decide) (by decide) rfl (fun ls hl => ?_)
  refine lv_goto (tgt := 3) hx hb dX8_addNumber_17 (by decide) ?_
  refine lv_iload_n hx hb dX8_addNumber_3 rfl (lv_at hl 0 rfl) ?_
  refine lv_if_lt (tgt := 20) hx hb dX8_addNumber_4 (by decide) (fun c_16 => ?_) (fun c_16 => ?_)
  · exact absurd c_16 (by decide)
  refine lv_aload_n hx hb dX8_addNumber_7 rfl (lv_at hl 1 rfl) ?_
  refine lv_iload_n hx hb dX8_addNumber_8 rfl (lv_at hl 2 rfl) ?_
  refine lv_iload_n hx hb dX8_addNumber_9 rfl (lv_at hl 0 rfl) ?_
  refine lv_ishr hx hb dX8_addNumber_10 ?_
  refine lv_topi (fun y_17 ey_17 => ?_)
  have hPc := hP.sub (ws' := [(h0, .inr (8, [.ref h1, .int (nI (((n + 1) + 1) + 1))])), (h1, .inl (cB, 60, .inl f_15))]) [0, 1] rfl
  have hDc := hD.sub (ws' := [(h0, .inr (8, [.ref h1, .int (nI (((n + 1) + 1) + 1))])), (h1, .inl (cB, 60, .inl f_15))]) [0, 1] (by decide) rfl
  have hKc := hK.sub (tys' := [(cB, .byte)]) [0] rfl
  have hFc := va_free (wc := [(h0, .inr (8, [.ref h1, .int (nI (((n + 1) + 1) + 1))])), (h1, .inl (cB, 60, .inl f_15))]) hD hS hA [0, 1] rfl
  refine va_callv (va_runV (As := [.int y_17]) (rest := []) ⟨hx, hb, hml, hown, hts⟩ (k_addByte l dC dI H.size h0 h1 cB (((n + 1) + 1) + 1) f_15 y_17 (by omega)) (cwV 1 hts gX8_addNumber_X8_addByte rfl rfl rfl (by decide +kernel) ⟨Nat.le_of_ble_eq_true rfl, Nat.le_of_ble_eq_true rfl⟩) ⟨fun a U g mk q => by obtain ⟨q0, q1, qP, qK, qD⟩ := q; exact ⟨q0, q1, qP, va_K.moved (u := U) (U := U.calling g mk a) (Vm.Alike.refl U.vm) qK, qD⟩, va_recv hKc hPc (ci := 8) (q0 := 0) rfl rfl, fun U hU hW => ⟨rfl, by rw [hU], by rw [hU]; exact hPc, va_K.moved hW.alike hKc, hDc.weaken (fun _ _ _ _ => trivial)⟩⟩ rfl rfl hl.1 rfl (lv_room (Nat.le_of_ble_eq_true rfl)) dX8_addNumber_11 ⟨Nat.le_of_ble_eq_true rfl, Nat.le_of_ble_eq_true rfl⟩) hS (fun q _ h => hFc q h) hFc (fun u t H1 locs ht hvm hw_18 hB hz1 hk1 hS => ?_)
  obtain ⟨f_20, rfl⟩ : ∃ z, z = u := ⟨_, rfl⟩
  obtain ⟨hP1, hK1, hD1⟩ := hB
  rw [ht] at hP1
  have hK1 := va_K.moved hvm.symm hK1
  obtain ⟨hP, hD⟩ := va_join (wr := []) (w1 := [(h0, .inr (8, [.ref h1, .int (nI ((((n + 1) + 1) + 1) + 1))])), (h1, .inl (cB, 60, .inl f_20))]) hP hD [0, 1] [] rfl rfl (by decide) (by decide) hk1 hFc hP1 hD1
  clear hPc hDc hFc hk1 hz1
  generalize H1 = H at hP hS ⊢
  have hP : va_P (dC, dI) vwCl [(h0, .inr (8, [.ref h1, .int (nI ((((n + 1) + 1) + 1) + 1))])), (h1, .inl (cB, 60, .inl f_20))] H := hP
  have hD : va_D A [(h0, .inr (8, [.ref h1, .int (nI ((((n + 1) + 1) + 1) + 1))])), (h1, .inl (cB, 60, .inl f_20))] := hD
  refine lv_iinc (v := (-8)) (lv' := [(2, .int (-8)), (0, .ref h0), (1, .int k)]) hx hb dX8_addNumber_14 hl (k := 0) rfl (by decide) (by decide) rfl (fun ls hl => ?_)
  refine lv_goto (tgt := 3) hx hb dX8_addNumber_17 (by decide) ?_
  refine lv_iload_n hx hb dX8_addNumber_3 rfl (lv_at hl 0 rfl) ?_
  refine lv_if_lt (tgt := 20) hx hb dX8_addNumber_4 (by decide) (fun c_21 => ?_) (fun c_21 => ?_)
  rotate_left
  · exact absurd (by decide) c_21
  have hP9 := hP.sub (ws' := [(h0, .inr (8, [.ref h1, .int (nI ((((n + 1) + 1) + 1) + 1))])), (h1, .inl (cB, 60, .inl f_20))]) [0, 1] rfl
  have hD9 := hD.sub (ws' := [(h0, .inr (8, [.ref h1, .int (nI ((((n + 1) + 1) + 1) + 1))])), (h1, .inl (cB, 60, .inl f_20))]) [0, 1] (by decide) rfl
  have hK9 := hK.sub (tys' := [(cB, .byte)]) [0] rfl
  refine W.widen (k := 0) (n := 0) (Nat.le_of_ble_eq_true rfl) (Nat.le_of_ble_eq_true rfl) ?_
  exact W.vret hx hb hr (fun t ht hW => ⟨⟨f_20, rfl, trivial, by rw [ht]; exact hP9, va_K.moved hW.alike hK9, hD9⟩, hS.F ht⟩) hS.2.2 dX8_addNumber_20
