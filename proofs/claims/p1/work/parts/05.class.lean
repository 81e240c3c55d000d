set_option maxHeartbeats 4000000 in
set_option maxRecDepth 100000 in
/-- Tongue.formAt with no forms -/
theorem k_formAt0 (l : Launch) (dC : Nat → ClassId) (dI : Nat → Nat → Nat) (tg : Nat) (gf : Nat) (gr : Nat) (gz : Nat) (i : Int32) : Met l yX9_formAt wsX9_formAt ({ frames := 0, cells := 0, slots := 0, locals := 0 }) (va_Pc [.ref tg, .int i] (fun U => va_P (dC, dI) vwCl [(tg, .inr (9, [.ref gf, .ref gr, .int 0, .int 0, .ref gz]))] U.heap ∧ va_K (dC, dI) vwCl [] U)) (va_Sq (fun r => r = none)) 0 0 (fun _ => False) := by
  refine Met.ofW (cc := cX9_formAt) (maxL := 2) (ret := (some (.object "JoinBench$Form"))) (by decide) rfl ?_
  intro p e s m args below meth c s₁ B hml hv
  obtain ⟨rfl, hP, hK⟩ := hv
  have hx := B.exec
  have hb := B.bytes
  have hr := B.returns
  have hts := atoms_spec (ws := wsX9_formAt) B.pre
  have hown : s.vm.findClass RX9 = some m.cls := findClass_of_methodNamed B.named
  have hlocks := B.notSynchronized
  have hP : va_P (dC, dI) vwCl [(tg, .inr (9, [.ref gf, .ref gr, .int 0, .int 0, .ref gz]))] s.heap := hP
  have hl := lv_entry ([.ref tg, .int i]) (n := 2) (Nat.le_of_ble_eq_true rfl)
  rw [lg_entry_eq]
  generalize (lg_sl ([.ref tg, .int i]) ++ List.replicate (2 - (lg_sl ([.ref tg, .int i])).length) Slot.unset).toArray = ls at hl ⊢
  have hl : lv_has ls 2 [(0, .ref tg), (1, .int i)] := hl
  refine lv_iload_n hx hb dX9_formAt_0 rfl (lv_at hl 1 rfl) ?_
  refine lv_if_lt (tgt := 21) hx hb dX9_formAt_1 (by decide) (fun c_1 => ?_) (fun c_1 => ?_)
  · refine lv_null hx hb dX9_formAt_21 ?_
    exact W.aret (v := .null) hx hb hr (Or.inl ⟨_, rfl⟩) (Or.inl rfl) (fun t ht hW => ⟨none, rfl, rfl, ht⟩) (fun q h => absurd h List.not_mem_nil) dX9_formAt_22
  · refine lv_iload_n hx hb dX9_formAt_4 rfl (lv_at hl 1 rfl) ?_
    refine lv_aload_n hx hb dX9_formAt_5 rfl (lv_at hl 0 rfl) ?_
    refine va_get (D := (dC, dI)) (ci := 9) (v := .int 0) (C := RX9) (T := TX9) (N := 5) hx hb hts (by decide +kernel) hown hK hP 0 rfl rfl 2 (by decide) (hts (.fieldLink RX9 23 "JoinBench$Tongue" "formCount" "I") (by decide +kernel)) (fun _ h9 => h9) rfl dX9_formAt_6 ?_
    refine lv_icmp_ge (tgt := 21) hx hb dX9_formAt_9 (by decide) (fun c_2 => ?_) (fun c_2 => ?_)
    rotate_left
    · exact absurd (le_nlt c_1) c_2
    refine lv_null hx hb dX9_formAt_21 ?_
    exact W.aret (v := .null) hx hb hr (Or.inl ⟨_, rfl⟩) (Or.inl rfl) (fun t ht hW => ⟨none, rfl, rfl, ht⟩) (fun q h => absurd h List.not_mem_nil) dX9_formAt_22
set_option maxHeartbeats 4000000 in
set_option maxRecDepth 100000 in
/-- X9_setMeeting -/
theorem k_setMeeting0 (l : Launch) (dC : Nat → ClassId) (dI : Nat → Nat → Nat) (sz : Nat) (tg : Nat) (gf : Nat) (gr : Nat) (gz : Nat) (cZ : ClassId) (a0 : Int32) (b0 : Int32) (may : Int32) (j : Nat) (hj : j < 36) (ej : a0 * 6 + b0 = nI j) : Met l yX9_setMeeting wsX9_setMeeting ({ frames := 0, cells := 0, slots := 0, locals := 0 }) (va_Pc [.ref tg, .int a0, .int b0, .int may] (fun U => U.heap.size = sz ∧ va_P (dC, dI) vwCl [(tg, .inr (9, [.ref gf, .ref gr, .int 0, .int 0, .ref gz])), (gz, .inl (cZ, 36, .inl (fun _ => 0)))] U.heap ∧ va_K (dC, dI) vwCl [(cZ, .boolean)] U ∧ va_D (fun _ => True) [(tg, .inr (9, [.ref gf, .ref gr, .int 0, .int 0, .ref gz])), (gz, .inl (cZ, 36, .inl (fun _ => 0)))])) (va_Qi (fun (r : Int32) (_ : Unit) => bP r (may = 0)) (fun (_ : Unit) (_ : State) => True) (va_A [(tg, .inr (9, [.ref gf, .ref gr, .int 0, .int 0, .ref gz])), (gz, .inl (cZ, 36, .inl (fun _ => 0)))] sz)) 0 0 (va_A [(tg, .inr (9, [.ref gf, .ref gr, .int 0, .int 0, .ref gz])), (gz, .inl (cZ, 36, .inl (fun _ => 0)))] sz) := by
  refine Met.ofW (cc := cX9_setMeeting) (maxL := 5) (ret := (some .boolean)) (by decide) rfl ?_
  intro p e s m args below meth c s₁ B hml hv
  obtain ⟨rfl, hsz, hP, hK, hD0⟩ := hv
  have hx := B.exec
  have hb := B.bytes
  have hr := B.returns
  have hts := atoms_spec (ws := wsX9_setMeeting) B.pre
  have hown : s.vm.findClass RX9 = some m.cls := findClass_of_methodNamed B.named
  have hlocks := B.notSynchronized
  subst hsz
  have hD := hD0.self (sz := s.heap.size)
  generalize hAe : va_A [(tg, .inr (9, [.ref gf, .ref gr, .int 0, .int 0, .ref gz])), (gz, .inl (cZ, 36, .inl (fun _ => 0)))] s.heap.size = A at hD ⊢
  have hA : ∀ q : Nat, s.heap.size ≤ q → A q := fun q h => by rw [← hAe]; exact Or.inr h
  obtain ⟨H, hH⟩ : ∃ H : Heap, H = s.heap := ⟨_, rfl⟩
  have hS : va_S A s.heap H [] := by rw [hH]; exact va_S.rf
  rw [← hH] at hP ⊢
  have hP : va_P (dC, dI) vwCl [(tg, .inr (9, [.ref gf, .ref gr, .int 0, .int 0, .ref gz])), (gz, .inl (cZ, 36, .inl (fun _ => 0)))] H := hP
  have hl := lv_entry ([.ref tg, .int a0, .int b0, .int may]) (n := 5) (Nat.le_of_ble_eq_true rfl)
  rw [lg_entry_eq]
  generalize (lg_sl ([.ref tg, .int a0, .int b0, .int may]) ++ List.replicate (5 - (lg_sl ([.ref tg, .int a0, .int b0, .int may])).length) Slot.unset).toArray = ls at hl ⊢
  have hl : lv_has ls 5 [(0, .ref tg), (1, .int a0), (2, .int b0), (3, .int may)] := hl
  refine lv_aload_n hx hb dX9_setMeeting_0 rfl (lv_at hl 0 rfl) ?_
  refine va_get (D := (dC, dI)) (ci := 9) (v := .ref gz) (C := RX9) (T := TX9) (N := 5) hx hb hts (by decide +kernel) hown hK hP 0 rfl rfl 4 (by decide) (hts (.fieldLink RX9 30 "JoinBench$Tongue" "forbidden" "[Z") (by decide +kernel)) (fun _ h9 => h9) rfl dX9_setMeeting_1 ?_
  refine lv_iload_n hx hb dX9_setMeeting_4 rfl (lv_at hl 1 rfl) ?_
  refine lv_bipush (v := 6) hx hb dX9_setMeeting_5 (by decide) ?_
  refine lv_imul hx hb dX9_setMeeting_7 ?_
  refine lv_iload_n hx hb dX9_setMeeting_8 rfl (lv_at hl 2 rfl) ?_
  refine lv_iadd hx hb dX9_setMeeting_9 ?_
  refine lv_topi (fun y_1 ey_1 => ?_)
  obtain rfl : y_1 = nI j := ey_1.trans (ej)
  refine va_zald hx hb hK hP 1 0 rfl rfl (vp_in_nI hj (by decide)) dX9_setMeeting_10 ?_
  refine lv_topi (fun y_2 ey_2 => ?_)
  obtain rfl : y_2 = 0 := ey_2
  refine lv_iload_n hx hb dX9_setMeeting_11 rfl (lv_at hl 3 rfl) ?_
  refine lv_icmp_ne (tgt := 19) hx hb dX9_setMeeting_12 (by decide) (fun c_3 => ?_) (fun c_3 => ?_)
  · refine lv_iconst (v := 0) hx hb dX9_setMeeting_19 (by decide) ?_
    refine lv_istore (lv' := [(4, .int 0), (0, .ref tg), (1, .int a0), (2, .int b0), (3, .int may)]) hx hb dX9_setMeeting_20 hl (by decide) rfl (fun ls hl => ?_)
    refine lv_aload_n hx hb dX9_setMeeting_22 rfl (lv_at hl 1 rfl) ?_
    refine va_get (D := (dC, dI)) (ci := 9) (v := .ref gz) (C := RX9) (T := TX9) (N := 5) hx hb hts (by decide +kernel) hown hK hP 0 rfl rfl 4 (by decide) (hts (.fieldLink RX9 30 "JoinBench$Tongue" "forbidden" "[Z") (by decide +kernel)) (fun _ h9 => h9) rfl dX9_setMeeting_23 ?_
    refine lv_iload_n hx hb dX9_setMeeting_26 rfl (lv_at hl 2 rfl) ?_
    refine lv_bipush (v := 6) hx hb dX9_setMeeting_27 (by decide) ?_
    refine lv_imul hx hb dX9_setMeeting_29 ?_
    refine lv_iload_n hx hb dX9_setMeeting_30 rfl (lv_at hl 3 rfl) ?_
    refine lv_iadd hx hb dX9_setMeeting_31 ?_
    refine lv_topi (fun y_4 ey_4 => ?_)
    obtain rfl : y_4 = nI j := ey_4.trans (ej)
    refine lv_iload_n hx hb dX9_setMeeting_32 rfl (lv_at hl 4 rfl) ?_
    refine lv_if_ne (tgt := 40) hx hb dX9_setMeeting_33 (by decide) (fun c_5 => ?_) (fun c_5 => ?_)
    · refine lv_iconst (v := 0) hx hb dX9_setMeeting_40 (by decide) ?_
      refine va_zast hx hb hK hP hD hS 1 0 rfl rfl (vp_in_nI hj (by decide)) dX9_setMeeting_41 (fun H locs hP hD hS => ?_)
      have hP : va_P (dC, dI) vwCl [(tg, .inr (9, [.ref gf, .ref gr, .int 0, .int 0, .ref gz])), (gz, .inl (cZ, 36, .inl (upd (fun _ => 0) (nI j : Int32).toNatClampNeg (vp_nar .boolean 0))))] H := hP
      have hD : va_D A [(tg, .inr (9, [.ref gf, .ref gr, .int 0, .int 0, .ref gz])), (gz, .inl (cZ, 36, .inl (upd (fun _ => 0) (nI j : Int32).toNatClampNeg (vp_nar .boolean 0))))] := hD
      generalize (upd (fun _ => 0) (nI j : Int32).toNatClampNeg (vp_nar .boolean 0)) = f_6 at hP hD
      refine lv_iload hx hb dX9_setMeeting_42 (lv_at hl 0 rfl) ?_
      refine W.widen (k := 0) (n := 0) (Nat.le_of_ble_eq_true rfl) (Nat.le_of_ble_eq_true rfl) ?_
      exact W.zret (v := 0) hx hb hr rfl (fun t ht hW => ⟨⟨0, (), rfl, bP_f (fun q => c_3 q.symm), trivial⟩, hS.F ht⟩) hS.2.2 dX9_setMeeting_44
    · refine lv_iconst (v := 1) hx hb dX9_setMeeting_36 (by decide) ?_
      refine lv_goto (tgt := 41) hx hb dX9_setMeeting_37 (by decide) ?_
      refine va_zast hx hb hK hP hD hS 1 0 rfl rfl (vp_in_nI hj (by decide)) dX9_setMeeting_41 (fun H locs hP hD hS => ?_)
      have hP : va_P (dC, dI) vwCl [(tg, .inr (9, [.ref gf, .ref gr, .int 0, .int 0, .ref gz])), (gz, .inl (cZ, 36, .inl (upd (fun _ => 0) (nI j : Int32).toNatClampNeg (vp_nar .boolean 1))))] H := hP
      have hD : va_D A [(tg, .inr (9, [.ref gf, .ref gr, .int 0, .int 0, .ref gz])), (gz, .inl (cZ, 36, .inl (upd (fun _ => 0) (nI j : Int32).toNatClampNeg (vp_nar .boolean 1))))] := hD
      generalize (upd (fun _ => 0) (nI j : Int32).toNatClampNeg (vp_nar .boolean 1)) = f_7 at hP hD
      refine lv_iload hx hb dX9_setMeeting_42 (lv_at hl 0 rfl) ?_
      refine W.widen (k := 0) (n := 0) (Nat.le_of_ble_eq_true rfl) (Nat.le_of_ble_eq_true rfl) ?_
      exact W.zret (v := 0) hx hb hr rfl (fun t ht hW => ⟨⟨0, (), rfl, bP_f (fun q => c_3 q.symm), trivial⟩, hS.F ht⟩) hS.2.2 dX9_setMeeting_44
  · refine lv_iconst (v := 1) hx hb dX9_setMeeting_15 (by decide) ?_
    refine lv_goto (tgt := 20) hx hb dX9_setMeeting_16 (by decide) ?_
    refine lv_istore (lv' := [(4, .int 1), (0, .ref tg), (1, .int a0), (2, .int b0), (3, .int may)]) hx hb dX9_setMeeting_20 hl (by decide) rfl (fun ls hl => ?_)
    refine lv_aload_n hx hb dX9_setMeeting_22 rfl (lv_at hl 1 rfl) ?_
    refine va_get (D := (dC, dI)) (ci := 9) (v := .ref gz) (C := RX9) (T := TX9) (N := 5) hx hb hts (by decide +kernel) hown hK hP 0 rfl rfl 4 (by decide) (hts (.fieldLink RX9 30 "JoinBench$Tongue" "forbidden" "[Z") (by decide +kernel)) (fun _ h9 => h9) rfl dX9_setMeeting_23 ?_
    refine lv_iload_n hx hb dX9_setMeeting_26 rfl (lv_at hl 2 rfl) ?_
    refine lv_bipush (v := 6) hx hb dX9_setMeeting_27 (by decide) ?_
    refine lv_imul hx hb dX9_setMeeting_29 ?_
    refine lv_iload_n hx hb dX9_setMeeting_30 rfl (lv_at hl 3 rfl) ?_
    refine lv_iadd hx hb dX9_setMeeting_31 ?_
    refine lv_topi (fun y_8 ey_8 => ?_)
    obtain rfl : y_8 = nI j := ey_8.trans (ej)
    refine lv_iload_n hx hb dX9_setMeeting_32 rfl (lv_at hl 4 rfl) ?_
    refine lv_if_ne (tgt := 40) hx hb dX9_setMeeting_33 (by decide) (fun c_9 => ?_) (fun c_9 => ?_)
    · refine lv_iconst (v := 0) hx hb dX9_setMeeting_40 (by decide) ?_
      refine va_zast hx hb hK hP hD hS 1 0 rfl rfl (vp_in_nI hj (by decide)) dX9_setMeeting_41 (fun H locs hP hD hS => ?_)
      have hP : va_P (dC, dI) vwCl [(tg, .inr (9, [.ref gf, .ref gr, .int 0, .int 0, .ref gz])), (gz, .inl (cZ, 36, .inl (upd (fun _ => 0) (nI j : Int32).toNatClampNeg (vp_nar .boolean 0))))] H := hP
      have hD : va_D A [(tg, .inr (9, [.ref gf, .ref gr, .int 0, .int 0, .ref gz])), (gz, .inl (cZ, 36, .inl (upd (fun _ => 0) (nI j : Int32).toNatClampNeg (vp_nar .boolean 0))))] := hD
      generalize (upd (fun _ => 0) (nI j : Int32).toNatClampNeg (vp_nar .boolean 0)) = f_10 at hP hD
      refine lv_iload hx hb dX9_setMeeting_42 (lv_at hl 0 rfl) ?_
      refine W.widen (k := 0) (n := 0) (Nat.le_of_ble_eq_true rfl) (Nat.le_of_ble_eq_true rfl) ?_
      exact W.zret (v := 1) hx hb hr rfl (fun t ht hW => ⟨⟨1, (), rfl, bP_t c_3.symm, trivial⟩, hS.F ht⟩) hS.2.2 dX9_setMeeting_44
    · refine lv_iconst (v := 1) hx hb dX9_setMeeting_36 (by decide) ?_
      refine lv_goto (tgt := 41) hx hb dX9_setMeeting_37 (by decide) ?_
      refine va_zast hx hb hK hP hD hS 1 0 rfl rfl (vp_in_nI hj (by decide)) dX9_setMeeting_41 (fun H locs hP hD hS => ?_)
      have hP : va_P (dC, dI) vwCl [(tg, .inr (9, [.ref gf, .ref gr, .int 0, .int 0, .ref gz])), (gz, .inl (cZ, 36, .inl (upd (fun _ => 0) (nI j : Int32).toNatClampNeg (vp_nar .boolean 1))))] H := hP
      have hD : va_D A [(tg, .inr (9, [.ref gf, .ref gr, .int 0, .int 0, .ref gz])), (gz, .inl (cZ, 36, .inl (upd (fun _ => 0) (nI j : Int32).toNatClampNeg (vp_nar .boolean 1))))] := hD
      generalize (upd (fun _ => 0) (nI j : Int32).toNatClampNeg (vp_nar .boolean 1)) = f_11 at hP hD
      refine lv_iload hx hb dX9_setMeeting_42 (lv_at hl 0 rfl) ?_
      refine W.widen (k := 0) (n := 0) (Nat.le_of_ble_eq_true rfl) (Nat.le_of_ble_eq_true rfl) ?_
      exact W.zret (v := 1) hx hb hr rfl (fun t ht hW => ⟨⟨1, (), rfl, bP_t c_3.symm, trivial⟩, hS.F ht⟩) hS.2.2 dX9_setMeeting_44
set_option maxHeartbeats 4000000 in
set_option maxRecDepth 100000 in
/-- X10_setKind -/
theorem k_setKind0 (l : Launch) (dC : Nat → ClassId) (dI : Nat → Nat → Nat) (sz : Nat) (tr : Nat) (tk : Nat) (cI : ClassId) (fk : Nat → Int32) (a0 : Int32) (b0 : Int32) (kd : Int32) (j : Nat) (hj : j < 36) (ej : a0 * 6 + b0 = nI j) (hfk : ∀ j, j < 36 → fk j = -1) : Met l yX10_setKind wsX10_setKind ({ frames := 0, cells := 0, slots := 0, locals := 0 }) (va_Pc [.ref tr, .int a0, .int b0, .int kd] (fun U => U.heap.size = sz ∧ va_P (dC, dI) vwCl [(tr, .inr (10, [.ref tk, .null])), (tk, .inl (cI, 36, .inl fk))] U.heap ∧ va_K (dC, dI) vwCl [(cI, .int)] U ∧ va_D (fun _ => True) [(tr, .inr (10, [.ref tk, .null])), (tk, .inl (cI, 36, .inl fk))])) (va_Qi (fun (r : Int32) (_ : Unit) => r = -1) (fun (_ : Unit) (_ : State) => True) (va_A [(tr, .inr (10, [.ref tk, .null])), (tk, .inl (cI, 36, .inl fk))] sz)) 0 0 (va_A [(tr, .inr (10, [.ref tk, .null])), (tk, .inl (cI, 36, .inl fk))] sz) := by
  refine Met.ofW (cc := cX10_setKind) (maxL := 5) (ret := (some .int)) (by decide) rfl ?_
  intro p e s m args below meth c s₁ B hml hv
  obtain ⟨rfl, hsz, hP, hK, hD0⟩ := hv
  have hx := B.exec
  have hb := B.bytes
  have hr := B.returns
  have hts := atoms_spec (ws := wsX10_setKind) B.pre
  have hown : s.vm.findClass RX10 = some m.cls := findClass_of_methodNamed B.named
  have hlocks := B.notSynchronized
  subst hsz
  have hD := hD0.self (sz := s.heap.size)
  generalize hAe : va_A [(tr, .inr (10, [.ref tk, .null])), (tk, .inl (cI, 36, .inl fk))] s.heap.size = A at hD ⊢
  have hA : ∀ q : Nat, s.heap.size ≤ q → A q := fun q h => by rw [← hAe]; exact Or.inr h
  obtain ⟨H, hH⟩ : ∃ H : Heap, H = s.heap := ⟨_, rfl⟩
  have hS : va_S A s.heap H [] := by rw [hH]; exact va_S.rf
  rw [← hH] at hP ⊢
  have hP : va_P (dC, dI) vwCl [(tr, .inr (10, [.ref tk, .null])), (tk, .inl (cI, 36, .inl fk))] H := hP
  have hl := lv_entry ([.ref tr, .int a0, .int b0, .int kd]) (n := 5) (Nat.le_of_ble_eq_true rfl)
  rw [lg_entry_eq]
  generalize (lg_sl ([.ref tr, .int a0, .int b0, .int kd]) ++ List.replicate (5 - (lg_sl ([.ref tr, .int a0, .int b0, .int kd])).length) Slot.unset).toArray = ls at hl ⊢
  have hl : lv_has ls 5 [(0, .ref tr), (1, .int a0), (2, .int b0), (3, .int kd)] := hl
  refine lv_aload_n hx hb dX10_setKind_0 rfl (lv_at hl 0 rfl) ?_
  refine va_get (D := (dC, dI)) (ci := 10) (v := .ref tk) (C := RX10) (T := TX10) (N := 2) hx hb hts (by decide +kernel) hown hK hP 0 rfl rfl 0 (by decide) (hts (.fieldLink RX10 9 "JoinBench$Trees" "kinds" "[I") (by decide +kernel)) (fun _ h9 => h9) rfl dX10_setKind_1 ?_
  refine lv_iload_n hx hb dX10_setKind_4 rfl (lv_at hl 1 rfl) ?_
  refine lv_bipush (v := 6) hx hb dX10_setKind_5 (by decide) ?_
  refine lv_imul hx hb dX10_setKind_7 ?_
  refine lv_iload_n hx hb dX10_setKind_8 rfl (lv_at hl 2 rfl) ?_
  refine lv_iadd hx hb dX10_setKind_9 ?_
  refine lv_topi (fun y_1 ey_1 => ?_)
  obtain rfl : y_1 = nI j := ey_1.trans (ej)
  refine va_iald hx hb hK hP 1 0 rfl rfl (vp_in_nI hj (by decide)) dX10_setKind_10 ?_
  refine lv_topi (fun y_2 ey_2 => ?_)
  obtain rfl : y_2 = (-1) := ey_2.trans (by rw [nI_clamp (by omega)]; exact hfk j hj)
  refine lv_istore (lv' := [(4, .int (-1)), (0, .ref tr), (1, .int a0), (2, .int b0), (3, .int kd)]) hx hb dX10_setKind_11 hl (by decide) rfl (fun ls hl => ?_)
  refine lv_aload_n hx hb dX10_setKind_13 rfl (lv_at hl 1 rfl) ?_
  refine va_get (D := (dC, dI)) (ci := 10) (v := .ref tk) (C := RX10) (T := TX10) (N := 2) hx hb hts (by decide +kernel) hown hK hP 0 rfl rfl 0 (by decide) (hts (.fieldLink RX10 9 "JoinBench$Trees" "kinds" "[I") (by decide +kernel)) (fun _ h9 => h9) rfl dX10_setKind_14 ?_
  refine lv_iload_n hx hb dX10_setKind_17 rfl (lv_at hl 2 rfl) ?_
  refine lv_bipush (v := 6) hx hb dX10_setKind_18 (by decide) ?_
  refine lv_imul hx hb dX10_setKind_20 ?_
  refine lv_iload_n hx hb dX10_setKind_21 rfl (lv_at hl 3 rfl) ?_
  refine lv_iadd hx hb dX10_setKind_22 ?_
  refine lv_topi (fun y_3 ey_3 => ?_)
  obtain rfl : y_3 = nI j := ey_3.trans (ej)
  refine lv_iload_n hx hb dX10_setKind_23 rfl (lv_at hl 4 rfl) ?_
  refine va_iast hx hb hK hP hD hS 1 0 rfl rfl (vp_in_nI hj (by decide)) dX10_setKind_24 (fun H locs hP hD hS => ?_)
  have hP : va_P (dC, dI) vwCl [(tr, .inr (10, [.ref tk, .null])), (tk, .inl (cI, 36, .inl (upd fk (nI j : Int32).toNatClampNeg kd)))] H := hP
  have hD : va_D A [(tr, .inr (10, [.ref tk, .null])), (tk, .inl (cI, 36, .inl (upd fk (nI j : Int32).toNatClampNeg kd)))] := hD
  generalize (upd fk (nI j : Int32).toNatClampNeg kd) = f_4 at hP hD
  refine lv_iload hx hb dX10_setKind_25 (lv_at hl 0 rfl) ?_
  refine W.widen (k := 0) (n := 0) (Nat.le_of_ble_eq_true rfl) (Nat.le_of_ble_eq_true rfl) ?_
  exact W.iret (v := (-1)) hx hb hr (fun t ht hW => ⟨⟨(-1), (), rfl, rfl, trivial⟩, hS.F ht⟩) hS.2.2 dX10_setKind_27
set_option maxHeartbeats 4000000 in
set_option maxRecDepth 100000 in
/-- X11_feed -/
theorem k_feed0 (l : Launch) (dC : Nat → ClassId) (dI : Nat → Nat → Nat) (sz : Nat) (x : Nat) (tp : Nat) (tg : Nat) (rw : Nat) (tr : Nat) (ch : Nat) (tb : Nat) (cB : ClassId) (f : Nat → Int32) (a0 : Int32) (a1 : Int32) (a2 : Int32) (a3 : Int32) (a4 : Int32) : Met l yX11_feed wsX11_feed ({ frames := 2, cells := 0, slots := 0, locals := 43 }) (va_Pc [.ref x, .int a0, .int a1, .int a2, .int a3, .int a4] (fun U => U.heap.size = sz ∧ va_P (dC, dI) vwCl [(x, .inr (11, [.ref tp, .ref tg, .ref rw, .ref tr, .ref ch, .null, .int 1])), (tp, .inr (8, [.ref tb, .int 0])), (tb, .inl (cB, 60, .inl f))] U.heap ∧ va_K (dC, dI) vwCl [(cB, .byte)] U ∧ va_D (fun _ => True) [(x, .inr (11, [.ref tp, .ref tg, .ref rw, .ref tr, .ref ch, .null, .int 1])), (tp, .inr (8, [.ref tb, .int 0])), (tb, .inl (cB, 60, .inl f))])) (va_Qi (fun (r : Int32) (_ : Unit) => r = 20) (fun (_ : Unit) (_ : State) => True) (va_A [(x, .inr (11, [.ref tp, .ref tg, .ref rw, .ref tr, .ref ch, .null, .int 1])), (tp, .inr (8, [.ref tb, .int 0])), (tb, .inl (cB, 60, .inl f))] sz)) 0 0 (va_A [(x, .inr (11, [.ref tp, .ref tg, .ref rw, .ref tr, .ref ch, .null, .int 1])), (tp, .inr (8, [.ref tb, .int 0])), (tb, .inl (cB, 60, .inl f))] sz) := by
  refine Met.ofW (cc := cX11_feed) (maxL := 6) (ret := (some .int)) (by decide) rfl ?_
  intro p e s m args below meth c s₁ B hml hv
  obtain ⟨rfl, hsz, hP, hK, hD0⟩ := hv
  have hx := B.exec
  have hb := B.bytes
  have hr := B.returns
  have hts := atoms_spec (ws := wsX11_feed) B.pre
  have hown : s.vm.findClass RX11 = some m.cls := findClass_of_methodNamed B.named
  have hlocks := B.notSynchronized
  subst hsz
  have hD := hD0.self (sz := s.heap.size)
  generalize hAe : va_A [(x, .inr (11, [.ref tp, .ref tg, .ref rw, .ref tr, .ref ch, .null, .int 1])), (tp, .inr (8, [.ref tb, .int 0])), (tb, .inl (cB, 60, .inl f))] s.heap.size = A at hD ⊢
  have hA : ∀ q : Nat, s.heap.size ≤ q → A q := fun q h => by rw [← hAe]; exact Or.inr h
  obtain ⟨H, hH⟩ : ∃ H : Heap, H = s.heap := ⟨_, rfl⟩
  have hS : va_S A s.heap H [] := by rw [hH]; exact va_S.rf
  rw [← hH] at hP ⊢
  have hP : va_P (dC, dI) vwCl [(x, .inr (11, [.ref tp, .ref tg, .ref rw, .ref tr, .ref ch, .null, .int 1])), (tp, .inr (8, [.ref tb, .int 0])), (tb, .inl (cB, 60, .inl f))] H := hP
  have hl := lv_entry ([.ref x, .int a0, .int a1, .int a2, .int a3, .int a4]) (n := 6) (Nat.le_of_ble_eq_true rfl)
  rw [lg_entry_eq]
  generalize (lg_sl ([.ref x, .int a0, .int a1, .int a2, .int a3, .int a4]) ++ List.replicate (6 - (lg_sl ([.ref x, .int a0, .int a1, .int a2, .int a3, .int a4])).length) Slot.unset).toArray = ls at hl ⊢
  have hl : lv_has ls 6 [(0, .ref x), (1, .int a0), (2, .int a1), (3, .int a2), (4, .int a3), (5, .int a4)] := hl
  refine lv_aload_n hx hb dX11_feed_0 rfl (lv_at hl 0 rfl) ?_
  refine va_get (D := (dC, dI)) (ci := 11) (v := .ref tp) (C := RX11) (T := TX11) (N := 7) hx hb hts (by decide +kernel) hown hK hP 0 rfl rfl 0 (by decide) (hts (.fieldLink RX11 12 "JoinBench" "tape" "LJoinBench$Tape;") (by decide +kernel)) (fun _ h9 => h9) rfl dX11_feed_1 ?_
  refine lv_bipush (v := 20) hx hb dX11_feed_4 (by decide) ?_
  have hPc := hP.sub (ws' := [(tp, .inr (8, [.ref tb, .int 0]))]) [1] rfl
  have hKc := hK.sub (tys' := []) [] rfl
  refine vp_callSi (va_Run.run (va_runV (As := [.int 20]) (rest := []) ⟨hx, hb, hml, hown, hts⟩ (k_hasRoomFor l dC dI tp tb 0 20) (cwV 1 hts gX11_feed_X8_hasRoomFor rfl rfl rfl (by decide +kernel) ⟨Nat.le_of_ble_eq_true rfl, Nat.le_of_ble_eq_true rfl⟩) ⟨fun a U g mk q => by obtain ⟨q0, qP, qK⟩ := q; exact ⟨q0, qP, va_K.moved (u := U) (U := U.calling g mk a) (Vm.Alike.refl U.vm) qK⟩, va_recv hKc hPc (ci := 8) (q0 := 0) rfl rfl, fun U hU hW => ⟨rfl, by rw [hU]; exact hPc, va_K.moved hW.alike hKc⟩⟩ rfl rfl hl.1 rfl (lv_room (Nat.le_of_ble_eq_true rfl)) dX11_feed_6 ⟨Nat.le_of_ble_eq_true rfl, Nat.le_of_ble_eq_true rfl⟩)) (fun r_2 hw_1 => ?_)
  rcases hw_1 with ⟨rfl, hw_1⟩ | ⟨rfl, hw_1⟩
  rotate_left
  · exact absurd (by decide) hw_1
  refine lv_if_ne (tgt := 14) hx hb dX11_feed_9 (by decide) (fun c_3 => ?_) (fun c_3 => ?_)
  rotate_left
  · exact absurd c_3 (by decide)
  refine lv_aload_n hx hb dX11_feed_14 rfl (lv_at hl 0 rfl) ?_
  refine va_get (D := (dC, dI)) (ci := 11) (v := .ref tp) (C := RX11) (T := TX11) (N := 7) hx hb hts (by decide +kernel) hown hK hP 0 rfl rfl 0 (by decide) (hts (.fieldLink RX11 12 "JoinBench" "tape" "LJoinBench$Tape;") (by decide +kernel)) (fun _ h9 => h9) rfl dX11_feed_15 ?_
  refine lv_iload_n hx hb dX11_feed_18 rfl (lv_at hl 1 rfl) ?_
  have hPc := hP.sub (ws' := [(tp, .inr (8, [.ref tb, .int 0])), (tb, .inl (cB, 60, .inl f))]) [1, 2] rfl
  have hDc := hD.sub (ws' := [(tp, .inr (8, [.ref tb, .int 0])), (tb, .inl (cB, 60, .inl f))]) [1, 2] (by decide) rfl
  have hKc := hK.sub (tys' := [(cB, .byte)]) [0] rfl
  have hFc := va_free (wc := [(tp, .inr (8, [.ref tb, .int 0])), (tb, .inl (cB, 60, .inl f))]) hD hS hA [1, 2] rfl
  refine va_callv (va_runV (As := [.int a0]) (rest := []) ⟨hx, hb, hml, hown, hts⟩ (k_addNumber l dC dI H.size tp tb cB 0 f a0 (by omega)) (cwV 1 hts gX11_feed_X8_addNumber rfl rfl rfl (by decide +kernel) ⟨Nat.le_of_ble_eq_true rfl, Nat.le_of_ble_eq_true rfl⟩) ⟨fun a U g mk q => by obtain ⟨q0, q1, qP, qK, qD⟩ := q; exact ⟨q0, q1, qP, va_K.moved (u := U) (U := U.calling g mk a) (Vm.Alike.refl U.vm) qK, qD⟩, va_recv hKc hPc (ci := 8) (q0 := 0) rfl rfl, fun U hU hW => ⟨rfl, by rw [hU], by rw [hU]; exact hPc, va_K.moved hW.alike hKc, hDc.weaken (fun _ _ _ _ => trivial)⟩⟩ rfl rfl hl.1 rfl (lv_room (Nat.le_of_ble_eq_true rfl)) dX11_feed_19 ⟨Nat.le_of_ble_eq_true rfl, Nat.le_of_ble_eq_true rfl⟩) hS (fun q _ h => hFc q h) hFc (fun u t H1 locs ht hvm hw_4 hB hz1 hk1 hS => ?_)
  obtain ⟨f_6, rfl⟩ : ∃ z, z = u := ⟨_, rfl⟩
  obtain ⟨hP1, hK1, hD1⟩ := hB
  rw [ht] at hP1
  have hK1 := va_K.moved hvm.symm hK1
  obtain ⟨hP, hD⟩ := va_join (wr := [(x, .inr (11, [.ref tp, .ref tg, .ref rw, .ref tr, .ref ch, .null, .int 1]))]) (w1 := [(tp, .inr (8, [.ref tb, .int (nI (0 + 4))])), (tb, .inl (cB, 60, .inl f_6))]) hP hD [1, 2] [0] rfl rfl (by decide) (by decide) hk1 hFc hP1 hD1
  clear hPc hDc hFc hk1 hz1
  generalize H1 = H at hP hS ⊢
  have hP : va_P (dC, dI) vwCl [(x, .inr (11, [.ref tp, .ref tg, .ref rw, .ref tr, .ref ch, .null, .int 1])), (tp, .inr (8, [.ref tb, .int (nI (0 + 4))])), (tb, .inl (cB, 60, .inl f_6))] H := hP
  have hD : va_D A [(x, .inr (11, [.ref tp, .ref tg, .ref rw, .ref tr, .ref ch, .null, .int 1])), (tp, .inr (8, [.ref tb, .int (nI (0 + 4))])), (tb, .inl (cB, 60, .inl f_6))] := hD
  refine lv_aload_n hx hb dX11_feed_22 rfl (lv_at hl 0 rfl) ?_
  refine va_get (D := (dC, dI)) (ci := 11) (v := .ref tp) (C := RX11) (T := TX11) (N := 7) hx hb hts (by decide +kernel) hown hK hP 0 rfl rfl 0 (by decide) (hts (.fieldLink RX11 12 "JoinBench" "tape" "LJoinBench$Tape;") (by decide +kernel)) (fun _ h9 => h9) rfl dX11_feed_23 ?_
  refine lv_iload_n hx hb dX11_feed_26 rfl (lv_at hl 2 rfl) ?_
  have hPc := hP.sub (ws' := [(tp, .inr (8, [.ref tb, .int (nI (0 + 4))])), (tb, .inl (cB, 60, .inl f_6))]) [1, 2] rfl
  have hDc := hD.sub (ws' := [(tp, .inr (8, [.ref tb, .int (nI (0 + 4))])), (tb, .inl (cB, 60, .inl f_6))]) [1, 2] (by decide) rfl
  have hKc := hK.sub (tys' := [(cB, .byte)]) [0] rfl
  have hFc := va_free (wc := [(tp, .inr (8, [.ref tb, .int (nI (0 + 4))])), (tb, .inl (cB, 60, .inl f_6))]) hD hS hA [1, 2] rfl
  refine va_callv (va_runV (As := [.int a1]) (rest := []) ⟨hx, hb, hml, hown, hts⟩ (k_addNumber l dC dI H.size tp tb cB (0 + 4) f_6 a1 (by omega)) (cwV 1 hts gX11_feed_X8_addNumber rfl rfl rfl (by decide +kernel) ⟨Nat.le_of_ble_eq_true rfl, Nat.le_of_ble_eq_true rfl⟩) ⟨fun a U g mk q => by obtain ⟨q0, q1, qP, qK, qD⟩ := q; exact ⟨q0, q1, qP, va_K.moved (u := U) (U := U.calling g mk a) (Vm.Alike.refl U.vm) qK, qD⟩, va_recv hKc hPc (ci := 8) (q0 := 0) rfl rfl, fun U hU hW => ⟨rfl, by rw [hU], by rw [hU]; exact hPc, va_K.moved hW.alike hKc, hDc.weaken (fun _ _ _ _ => trivial)⟩⟩ rfl rfl hl.1 rfl (lv_room (Nat.le_of_ble_eq_true rfl)) dX11_feed_27 ⟨Nat.le_of_ble_eq_true rfl, Nat.le_of_ble_eq_true rfl⟩) hS (fun q _ h => hFc q h) hFc (fun u t H1 locs ht hvm hw_7 hB hz1 hk1 hS => ?_)
  obtain ⟨f_9, rfl⟩ : ∃ z, z = u := ⟨_, rfl⟩
  obtain ⟨hP1, hK1, hD1⟩ := hB
  rw [ht] at hP1
  have hK1 := va_K.moved hvm.symm hK1
  obtain ⟨hP, hD⟩ := va_join (wr := [(x, .inr (11, [.ref tp, .ref tg, .ref rw, .ref tr, .ref ch, .null, .int 1]))]) (w1 := [(tp, .inr (8, [.ref tb, .int (nI ((0 + 4) + 4))])), (tb, .inl (cB, 60, .inl f_9))]) hP hD [1, 2] [0] rfl rfl (by decide) (by decide) hk1 hFc hP1 hD1
  clear hPc hDc hFc hk1 hz1
  generalize H1 = H at hP hS ⊢
  have hP : va_P (dC, dI) vwCl [(x, .inr (11, [.ref tp, .ref tg, .ref rw, .ref tr, .ref ch, .null, .int 1])), (tp, .inr (8, [.ref tb, .int (nI ((0 + 4) + 4))])), (tb, .inl (cB, 60, .inl f_9))] H := hP
  have hD : va_D A [(x, .inr (11, [.ref tp, .ref tg, .ref rw, .ref tr, .ref ch, .null, .int 1])), (tp, .inr (8, [.ref tb, .int (nI ((0 + 4) + 4))])), (tb, .inl (cB, 60, .inl f_9))] := hD
  refine lv_aload_n hx hb dX11_feed_30 rfl (lv_at hl 0 rfl) ?_
  refine va_get (D := (dC, dI)) (ci := 11) (v := .ref tp) (C := RX11) (T := TX11) (N := 7) hx hb hts (by decide +kernel) hown hK hP 0 rfl rfl 0 (by decide) (hts (.fieldLink RX11 12 "JoinBench" "tape" "LJoinBench$Tape;") (by decide +kernel)) (fun _ h9 => h9) rfl dX11_feed_31 ?_
  refine lv_iload_n hx hb dX11_feed_34 rfl (lv_at hl 3 rfl) ?_
  have hPc := hP.sub (ws' := [(tp, .inr (8, [.ref tb, .int (nI ((0 + 4) + 4))])), (tb, .inl (cB, 60, .inl f_9))]) [1, 2] rfl
  have hDc := hD.sub (ws' := [(tp, .inr (8, [.ref tb, .int (nI ((0 + 4) + 4))])), (tb, .inl (cB, 60, .inl f_9))]) [1, 2] (by decide) rfl
  have hKc := hK.sub (tys' := [(cB, .byte)]) [0] rfl
  have hFc := va_free (wc := [(tp, .inr (8, [.ref tb, .int (nI ((0 + 4) + 4))])), (tb, .inl (cB, 60, .inl f_9))]) hD hS hA [1, 2] rfl
  refine va_callv (va_runV (As := [.int a2]) (rest := []) ⟨hx, hb, hml, hown, hts⟩ (k_addNumber l dC dI H.size tp tb cB ((0 + 4) + 4) f_9 a2 (by omega)) (cwV 1 hts gX11_feed_X8_addNumber rfl rfl rfl (by decide +kernel) ⟨Nat.le_of_ble_eq_true rfl, Nat.le_of_ble_eq_true rfl⟩) ⟨fun a U g mk q => by obtain ⟨q0, q1, qP, qK, qD⟩ := q; exact ⟨q0, q1, qP, va_K.moved (u := U) (U := U.calling g mk a) (Vm.Alike.refl U.vm) qK, qD⟩, va_recv hKc hPc (ci := 8) (q0 := 0) rfl rfl, fun U hU hW => ⟨rfl, by rw [hU], by rw [hU]; exact hPc, va_K.moved hW.alike hKc, hDc.weaken (fun _ _ _ _ => trivial)⟩⟩ rfl rfl hl.1 rfl (lv_room (Nat.le_of_ble_eq_true rfl)) dX11_feed_35 ⟨Nat.le_of_ble_eq_true rfl, Nat.le_of_ble_eq_true rfl⟩) hS (fun q _ h => hFc q h) hFc (fun u t H1 locs ht hvm hw_10 hB hz1 hk1 hS => ?_)
  obtain ⟨f_12, rfl⟩ : ∃ z, z = u := ⟨_, rfl⟩
  obtain ⟨hP1, hK1, hD1⟩ := hB
  rw [ht] at hP1
  have hK1 := va_K.moved hvm.symm hK1
  obtain ⟨hP, hD⟩ := va_join (wr := [(x, .inr (11, [.ref tp, .ref tg, .ref rw, .ref tr, .ref ch, .null, .int 1]))]) (w1 := [(tp, .inr (8, [.ref tb, .int (nI (((0 + 4) + 4) + 4))])), (tb, .inl (cB, 60, .inl f_12))]) hP hD [1, 2] [0] rfl rfl (by decide) (by decide) hk1 hFc hP1 hD1
  clear hPc hDc hFc hk1 hz1
  generalize H1 = H at hP hS ⊢
  have hP : va_P (dC, dI) vwCl [(x, .inr (11, [.ref tp, .ref tg, .ref rw, .ref tr, .ref ch, .null, .int 1])), (tp, .inr (8, [.ref tb, .int (nI (((0 + 4) + 4) + 4))])), (tb, .inl (cB, 60, .inl f_12))] H := hP
  have hD : va_D A [(x, .inr (11, [.ref tp, .ref tg, .ref rw, .ref tr, .ref ch, .null, .int 1])), (tp, .inr (8, [.ref tb, .int (nI (((0 + 4) + 4) + 4))])), (tb, .inl (cB, 60, .inl f_12))] := hD
  refine lv_aload_n hx hb dX11_feed_38 rfl (lv_at hl 0 rfl) ?_
  refine va_get (D := (dC, dI)) (ci := 11) (v := .ref tp) (C := RX11) (T := TX11) (N := 7) hx hb hts (by decide +kernel) hown hK hP 0 rfl rfl 0 (by decide) (hts (.fieldLink RX11 12 "JoinBench" "tape" "LJoinBench$Tape;") (by decide +kernel)) (fun _ h9 => h9) rfl dX11_feed_39 ?_
  refine lv_iload hx hb dX11_feed_42 (lv_at hl 4 rfl) ?_
  have hPc := hP.sub (ws' := [(tp, .inr (8, [.ref tb, .int (nI (((0 + 4) + 4) + 4))])), (tb, .inl (cB, 60, .inl f_12))]) [1, 2] rfl
  have hDc := hD.sub (ws' := [(tp, .inr (8, [.ref tb, .int (nI (((0 + 4) + 4) + 4))])), (tb, .inl (cB, 60, .inl f_12))]) [1, 2] (by decide) rfl
  have hKc := hK.sub (tys' := [(cB, .byte)]) [0] rfl
  have hFc := va_free (wc := [(tp, .inr (8, [.ref tb, .int (nI (((0 + 4) + 4) + 4))])), (tb, .inl (cB, 60, .inl f_12))]) hD hS hA [1, 2] rfl
  refine va_callv (va_runV (As := [.int a3]) (rest := []) ⟨hx, hb, hml, hown, hts⟩ (k_addNumber l dC dI H.size tp tb cB (((0 + 4) + 4) + 4) f_12 a3 (by omega)) (cwV 1 hts gX11_feed_X8_addNumber rfl rfl rfl (by decide +kernel) ⟨Nat.le_of_ble_eq_true rfl, Nat.le_of_ble_eq_true rfl⟩) ⟨fun a U g mk q => by obtain ⟨q0, q1, qP, qK, qD⟩ := q; exact ⟨q0, q1, qP, va_K.moved (u := U) (U := U.calling g mk a) (Vm.Alike.refl U.vm) qK, qD⟩, va_recv hKc hPc (ci := 8) (q0 := 0) rfl rfl, fun U hU hW => ⟨rfl, by rw [hU], by rw [hU]; exact hPc, va_K.moved hW.alike hKc, hDc.weaken (fun _ _ _ _ => trivial)⟩⟩ rfl rfl hl.1 rfl (lv_room (Nat.le_of_ble_eq_true rfl)) dX11_feed_44 ⟨Nat.le_of_ble_eq_true rfl, Nat.le_of_ble_eq_true rfl⟩) hS (fun q _ h => hFc q h) hFc (fun u t H1 locs ht hvm hw_13 hB hz1 hk1 hS => ?_)
  obtain ⟨f_15, rfl⟩ : ∃ z, z = u := ⟨_, rfl⟩
  obtain ⟨hP1, hK1, hD1⟩ := hB
  rw [ht] at hP1
  have hK1 := va_K.moved hvm.symm hK1
  obtain ⟨hP, hD⟩ := va_join (wr := [(x, .inr (11, [.ref tp, .ref tg, .ref rw, .ref tr, .ref ch, .null, .int 1]))]) (w1 := [(tp, .inr (8, [.ref tb, .int (nI ((((0 + 4) + 4) + 4) + 4))])), (tb, .inl (cB, 60, .inl f_15))]) hP hD [1, 2] [0] rfl rfl (by decide) (by decide) hk1 hFc hP1 hD1
  clear hPc hDc hFc hk1 hz1
  generalize H1 = H at hP hS ⊢
  have hP : va_P (dC, dI) vwCl [(x, .inr (11, [.ref tp, .ref tg, .ref rw, .ref tr, .ref ch, .null, .int 1])), (tp, .inr (8, [.ref tb, .int (nI ((((0 + 4) + 4) + 4) + 4))])), (tb, .inl (cB, 60, .inl f_15))] H := hP
  have hD : va_D A [(x, .inr (11, [.ref tp, .ref tg, .ref rw, .ref tr, .ref ch, .null, .int 1])), (tp, .inr (8, [.ref tb, .int (nI ((((0 + 4) + 4) + 4) + 4))])), (tb, .inl (cB, 60, .inl f_15))] := hD
  refine lv_aload_n hx hb dX11_feed_47 rfl (lv_at hl 0 rfl) ?_
  refine va_get (D := (dC, dI)) (ci := 11) (v := .ref tp) (C := RX11) (T := TX11) (N := 7) hx hb hts (by decide +kernel) hown hK hP 0 rfl rfl 0 (by decide) (hts (.fieldLink RX11 12 "JoinBench" "tape" "LJoinBench$Tape;") (by decide +kernel)) (fun _ h9 => h9) rfl dX11_feed_48 ?_
  refine lv_iload hx hb dX11_feed_51 (lv_at hl 5 rfl) ?_
  have hPc := hP.sub (ws' := [(tp, .inr (8, [.ref tb, .int (nI ((((0 + 4) + 4) + 4) + 4))])), (tb, .inl (cB, 60, .inl f_15))]) [1, 2] rfl
  have hDc := hD.sub (ws' := [(tp, .inr (8, [.ref tb, .int (nI ((((0 + 4) + 4) + 4) + 4))])), (tb, .inl (cB, 60, .inl f_15))]) [1, 2] (by decide) rfl
  have hKc := hK.sub (tys' := [(cB, .byte)]) [0] rfl
  have hFc := va_free (wc := [(tp, .inr (8, [.ref tb, .int (nI ((((0 + 4) + 4) + 4) + 4))])), (tb, .inl (cB, 60, .inl f_15))]) hD hS hA [1, 2] rfl
  refine va_callv (va_runV (As := [.int a4]) (rest := []) ⟨hx, hb, hml, hown, hts⟩ (k_addNumber l dC dI H.size tp tb cB ((((0 + 4) + 4) + 4) + 4) f_15 a4 (by omega)) (cwV 1 hts gX11_feed_X8_addNumber rfl rfl rfl (by decide +kernel) ⟨Nat.le_of_ble_eq_true rfl, Nat.le_of_ble_eq_true rfl⟩) ⟨fun a U g mk q => by obtain ⟨q0, q1, qP, qK, qD⟩ := q; exact ⟨q0, q1, qP, va_K.moved (u := U) (U := U.calling g mk a) (Vm.Alike.refl U.vm) qK, qD⟩, va_recv hKc hPc (ci := 8) (q0 := 0) rfl rfl, fun U hU hW => ⟨rfl, by rw [hU], by rw [hU]; exact hPc, va_K.moved hW.alike hKc, hDc.weaken (fun _ _ _ _ => trivial)⟩⟩ rfl rfl hl.1 rfl (lv_room (Nat.le_of_ble_eq_true rfl)) dX11_feed_53 ⟨Nat.le_of_ble_eq_true rfl, Nat.le_of_ble_eq_true rfl⟩) hS (fun q _ h => hFc q h) hFc (fun u t H1 locs ht hvm hw_16 hB hz1 hk1 hS => ?_)
  obtain ⟨f_18, rfl⟩ : ∃ z, z = u := ⟨_, rfl⟩
  obtain ⟨hP1, hK1, hD1⟩ := hB
  rw [ht] at hP1
  have hK1 := va_K.moved hvm.symm hK1
  obtain ⟨hP, hD⟩ := va_join (wr := [(x, .inr (11, [.ref tp, .ref tg, .ref rw, .ref tr, .ref ch, .null, .int 1]))]) (w1 := [(tp, .inr (8, [.ref tb, .int (nI (((((0 + 4) + 4) + 4) + 4) + 4))])), (tb, .inl (cB, 60, .inl f_18))]) hP hD [1, 2] [0] rfl rfl (by decide) (by decide) hk1 hFc hP1 hD1
  clear hPc hDc hFc hk1 hz1
  generalize H1 = H at hP hS ⊢
  have hP : va_P (dC, dI) vwCl [(x, .inr (11, [.ref tp, .ref tg, .ref rw, .ref tr, .ref ch, .null, .int 1])), (tp, .inr (8, [.ref tb, .int (nI (((((0 + 4) + 4) + 4) + 4) + 4))])), (tb, .inl (cB, 60, .inl f_18))] H := hP
  have hD : va_D A [(x, .inr (11, [.ref tp, .ref tg, .ref rw, .ref tr, .ref ch, .null, .int 1])), (tp, .inr (8, [.ref tb, .int (nI (((((0 + 4) + 4) + 4) + 4) + 4))])), (tb, .inl (cB, 60, .inl f_18))] := hD
  refine lv_aload_n hx hb dX11_feed_56 rfl (lv_at hl 0 rfl) ?_
  refine va_get (D := (dC, dI)) (ci := 11) (v := .ref tp) (C := RX11) (T := TX11) (N := 7) hx hb hts (by decide +kernel) hown hK hP 0 rfl rfl 0 (by decide) (hts (.fieldLink RX11 12 "JoinBench" "tape" "LJoinBench$Tape;") (by decide +kernel)) (fun _ h9 => h9) rfl dX11_feed_57 ?_
  refine va_get (D := (dC, dI)) (ci := 8) (v := .int (nI (((((0 + 4) + 4) + 4) + 4) + 4))) (C := RX8) (T := TX8) (N := 2) hx hb hts (by decide +kernel) hown hK hP 1 rfl rfl 1 (by decide) (hts (.fieldLink RX11 60 "JoinBench$Tape" "size" "I") (by decide +kernel)) (fun _ h9 => h9) rfl dX11_feed_60 ?_
  refine W.widen (k := 0) (n := 0) (Nat.le_of_ble_eq_true rfl) (Nat.le_of_ble_eq_true rfl) ?_
  exact W.iret (v := nI (((((0 + 4) + 4) + 4) + 4) + 4)) hx hb hr (fun t ht hW => ⟨⟨nI (((((0 + 4) + 4) + 4) + 4) + 4), (), rfl, (by decide), trivial⟩, hS.F ht⟩) hS.2.2 dX11_feed_63
set_option maxHeartbeats 4000000 in
set_option maxRecDepth 100000 in
/-- X11_end -/
theorem k_end0 (l : Launch) (dC : Nat → ClassId) (dI : Nat → Nat → Nat) (sz : Nat) (x : Nat) (tp : Nat) (tg : Nat) (rw : Nat) (tr : Nat) (ch : Nat) (tb : Nat) (n : Int32) : Met l yX11_end wsX11_end ({ frames := 1, cells := 0, slots := 0, locals := 22 }) (va_Pc [.ref x, .int n] (fun U => U.heap.size = sz ∧ va_P (dC, dI) vwCl [(x, .inr (11, [.ref tp, .ref tg, .ref rw, .ref tr, .ref ch, .null, .int 1])), (tp, .inr (8, [.ref tb, .int 0]))] U.heap ∧ va_K (dC, dI) vwCl [] U ∧ va_D (fun _ => True) [(x, .inr (11, [.ref tp, .ref tg, .ref rw, .ref tr, .ref ch, .null, .int 1])), (tp, .inr (8, [.ref tb, .int 0]))])) (va_Qi (fun (r : Int32) (_ : Unit) => vP r (inR n 0 0) n (-1)) (fun (_ : Unit) (_ : State) => True) (va_A [(x, .inr (11, [.ref tp, .ref tg, .ref rw, .ref tr, .ref ch, .null, .int 1])), (tp, .inr (8, [.ref tb, .int 0]))] sz)) 0 0 (va_A [(x, .inr (11, [.ref tp, .ref tg, .ref rw, .ref tr, .ref ch, .null, .int 1])), (tp, .inr (8, [.ref tb, .int 0]))] sz) := by
  refine Met.ofW (cc := cX11_end) (maxL := 2) (ret := (some .int)) (by decide) rfl ?_
  intro p e s m args below meth c s₁ B hml hv
  obtain ⟨rfl, hsz, hP, hK, hD0⟩ := hv
  have hx := B.exec
  have hb := B.bytes
  have hr := B.returns
  have hts := atoms_spec (ws := wsX11_end) B.pre
  have hown : s.vm.findClass RX11 = some m.cls := findClass_of_methodNamed B.named
  have hlocks := B.notSynchronized
  subst hsz
  have hD := hD0.self (sz := s.heap.size)
  generalize hAe : va_A [(x, .inr (11, [.ref tp, .ref tg, .ref rw, .ref tr, .ref ch, .null, .int 1])), (tp, .inr (8, [.ref tb, .int 0]))] s.heap.size = A at hD ⊢
  have hA : ∀ q : Nat, s.heap.size ≤ q → A q := fun q h => by rw [← hAe]; exact Or.inr h
  obtain ⟨H, hH⟩ : ∃ H : Heap, H = s.heap := ⟨_, rfl⟩
  have hS : va_S A s.heap H [] := by rw [hH]; exact va_S.rf
  rw [← hH] at hP ⊢
  have hP : va_P (dC, dI) vwCl [(x, .inr (11, [.ref tp, .ref tg, .ref rw, .ref tr, .ref ch, .null, .int 1])), (tp, .inr (8, [.ref tb, .int 0]))] H := hP
  have hl := lv_entry ([.ref x, .int n]) (n := 2) (Nat.le_of_ble_eq_true rfl)
  rw [lg_entry_eq]
  generalize (lg_sl ([.ref x, .int n]) ++ List.replicate (2 - (lg_sl ([.ref x, .int n])).length) Slot.unset).toArray = ls at hl ⊢
  have hl : lv_has ls 2 [(0, .ref x), (1, .int n)] := hl
  refine lv_iload_n hx hb dX11_end_0 rfl (lv_at hl 1 rfl) ?_
  refine lv_iconst (v := 0) hx hb dX11_end_1 (by decide) ?_
  refine lv_aload_n hx hb dX11_end_2 rfl (lv_at hl 0 rfl) ?_
  refine va_get (D := (dC, dI)) (ci := 11) (v := .ref tp) (C := RX11) (T := TX11) (N := 7) hx hb hts (by decide +kernel) hown hK hP 0 rfl rfl 0 (by decide) (hts (.fieldLink RX11 12 "JoinBench" "tape" "LJoinBench$Tape;") (by decide +kernel)) (fun _ h9 => h9) rfl dX11_end_3 ?_
  refine va_get (D := (dC, dI)) (ci := 8) (v := .int 0) (C := RX8) (T := TX8) (N := 2) hx hb hts (by decide +kernel) hown hK hP 1 rfl rfl 1 (by decide) (hts (.fieldLink RX11 60 "JoinBench$Tape" "size" "I") (by decide +kernel)) (fun _ h9 => h9) rfl dX11_end_6 ?_
  have hPc := hP.sub (ws' := []) [] rfl
  have hKc := hK.sub (tys' := []) [] rfl
  refine vp_callSi (va_Run.run (va_runS (As := [.int n, .int 0, .int 0]) (rest := []) ⟨hx, hb, hml, hown, hts⟩ (k_within l dC dI n 0 0) (va_cwS 3 hts gX11_end_X11_within rfl rfl rfl (by decide +kernel) ⟨Nat.le_of_ble_eq_true rfl, Nat.le_of_ble_eq_true rfl⟩) ⟨fun a U g mk q => by obtain ⟨q0, qP, qK⟩ := q; exact ⟨q0, qP, va_K.moved (u := U) (U := U.calling g mk a) (Vm.Alike.refl U.vm) qK⟩, fun U hU hW => ⟨rfl, by rw [hU]; exact hPc, va_K.moved hW.alike hKc⟩⟩ rfl rfl hl.1 rfl (lv_room (Nat.le_of_ble_eq_true rfl)) dX11_end_9 ⟨Nat.le_of_ble_eq_true rfl, Nat.le_of_ble_eq_true rfl⟩)) (fun r_2 hw_1 => ?_)
  rcases hw_1 with ⟨rfl, hw_1⟩ | ⟨rfl, hw_1⟩
  · refine lv_if_ne (tgt := 17) hx hb dX11_end_12 (by decide) (fun c_3 => ?_) (fun c_3 => ?_)
    rotate_left
    · exact absurd c_3 (by decide)
    refine lv_aload_n hx hb dX11_end_17 rfl (lv_at hl 0 rfl) ?_
    refine va_get (D := (dC, dI)) (ci := 11) (v := .ref tp) (C := RX11) (T := TX11) (N := 7) hx hb hts (by decide +kernel) hown hK hP 0 rfl rfl 0 (by decide) (hts (.fieldLink RX11 12 "JoinBench" "tape" "LJoinBench$Tape;") (by decide +kernel)) (fun _ h9 => h9) rfl dX11_end_18 ?_
    refine lv_iload_n hx hb dX11_end_21 rfl (lv_at hl 1 rfl) ?_
    refine va_put (D := (dC, dI)) (ci := 8) (v := .int n) (ty := .int) (C := RX8) (T := TX8) (N := 2) hx hb hts (by decide +kernel) tyX8 tyX8_ok nmX8 hown hK hP hD hS 1 rfl rfl 1 (by decide) (hts (.fieldLink RX11 60 "JoinBench$Tape" "size" "I") (by decide +kernel)) (fun _ h9 => h9) rfl (by decide +kernel) rfl rfl (Nat.le_of_ble_eq_true rfl) dX11_end_22 (fun H locs hP hD hS => ?_)
    have hP : va_P (dC, dI) vwCl [(x, .inr (11, [.ref tp, .ref tg, .ref rw, .ref tr, .ref ch, .null, .int 1])), (tp, .inr (8, [.ref tb, .int n]))] H := hP
    have hD : va_D A [(x, .inr (11, [.ref tp, .ref tg, .ref rw, .ref tr, .ref ch, .null, .int 1])), (tp, .inr (8, [.ref tb, .int n]))] := hD
    refine lv_iload_n hx hb dX11_end_25 rfl (lv_at hl 1 rfl) ?_
    refine W.widen (k := 0) (n := 0) (Nat.le_of_ble_eq_true rfl) (Nat.le_of_ble_eq_true rfl) ?_
    exact W.iret (v := n) hx hb hr (fun t ht hW => ⟨⟨n, (), rfl, vP_t (by simp [hw_1]), trivial⟩, hS.F ht⟩) hS.2.2 dX11_end_26
  · refine lv_if_ne (tgt := 17) hx hb dX11_end_12 (by decide) (fun c_4 => ?_) (fun c_4 => ?_)
    · exact absurd (by decide) c_4
    refine lv_iconst (v := (-1)) hx hb dX11_end_15 (by decide) ?_
    refine W.widen (k := 0) (n := 0) (Nat.le_of_ble_eq_true rfl) (Nat.le_of_ble_eq_true rfl) ?_
    exact W.iret (v := (-1)) hx hb hr (fun t ht hW => ⟨⟨(-1), (), rfl, vP_f (by simp [hw_1]), trivial⟩, hS.F ht⟩) hS.2.2 dX11_end_16
set_option maxHeartbeats 4000000 in
set_option maxRecDepth 100000 in
/-- X11_form -/
theorem k_form0 (l : Launch) (dC : Nat → ClassId) (dI : Nat → Nat → Nat) (sz : Nat) (x : Nat) (tp : Nat) (tg : Nat) (rw : Nat) (tr : Nat) (ch : Nat) (gf : Nat) (gr : Nat) (gz : Nat) (tb : Nat) (k0 : Int32) (s0 : Int32) (c0 : Int32) (kp : Int32) : Met l yX11_form wsX11_form ({ frames := 2, cells := 0, slots := 0, locals := 42 }) (va_Pc [.ref x, .int k0, .int s0, .int c0, .int kp] (fun U => U.heap.size = sz ∧ va_P (dC, dI) vwCl [(x, .inr (11, [.ref tp, .ref tg, .ref rw, .ref tr, .ref ch, .null, .int 1])), (tg, .inr (9, [.ref gf, .ref gr, .int 0, .int 0, .ref gz])), (tp, .inr (8, [.ref tb, .int 0]))] U.heap ∧ va_K (dC, dI) vwCl [] U ∧ va_D (fun _ => True) [(x, .inr (11, [.ref tp, .ref tg, .ref rw, .ref tr, .ref ch, .null, .int 1])), (tg, .inr (9, [.ref gf, .ref gr, .int 0, .int 0, .ref gz])), (tp, .inr (8, [.ref tb, .int 0]))])) (va_Qi (fun (r : Int32) (_ : Unit) => r = -1) (fun (_ : Unit) (_ : State) => True) (va_A [(x, .inr (11, [.ref tp, .ref tg, .ref rw, .ref tr, .ref ch, .null, .int 1])), (tg, .inr (9, [.ref gf, .ref gr, .int 0, .int 0, .ref gz])), (tp, .inr (8, [.ref tb, .int 0]))] sz)) 0 0 (va_A [(x, .inr (11, [.ref tp, .ref tg, .ref rw, .ref tr, .ref ch, .null, .int 1])), (tg, .inr (9, [.ref gf, .ref gr, .int 0, .int 0, .ref gz])), (tp, .inr (8, [.ref tb, .int 0]))] sz) := by
  refine Met.ofW (cc := cX11_form) (maxL := 7) (ret := (some .int)) (by decide) rfl ?_
  intro p e s m args below meth c s₁ B hml hv
  obtain ⟨rfl, hsz, hP, hK, hD0⟩ := hv
  have hx := B.exec
  have hb := B.bytes
  have hr := B.returns
  have hts := atoms_spec (ws := wsX11_form) B.pre
  have hown : s.vm.findClass RX11 = some m.cls := findClass_of_methodNamed B.named
  have hlocks := B.notSynchronized
  subst hsz
  have hD := hD0.self (sz := s.heap.size)
  generalize hAe : va_A [(x, .inr (11, [.ref tp, .ref tg, .ref rw, .ref tr, .ref ch, .null, .int 1])), (tg, .inr (9, [.ref gf, .ref gr, .int 0, .int 0, .ref gz])), (tp, .inr (8, [.ref tb, .int 0]))] s.heap.size = A at hD ⊢
  have hA : ∀ q : Nat, s.heap.size ≤ q → A q := fun q h => by rw [← hAe]; exact Or.inr h
  obtain ⟨H, hH⟩ : ∃ H : Heap, H = s.heap := ⟨_, rfl⟩
  have hS : va_S A s.heap H [] := by rw [hH]; exact va_S.rf
  rw [← hH] at hP ⊢
  have hP : va_P (dC, dI) vwCl [(x, .inr (11, [.ref tp, .ref tg, .ref rw, .ref tr, .ref ch, .null, .int 1])), (tg, .inr (9, [.ref gf, .ref gr, .int 0, .int 0, .ref gz])), (tp, .inr (8, [.ref tb, .int 0]))] H := hP
  have hl := lv_entry ([.ref x, .int k0, .int s0, .int c0, .int kp]) (n := 7) (Nat.le_of_ble_eq_true rfl)
  rw [lg_entry_eq]
  generalize (lg_sl ([.ref x, .int k0, .int s0, .int c0, .int kp]) ++ List.replicate (7 - (lg_sl ([.ref x, .int k0, .int s0, .int c0, .int kp])).length) Slot.unset).toArray = ls at hl ⊢
  have hl : lv_has ls 7 [(0, .ref x), (1, .int k0), (2, .int s0), (3, .int c0), (4, .int kp)] := hl
  refine lv_aload_n hx hb dX11_form_0 rfl (lv_at hl 0 rfl) ?_
  refine va_get (D := (dC, dI)) (ci := 11) (v := .ref tg) (C := RX11) (T := TX11) (N := 7) hx hb hts (by decide +kernel) hown hK hP 0 rfl rfl 1 (by decide) (hts (.fieldLink RX11 19 "JoinBench" "tongue" "LJoinBench$Tongue;") (by decide +kernel)) (fun _ h9 => h9) rfl dX11_form_1 ?_
  refine va_get (D := (dC, dI)) (ci := 9) (v := .int 0) (C := RX9) (T := TX9) (N := 5) hx hb hts (by decide +kernel) hown hK hP 1 rfl rfl 2 (by decide) (hts (.fieldLink RX11 67 "JoinBench$Tongue" "formCount" "I") (by decide +kernel)) (fun _ h9 => h9) rfl dX11_form_4 ?_
  refine lv_bipush (v := 40) hx hb dX11_form_7 (by decide) ?_
  refine lv_icmp_ge (tgt := 63) hx hb dX11_form_9 (by decide) (fun c_1 => ?_) (fun c_1 => ?_)
  · exact absurd c_1 (by decide)
  refine lv_iload_n hx hb dX11_form_12 rfl (lv_at hl 1 rfl) ?_
  have hPc := hP.sub (ws' := []) [] rfl
  have hKc := hK.sub (tys' := []) [] rfl
  refine vp_callSi (va_Run.run (va_runS (As := [.int k0]) (rest := []) ⟨hx, hb, hml, hown, hts⟩ (k_isKind l dC dI k0) (va_cwS 1 hts gX11_form_X11_isKind rfl rfl rfl (by decide +kernel) ⟨Nat.le_of_ble_eq_true rfl, Nat.le_of_ble_eq_true rfl⟩) ⟨fun a U g mk q => by obtain ⟨q0, qP, qK⟩ := q; exact ⟨q0, qP, va_K.moved (u := U) (U := U.calling g mk a) (Vm.Alike.refl U.vm) qK⟩, fun U hU hW => ⟨rfl, by rw [hU]; exact hPc, va_K.moved hW.alike hKc⟩⟩ rfl rfl hl.1 rfl (lv_room (Nat.le_of_ble_eq_true rfl)) dX11_form_13 ⟨Nat.le_of_ble_eq_true rfl, Nat.le_of_ble_eq_true rfl⟩)) (fun r_3 hw_2 => ?_)
  rcases hw_2 with ⟨rfl, hw_2⟩ | ⟨rfl, hw_2⟩
  · refine lv_if_eq (tgt := 63) hx hb dX11_form_16 (by decide) (fun c_4 => ?_) (fun c_4 => ?_)
    · exact absurd c_4 (by decide)
    refine lv_iload_n hx hb dX11_form_19 rfl (lv_at hl 2 rfl) ?_
    have hPc := hP.sub (ws' := []) [] rfl
    have hKc := hK.sub (tys' := []) [] rfl
    refine vp_callSi (va_Run.run (va_runS (As := [.int s0]) (rest := []) ⟨hx, hb, hml, hown, hts⟩ (k_isStem l dC dI s0) (va_cwS 1 hts gX11_form_X11_isStem rfl rfl rfl (by decide +kernel) ⟨Nat.le_of_ble_eq_true rfl, Nat.le_of_ble_eq_true rfl⟩) ⟨fun a U g mk q => by obtain ⟨q0, qP, qK⟩ := q; exact ⟨q0, qP, va_K.moved (u := U) (U := U.calling g mk a) (Vm.Alike.refl U.vm) qK⟩, fun U hU hW => ⟨rfl, by rw [hU]; exact hPc, va_K.moved hW.alike hKc⟩⟩ rfl rfl hl.1 rfl (lv_room (Nat.le_of_ble_eq_true rfl)) dX11_form_20 ⟨Nat.le_of_ble_eq_true rfl, Nat.le_of_ble_eq_true rfl⟩)) (fun r_6 hw_5 => ?_)
    rcases hw_5 with ⟨rfl, hw_5⟩ | ⟨rfl, hw_5⟩
    · refine lv_if_eq (tgt := 63) hx hb dX11_form_23 (by decide) (fun c_7 => ?_) (fun c_7 => ?_)
      · exact absurd c_7 (by decide)
      refine lv_iload_n hx hb dX11_form_26 rfl (lv_at hl 3 rfl) ?_
      have hPc := hP.sub (ws' := []) [] rfl
      have hKc := hK.sub (tys' := []) [] rfl
      refine vp_callSi (va_Run.run (va_runS (As := [.int c0]) (rest := []) ⟨hx, hb, hml, hown, hts⟩ (k_isCost l dC dI c0) (va_cwS 1 hts gX11_form_X11_isCost rfl rfl rfl (by decide +kernel) ⟨Nat.le_of_ble_eq_true rfl, Nat.le_of_ble_eq_true rfl⟩) ⟨fun a U g mk q => by obtain ⟨q0, qP, qK⟩ := q; exact ⟨q0, qP, va_K.moved (u := U) (U := U.calling g mk a) (Vm.Alike.refl U.vm) qK⟩, fun U hU hW => ⟨rfl, by rw [hU]; exact hPc, va_K.moved hW.alike hKc⟩⟩ rfl rfl hl.1 rfl (lv_room (Nat.le_of_ble_eq_true rfl)) dX11_form_27 ⟨Nat.le_of_ble_eq_true rfl, Nat.le_of_ble_eq_true rfl⟩)) (fun r_9 hw_8 => ?_)
      rcases hw_8 with ⟨rfl, hw_8⟩ | ⟨rfl, hw_8⟩
      · refine lv_if_eq (tgt := 63) hx hb dX11_form_30 (by decide) (fun c_10 => ?_) (fun c_10 => ?_)
        · exact absurd c_10 (by decide)
        refine lv_aload_n hx hb dX11_form_33 rfl (lv_at hl 0 rfl) ?_
        refine va_get (D := (dC, dI)) (ci := 11) (v := .ref tp) (C := RX11) (T := TX11) (N := 7) hx hb hts (by decide +kernel) hown hK hP 0 rfl rfl 0 (by decide) (hts (.fieldLink RX11 12 "JoinBench" "tape" "LJoinBench$Tape;") (by decide +kernel)) (fun _ h9 => h9) rfl dX11_form_34 ?_
        refine va_get (D := (dC, dI)) (ci := 8) (v := .int 0) (C := RX8) (T := TX8) (N := 2) hx hb hts (by decide +kernel) hown hK hP 2 rfl rfl 1 (by decide) (hts (.fieldLink RX11 60 "JoinBench$Tape" "size" "I") (by decide +kernel)) (fun _ h9 => h9) rfl dX11_form_37 ?_
        refine lv_iconst (v := 1) hx hb dX11_form_40 (by decide) ?_
        refine lv_bipush (v := 8) hx hb dX11_form_41 (by decide) ?_
        have hPc := hP.sub (ws' := []) [] rfl
        have hKc := hK.sub (tys' := []) [] rfl
        refine vp_callSi (va_Run.run (va_runS (As := [.int 0, .int 1, .int 8]) (rest := []) ⟨hx, hb, hml, hown, hts⟩ (k_within l dC dI 0 1 8) (va_cwS 3 hts gX11_form_X11_within rfl rfl rfl (by decide +kernel) ⟨Nat.le_of_ble_eq_true rfl, Nat.le_of_ble_eq_true rfl⟩) ⟨fun a U g mk q => by obtain ⟨q0, qP, qK⟩ := q; exact ⟨q0, qP, va_K.moved (u := U) (U := U.calling g mk a) (Vm.Alike.refl U.vm) qK⟩, fun U hU hW => ⟨rfl, by rw [hU]; exact hPc, va_K.moved hW.alike hKc⟩⟩ rfl rfl hl.1 rfl (lv_room (Nat.le_of_ble_eq_true rfl)) dX11_form_43 ⟨Nat.le_of_ble_eq_true rfl, Nat.le_of_ble_eq_true rfl⟩)) (fun r_12 hw_11 => ?_)
        rcases hw_11 with ⟨rfl, hw_11⟩ | ⟨rfl, hw_11⟩
        · exact absurd hw_11 (show ¬ inR 0 1 8 from fun q => absurd q (by unfold inR; decide))
        refine lv_if_eq (tgt := 63) hx hb dX11_form_46 (by decide) (fun c_13 => ?_) (fun c_13 => ?_)
        rotate_left
        · exact absurd (by decide) c_13
        refine lv_iconst (v := 0) hx hb dX11_form_63 (by decide) ?_
        refine lv_istore (lv' := [(5, .int 0), (0, .ref x), (1, .int k0), (2, .int s0), (3, .int c0), (4, .int kp)]) hx hb dX11_form_64 hl (by decide) rfl (fun ls hl => ?_)
        refine lv_iconst (v := (-1)) hx hb dX11_form_66 (by decide) ?_
        refine lv_istore (lv' := [(6, .int (-1)), (5, .int 0), (0, .ref x), (1, .int k0), (2, .int s0), (3, .int c0), (4, .int kp)]) hx hb dX11_form_67 hl (by decide) rfl (fun ls hl => ?_)
        refine lv_iload hx hb dX11_form_69 (lv_at hl 1 rfl) ?_
        refine lv_if_eq (tgt := 99) hx hb dX11_form_71 (by decide) (fun c_14 => ?_) (fun c_14 => ?_)
        rotate_left
        · exact absurd (by decide) c_14
        refine lv_aload_n hx hb dX11_form_99 rfl (lv_at hl 2 rfl) ?_
        refine va_get (D := (dC, dI)) (ci := 11) (v := .ref tp) (C := RX11) (T := TX11) (N := 7) hx hb hts (by decide +kernel) hown hK hP 0 rfl rfl 0 (by decide) (hts (.fieldLink RX11 12 "JoinBench" "tape" "LJoinBench$Tape;") (by decide +kernel)) (fun _ h9 => h9) rfl dX11_form_100 ?_
        refine lv_iconst (v := 0) hx hb dX11_form_103 (by decide) ?_
        refine va_put (D := (dC, dI)) (ci := 8) (v := .int 0) (ty := .int) (C := RX8) (T := TX8) (N := 2) hx hb hts (by decide +kernel) tyX8 tyX8_ok nmX8 hown hK hP hD hS 2 rfl rfl 1 (by decide) (hts (.fieldLink RX11 60 "JoinBench$Tape" "size" "I") (by decide +kernel)) (fun _ h9 => h9) rfl (by decide +kernel) rfl rfl (Nat.le_of_ble_eq_true rfl) dX11_form_104 (fun H locs hP hD hS => ?_)
        have hP : va_P (dC, dI) vwCl [(x, .inr (11, [.ref tp, .ref tg, .ref rw, .ref tr, .ref ch, .null, .int 1])), (tg, .inr (9, [.ref gf, .ref gr, .int 0, .int 0, .ref gz])), (tp, .inr (8, [.ref tb, .int 0]))] H := hP
        have hD : va_D A [(x, .inr (11, [.ref tp, .ref tg, .ref rw, .ref tr, .ref ch, .null, .int 1])), (tg, .inr (9, [.ref gf, .ref gr, .int 0, .int 0, .ref gz])), (tp, .inr (8, [.ref tb, .int 0]))] := hD
        refine lv_iload hx hb dX11_form_107 (lv_at hl 0 rfl) ?_
        refine W.widen (k := 0) (n := 0) (Nat.le_of_ble_eq_true rfl) (Nat.le_of_ble_eq_true rfl) ?_
        exact W.iret (v := (-1)) hx hb hr (fun t ht hW => ⟨⟨(-1), (), rfl, rfl, trivial⟩, hS.F ht⟩) hS.2.2 dX11_form_109
      · refine lv_if_eq (tgt := 63) hx hb dX11_form_30 (by decide) (fun c_15 => ?_) (fun c_15 => ?_)
        rotate_left
        · exact absurd (by decide) c_15
        refine lv_iconst (v := 0) hx hb dX11_form_63 (by decide) ?_
        refine lv_istore (lv' := [(5, .int 0), (0, .ref x), (1, .int k0), (2, .int s0), (3, .int c0), (4, .int kp)]) hx hb dX11_form_64 hl (by decide) rfl (fun ls hl => ?_)
        refine lv_iconst (v := (-1)) hx hb dX11_form_66 (by decide) ?_
        refine lv_istore (lv' := [(6, .int (-1)), (5, .int 0), (0, .ref x), (1, .int k0), (2, .int s0), (3, .int c0), (4, .int kp)]) hx hb dX11_form_67 hl (by decide) rfl (fun ls hl => ?_)
        refine lv_iload hx hb dX11_form_69 (lv_at hl 1 rfl) ?_
        refine lv_if_eq (tgt := 99) hx hb dX11_form_71 (by decide) (fun c_16 => ?_) (fun c_16 => ?_)
        rotate_left
        · exact absurd (by decide) c_16
        refine lv_aload_n hx hb dX11_form_99 rfl (lv_at hl 2 rfl) ?_
        refine va_get (D := (dC, dI)) (ci := 11) (v := .ref tp) (C := RX11) (T := TX11) (N := 7) hx hb hts (by decide +kernel) hown hK hP 0 rfl rfl 0 (by decide) (hts (.fieldLink RX11 12 "JoinBench" "tape" "LJoinBench$Tape;") (by decide +kernel)) (fun _ h9 => h9) rfl dX11_form_100 ?_
        refine lv_iconst (v := 0) hx hb dX11_form_103 (by decide) ?_
        refine va_put (D := (dC, dI)) (ci := 8) (v := .int 0) (ty := .int) (C := RX8) (T := TX8) (N := 2) hx hb hts (by decide +kernel) tyX8 tyX8_ok nmX8 hown hK hP hD hS 2 rfl rfl 1 (by decide) (hts (.fieldLink RX11 60 "JoinBench$Tape" "size" "I") (by decide +kernel)) (fun _ h9 => h9) rfl (by decide +kernel) rfl rfl (Nat.le_of_ble_eq_true rfl) dX11_form_104 (fun H locs hP hD hS => ?_)
        have hP : va_P (dC, dI) vwCl [(x, .inr (11, [.ref tp, .ref tg, .ref rw, .ref tr, .ref ch, .null, .int 1])), (tg, .inr (9, [.ref gf, .ref gr, .int 0, .int 0, .ref gz])), (tp, .inr (8, [.ref tb, .int 0]))] H := hP
        have hD : va_D A [(x, .inr (11, [.ref tp, .ref tg, .ref rw, .ref tr, .ref ch, .null, .int 1])), (tg, .inr (9, [.ref gf, .ref gr, .int 0, .int 0, .ref gz])), (tp, .inr (8, [.ref tb, .int 0]))] := hD
        refine lv_iload hx hb dX11_form_107 (lv_at hl 0 rfl) ?_
        refine W.widen (k := 0) (n := 0) (Nat.le_of_ble_eq_true rfl) (Nat.le_of_ble_eq_true rfl) ?_
        exact W.iret (v := (-1)) hx hb hr (fun t ht hW => ⟨⟨(-1), (), rfl, rfl, trivial⟩, hS.F ht⟩) hS.2.2 dX11_form_109
    · refine lv_if_eq (tgt := 63) hx hb dX11_form_23 (by decide) (fun c_17 => ?_) (fun c_17 => ?_)
      rotate_left
      · exact absurd (by decide) c_17
      refine lv_iconst (v := 0) hx hb dX11_form_63 (by decide) ?_
      refine lv_istore (lv' := [(5, .int 0), (0, .ref x), (1, .int k0), (2, .int s0), (3, .int c0), (4, .int kp)]) hx hb dX11_form_64 hl (by decide) rfl (fun ls hl => ?_)
      refine lv_iconst (v := (-1)) hx hb dX11_form_66 (by decide) ?_
      refine lv_istore (lv' := [(6, .int (-1)), (5, .int 0), (0, .ref x), (1, .int k0), (2, .int s0), (3, .int c0), (4, .int kp)]) hx hb dX11_form_67 hl (by decide) rfl (fun ls hl => ?_)
      refine lv_iload hx hb dX11_form_69 (lv_at hl 1 rfl) ?_
      refine lv_if_eq (tgt := 99) hx hb dX11_form_71 (by decide) (fun c_18 => ?_) (fun c_18 => ?_)
      rotate_left
      · exact absurd (by decide) c_18
      refine lv_aload_n hx hb dX11_form_99 rfl (lv_at hl 2 rfl) ?_
      refine va_get (D := (dC, dI)) (ci := 11) (v := .ref tp) (C := RX11) (T := TX11) (N := 7) hx hb hts (by decide +kernel) hown hK hP 0 rfl rfl 0 (by decide) (hts (.fieldLink RX11 12 "JoinBench" "tape" "LJoinBench$Tape;") (by decide +kernel)) (fun _ h9 => h9) rfl dX11_form_100 ?_
      refine lv_iconst (v := 0) hx hb dX11_form_103 (by decide) ?_
      refine va_put (D := (dC, dI)) (ci := 8) (v := .int 0) (ty := .int) (C := RX8) (T := TX8) (N := 2) hx hb hts (by decide +kernel) tyX8 tyX8_ok nmX8 hown hK hP hD hS 2 rfl rfl 1 (by decide) (hts (.fieldLink RX11 60 "JoinBench$Tape" "size" "I") (by decide +kernel)) (fun _ h9 => h9) rfl (by decide +kernel) rfl rfl (Nat.le_of_ble_eq_true rfl) dX11_form_104 (fun H locs hP hD hS => ?_)
      have hP : va_P (dC, dI) vwCl [(x, .inr (11, [.ref tp, .ref tg, .ref rw, .ref tr, .ref ch, .null, .int 1])), (tg, .inr (9, [.ref gf, .ref gr, .int 0, .int 0, .ref gz])), (tp, .inr (8, [.ref tb, .int 0]))] H := hP
      have hD : va_D A [(x, .inr (11, [.ref tp, .ref tg, .ref rw, .ref tr, .ref ch, .null, .int 1])), (tg, .inr (9, [.ref gf, .ref gr, .int 0, .int 0, .ref gz])), (tp, .inr (8, [.ref tb, .int 0]))] := hD
      refine lv_iload hx hb dX11_form_107 (lv_at hl 0 rfl) ?_
      refine W.widen (k := 0) (n := 0) (Nat.le_of_ble_eq_true rfl) (Nat.le_of_ble_eq_true rfl) ?_
      exact W.iret (v := (-1)) hx hb hr (fun t ht hW => ⟨⟨(-1), (), rfl, rfl, trivial⟩, hS.F ht⟩) hS.2.2 dX11_form_109
  · refine lv_if_eq (tgt := 63) hx hb dX11_form_16 (by decide) (fun c_19 => ?_) (fun c_19 => ?_)
    rotate_left
    · exact absurd (by decide) c_19
    refine lv_iconst (v := 0) hx hb dX11_form_63 (by decide) ?_
    refine lv_istore (lv' := [(5, .int 0), (0, .ref x), (1, .int k0), (2, .int s0), (3, .int c0), (4, .int kp)]) hx hb dX11_form_64 hl (by decide) rfl (fun ls hl => ?_)
    refine lv_iconst (v := (-1)) hx hb dX11_form_66 (by decide) ?_
    refine lv_istore (lv' := [(6, .int (-1)), (5, .int 0), (0, .ref x), (1, .int k0), (2, .int s0), (3, .int c0), (4, .int kp)]) hx hb dX11_form_67 hl (by decide) rfl (fun ls hl => ?_)
    refine lv_iload hx hb dX11_form_69 (lv_at hl 1 rfl) ?_
    refine lv_if_eq (tgt := 99) hx hb dX11_form_71 (by decide) (fun c_20 => ?_) (fun c_20 => ?_)
    rotate_left
    · exact absurd (by decide) c_20
    refine lv_aload_n hx hb dX11_form_99 rfl (lv_at hl 2 rfl) ?_
    refine va_get (D := (dC, dI)) (ci := 11) (v := .ref tp) (C := RX11) (T := TX11) (N := 7) hx hb hts (by decide +kernel) hown hK hP 0 rfl rfl 0 (by decide) (hts (.fieldLink RX11 12 "JoinBench" "tape" "LJoinBench$Tape;") (by decide +kernel)) (fun _ h9 => h9) rfl dX11_form_100 ?_
    refine lv_iconst (v := 0) hx hb dX11_form_103 (by decide) ?_
    refine va_put (D := (dC, dI)) (ci := 8) (v := .int 0) (ty := .int) (C := RX8) (T := TX8) (N := 2) hx hb hts (by decide +kernel) tyX8 tyX8_ok nmX8 hown hK hP hD hS 2 rfl rfl 1 (by decide) (hts (.fieldLink RX11 60 "JoinBench$Tape" "size" "I") (by decide +kernel)) (fun _ h9 => h9) rfl (by decide +kernel) rfl rfl (Nat.le_of_ble_eq_true rfl) dX11_form_104 (fun H locs hP hD hS => ?_)
    have hP : va_P (dC, dI) vwCl [(x, .inr (11, [.ref tp, .ref tg, .ref rw, .ref tr, .ref ch, .null, .int 1])), (tg, .inr (9, [.ref gf, .ref gr, .int 0, .int 0, .ref gz])), (tp, .inr (8, [.ref tb, .int 0]))] H := hP
    have hD : va_D A [(x, .inr (11, [.ref tp, .ref tg, .ref rw, .ref tr, .ref ch, .null, .int 1])), (tg, .inr (9, [.ref gf, .ref gr, .int 0, .int 0, .ref gz])), (tp, .inr (8, [.ref tb, .int 0]))] := hD
    refine lv_iload hx hb dX11_form_107 (lv_at hl 0 rfl) ?_
    refine W.widen (k := 0) (n := 0) (Nat.le_of_ble_eq_true rfl) (Nat.le_of_ble_eq_true rfl) ?_
    exact W.iret (v := (-1)) hx hb hr (fun t ht hW => ⟨⟨(-1), (), rfl, rfl, trivial⟩, hS.F ht⟩) hS.2.2 dX11_form_109
set_option maxHeartbeats 4000000 in
set_option maxRecDepth 100000 in
/-- X11_rule -/
theorem k_rule0 (l : Launch) (dC : Nat → ClassId) (dI : Nat → Nat → Nat) (sz : Nat) (x : Nat) (tp : Nat) (tg : Nat) (rw : Nat) (tr : Nat) (ch : Nat) (gf : Nat) (gr : Nat) (gz : Nat) (tb : Nat) (e0 : Int32) (b0 : Int32) (c0 : Int32) (f0 : Int32) (l0 : Int32) : Met l yX11_rule wsX11_rule ({ frames := 1, cells := 0, slots := 0, locals := 22 }) (va_Pc [.ref x, .int e0, .int b0, .int c0, .int f0, .int l0] (fun U => U.heap.size = sz ∧ va_P (dC, dI) vwCl [(x, .inr (11, [.ref tp, .ref tg, .ref rw, .ref tr, .ref ch, .null, .int 1])), (tg, .inr (9, [.ref gf, .ref gr, .int 0, .int 0, .ref gz])), (tp, .inr (8, [.ref tb, .int 0]))] U.heap ∧ va_K (dC, dI) vwCl [] U ∧ va_D (fun _ => True) [(x, .inr (11, [.ref tp, .ref tg, .ref rw, .ref tr, .ref ch, .null, .int 1])), (tg, .inr (9, [.ref gf, .ref gr, .int 0, .int 0, .ref gz])), (tp, .inr (8, [.ref tb, .int 0]))])) (va_Qi (fun (r : Int32) (_ : Unit) => r = -1) (fun (_ : Unit) (_ : State) => True) (va_A [(x, .inr (11, [.ref tp, .ref tg, .ref rw, .ref tr, .ref ch, .null, .int 1])), (tg, .inr (9, [.ref gf, .ref gr, .int 0, .int 0, .ref gz])), (tp, .inr (8, [.ref tb, .int 0]))] sz)) 0 0 (va_A [(x, .inr (11, [.ref tp, .ref tg, .ref rw, .ref tr, .ref ch, .null, .int 1])), (tg, .inr (9, [.ref gf, .ref gr, .int 0, .int 0, .ref gz])), (tp, .inr (8, [.ref tb, .int 0]))] sz) := by
  refine Met.ofW (cc := cX11_rule) (maxL := 8) (ret := (some .int)) (by decide) rfl ?_
  intro p e s m args below meth c s₁ B hml hv
  obtain ⟨rfl, hsz, hP, hK, hD0⟩ := hv
  have hx := B.exec
  have hb := B.bytes
  have hr := B.returns
  have hts := atoms_spec (ws := wsX11_rule) B.pre
  have hown : s.vm.findClass RX11 = some m.cls := findClass_of_methodNamed B.named
  have hlocks := B.notSynchronized
  subst hsz
  have hD := hD0.self (sz := s.heap.size)
  generalize hAe : va_A [(x, .inr (11, [.ref tp, .ref tg, .ref rw, .ref tr, .ref ch, .null, .int 1])), (tg, .inr (9, [.ref gf, .ref gr, .int 0, .int 0, .ref gz])), (tp, .inr (8, [.ref tb, .int 0]))] s.heap.size = A at hD ⊢
  have hA : ∀ q : Nat, s.heap.size ≤ q → A q := fun q h => by rw [← hAe]; exact Or.inr h
  obtain ⟨H, hH⟩ : ∃ H : Heap, H = s.heap := ⟨_, rfl⟩
  have hS : va_S A s.heap H [] := by rw [hH]; exact va_S.rf
  rw [← hH] at hP ⊢
  have hP : va_P (dC, dI) vwCl [(x, .inr (11, [.ref tp, .ref tg, .ref rw, .ref tr, .ref ch, .null, .int 1])), (tg, .inr (9, [.ref gf, .ref gr, .int 0, .int 0, .ref gz])), (tp, .inr (8, [.ref tb, .int 0]))] H := hP
  have hl := lv_entry ([.ref x, .int e0, .int b0, .int c0, .int f0, .int l0]) (n := 8) (Nat.le_of_ble_eq_true rfl)
  rw [lg_entry_eq]
  generalize (lg_sl ([.ref x, .int e0, .int b0, .int c0, .int f0, .int l0]) ++ List.replicate (8 - (lg_sl ([.ref x, .int e0, .int b0, .int c0, .int f0, .int l0])).length) Slot.unset).toArray = ls at hl ⊢
  have hl : lv_has ls 8 [(0, .ref x), (1, .int e0), (2, .int b0), (3, .int c0), (4, .int f0), (5, .int l0)] := hl
  refine lv_aload_n hx hb dX11_rule_0 rfl (lv_at hl 0 rfl) ?_
  refine va_get (D := (dC, dI)) (ci := 11) (v := .ref tg) (C := RX11) (T := TX11) (N := 7) hx hb hts (by decide +kernel) hown hK hP 0 rfl rfl 1 (by decide) (hts (.fieldLink RX11 19 "JoinBench" "tongue" "LJoinBench$Tongue;") (by decide +kernel)) (fun _ h9 => h9) rfl dX11_rule_1 ?_
  refine va_get (D := (dC, dI)) (ci := 9) (v := .int 0) (C := RX9) (T := TX9) (N := 5) hx hb hts (by decide +kernel) hown hK hP 1 rfl rfl 3 (by decide) (hts (.fieldLink RX11 92 "JoinBench$Tongue" "ruleCount" "I") (by decide +kernel)) (fun _ h9 => h9) rfl dX11_rule_4 ?_
  refine lv_bipush (v := 24) hx hb dX11_rule_7 (by decide) ?_
  refine lv_icmp_ge (tgt := 99) hx hb dX11_rule_9 (by decide) (fun c_1 => ?_) (fun c_1 => ?_)
  · exact absurd c_1 (by decide)
  refine lv_iload_n hx hb dX11_rule_12 rfl (lv_at hl 1 rfl) ?_
  refine lv_iconst (v := 0) hx hb dX11_rule_13 (by decide) ?_
  refine lv_iconst (v := 3) hx hb dX11_rule_14 (by decide) ?_
  have hPc := hP.sub (ws' := []) [] rfl
  have hKc := hK.sub (tys' := []) [] rfl
  refine vp_callSi (va_Run.run (va_runS (As := [.int e0, .int 0, .int 3]) (rest := []) ⟨hx, hb, hml, hown, hts⟩ (k_within l dC dI e0 0 3) (va_cwS 3 hts gX11_rule_X11_within rfl rfl rfl (by decide +kernel) ⟨Nat.le_of_ble_eq_true rfl, Nat.le_of_ble_eq_true rfl⟩) ⟨fun a U g mk q => by obtain ⟨q0, qP, qK⟩ := q; exact ⟨q0, qP, va_K.moved (u := U) (U := U.calling g mk a) (Vm.Alike.refl U.vm) qK⟩, fun U hU hW => ⟨rfl, by rw [hU]; exact hPc, va_K.moved hW.alike hKc⟩⟩ rfl rfl hl.1 rfl (lv_room (Nat.le_of_ble_eq_true rfl)) dX11_rule_15 ⟨Nat.le_of_ble_eq_true rfl, Nat.le_of_ble_eq_true rfl⟩)) (fun r_3 hw_2 => ?_)
  rcases hw_2 with ⟨rfl, hw_2⟩ | ⟨rfl, hw_2⟩
  · refine lv_if_eq (tgt := 99) hx hb dX11_rule_18 (by decide) (fun c_4 => ?_) (fun c_4 => ?_)
    · exact absurd c_4 (by decide)
    refine lv_iload_n hx hb dX11_rule_21 rfl (lv_at hl 2 rfl) ?_
    refine lv_iconst (v := 0) hx hb dX11_rule_22 (by decide) ?_
    refine lv_iconst (v := 3) hx hb dX11_rule_23 (by decide) ?_
    have hPc := hP.sub (ws' := []) [] rfl
    have hKc := hK.sub (tys' := []) [] rfl
    refine vp_callSi (va_Run.run (va_runS (As := [.int b0, .int 0, .int 3]) (rest := []) ⟨hx, hb, hml, hown, hts⟩ (k_within l dC dI b0 0 3) (va_cwS 3 hts gX11_rule_X11_within rfl rfl rfl (by decide +kernel) ⟨Nat.le_of_ble_eq_true rfl, Nat.le_of_ble_eq_true rfl⟩) ⟨fun a U g mk q => by obtain ⟨q0, qP, qK⟩ := q; exact ⟨q0, qP, va_K.moved (u := U) (U := U.calling g mk a) (Vm.Alike.refl U.vm) qK⟩, fun U hU hW => ⟨rfl, by rw [hU]; exact hPc, va_K.moved hW.alike hKc⟩⟩ rfl rfl hl.1 rfl (lv_room (Nat.le_of_ble_eq_true rfl)) dX11_rule_24 ⟨Nat.le_of_ble_eq_true rfl, Nat.le_of_ble_eq_true rfl⟩)) (fun r_6 hw_5 => ?_)
    rcases hw_5 with ⟨rfl, hw_5⟩ | ⟨rfl, hw_5⟩
    · refine lv_if_eq (tgt := 99) hx hb dX11_rule_27 (by decide) (fun c_7 => ?_) (fun c_7 => ?_)
      · exact absurd c_7 (by decide)
      refine lv_iload_n hx hb dX11_rule_30 rfl (lv_at hl 1 rfl) ?_
      refine lv_iload_n hx hb dX11_rule_31 rfl (lv_at hl 2 rfl) ?_
      refine lv_iadd hx hb dX11_rule_32 ?_
      refine lv_topi (fun y_8 ey_8 => ?_)
      refine lv_if_le (tgt := 99) hx hb dX11_rule_33 (by decide) (fun c_9 => ?_) (fun c_9 => ?_)
      · refine lv_iconst (v := 0) hx hb dX11_rule_99 (by decide) ?_
        refine lv_istore (lv' := [(6, .int 0), (0, .ref x), (1, .int e0), (2, .int b0), (3, .int c0), (4, .int f0), (5, .int l0)]) hx hb dX11_rule_100 hl (by decide) rfl (fun ls hl => ?_)
        refine lv_iconst (v := (-1)) hx hb dX11_rule_102 (by decide) ?_
        refine lv_istore (lv' := [(7, .int (-1)), (6, .int 0), (0, .ref x), (1, .int e0), (2, .int b0), (3, .int c0), (4, .int f0), (5, .int l0)]) hx hb dX11_rule_103 hl (by decide) rfl (fun ls hl => ?_)
        refine lv_iload hx hb dX11_rule_105 (lv_at hl 1 rfl) ?_
        refine lv_if_eq (tgt := 137) hx hb dX11_rule_107 (by decide) (fun c_10 => ?_) (fun c_10 => ?_)
        rotate_left
        · exact absurd (by decide) c_10
        refine lv_aload_n hx hb dX11_rule_137 rfl (lv_at hl 2 rfl) ?_
        refine va_get (D := (dC, dI)) (ci := 11) (v := .ref tp) (C := RX11) (T := TX11) (N := 7) hx hb hts (by decide +kernel) hown hK hP 0 rfl rfl 0 (by decide) (hts (.fieldLink RX11 12 "JoinBench" "tape" "LJoinBench$Tape;") (by decide +kernel)) (fun _ h9 => h9) rfl dX11_rule_138 ?_
        refine lv_iconst (v := 0) hx hb dX11_rule_141 (by decide) ?_
        refine va_put (D := (dC, dI)) (ci := 8) (v := .int 0) (ty := .int) (C := RX8) (T := TX8) (N := 2) hx hb hts (by decide +kernel) tyX8 tyX8_ok nmX8 hown hK hP hD hS 2 rfl rfl 1 (by decide) (hts (.fieldLink RX11 60 "JoinBench$Tape" "size" "I") (by decide +kernel)) (fun _ h9 => h9) rfl (by decide +kernel) rfl rfl (Nat.le_of_ble_eq_true rfl) dX11_rule_142 (fun H locs hP hD hS => ?_)
        have hP : va_P (dC, dI) vwCl [(x, .inr (11, [.ref tp, .ref tg, .ref rw, .ref tr, .ref ch, .null, .int 1])), (tg, .inr (9, [.ref gf, .ref gr, .int 0, .int 0, .ref gz])), (tp, .inr (8, [.ref tb, .int 0]))] H := hP
        have hD : va_D A [(x, .inr (11, [.ref tp, .ref tg, .ref rw, .ref tr, .ref ch, .null, .int 1])), (tg, .inr (9, [.ref gf, .ref gr, .int 0, .int 0, .ref gz])), (tp, .inr (8, [.ref tb, .int 0]))] := hD
        refine lv_iload hx hb dX11_rule_145 (lv_at hl 0 rfl) ?_
        refine W.widen (k := 0) (n := 0) (Nat.le_of_ble_eq_true rfl) (Nat.le_of_ble_eq_true rfl) ?_
        exact W.iret (v := (-1)) hx hb hr (fun t ht hW => ⟨⟨(-1), (), rfl, rfl, trivial⟩, hS.F ht⟩) hS.2.2 dX11_rule_147
      · refine lv_aload_n hx hb dX11_rule_36 rfl (lv_at hl 0 rfl) ?_
        refine va_get (D := (dC, dI)) (ci := 11) (v := .ref tp) (C := RX11) (T := TX11) (N := 7) hx hb hts (by decide +kernel) hown hK hP 0 rfl rfl 0 (by decide) (hts (.fieldLink RX11 12 "JoinBench" "tape" "LJoinBench$Tape;") (by decide +kernel)) (fun _ h9 => h9) rfl dX11_rule_37 ?_
        refine va_get (D := (dC, dI)) (ci := 8) (v := .int 0) (C := RX8) (T := TX8) (N := 2) hx hb hts (by decide +kernel) hown hK hP 2 rfl rfl 1 (by decide) (hts (.fieldLink RX11 60 "JoinBench$Tape" "size" "I") (by decide +kernel)) (fun _ h9 => h9) rfl dX11_rule_40 ?_
        refine lv_iload_n hx hb dX11_rule_43 rfl (lv_at hl 1 rfl) ?_
        refine lv_isub hx hb dX11_rule_44 ?_
        refine lv_topi (fun y_11 ey_11 => ?_)
        refine lv_iload_n hx hb dX11_rule_45 rfl (lv_at hl 2 rfl) ?_
        refine lv_isub hx hb dX11_rule_46 ?_
        refine lv_topi (fun y_12 ey_12 => ?_)
        refine lv_iconst (v := 0) hx hb dX11_rule_47 (by decide) ?_
        refine lv_iconst (v := 4) hx hb dX11_rule_48 (by decide) ?_
        have hPc := hP.sub (ws' := []) [] rfl
        have hKc := hK.sub (tys' := []) [] rfl
        refine vp_callSi (va_Run.run (va_runS (As := [.int y_12, .int 0, .int 4]) (rest := []) ⟨hx, hb, hml, hown, hts⟩ (k_within l dC dI y_12 0 4) (va_cwS 3 hts gX11_rule_X11_within rfl rfl rfl (by decide +kernel) ⟨Nat.le_of_ble_eq_true rfl, Nat.le_of_ble_eq_true rfl⟩) ⟨fun a U g mk q => by obtain ⟨q0, qP, qK⟩ := q; exact ⟨q0, qP, va_K.moved (u := U) (U := U.calling g mk a) (Vm.Alike.refl U.vm) qK⟩, fun U hU hW => ⟨rfl, by rw [hU]; exact hPc, va_K.moved hW.alike hKc⟩⟩ rfl rfl hl.1 rfl (lv_room (Nat.le_of_ble_eq_true rfl)) dX11_rule_49 ⟨Nat.le_of_ble_eq_true rfl, Nat.le_of_ble_eq_true rfl⟩)) (fun r_14 hw_13 => ?_)
        rcases hw_13 with ⟨rfl, hw_13⟩ | ⟨rfl, hw_13⟩
        · exact absurd hw_13 (rl_dead hw_2 hw_5 ey_8 c_9 ey_11 ey_12)
        refine lv_if_eq (tgt := 99) hx hb dX11_rule_52 (by decide) (fun c_15 => ?_) (fun c_15 => ?_)
        rotate_left
        · exact absurd (by decide) c_15
        refine lv_iconst (v := 0) hx hb dX11_rule_99 (by decide) ?_
        refine lv_istore (lv' := [(6, .int 0), (0, .ref x), (1, .int e0), (2, .int b0), (3, .int c0), (4, .int f0), (5, .int l0)]) hx hb dX11_rule_100 hl (by decide) rfl (fun ls hl => ?_)
        refine lv_iconst (v := (-1)) hx hb dX11_rule_102 (by decide) ?_
        refine lv_istore (lv' := [(7, .int (-1)), (6, .int 0), (0, .ref x), (1, .int e0), (2, .int b0), (3, .int c0), (4, .int f0), (5, .int l0)]) hx hb dX11_rule_103 hl (by decide) rfl (fun ls hl => ?_)
        refine lv_iload hx hb dX11_rule_105 (lv_at hl 1 rfl) ?_
        refine lv_if_eq (tgt := 137) hx hb dX11_rule_107 (by decide) (fun c_16 => ?_) (fun c_16 => ?_)
        rotate_left
        · exact absurd (by decide) c_16
        refine lv_aload_n hx hb dX11_rule_137 rfl (lv_at hl 2 rfl) ?_
        refine va_get (D := (dC, dI)) (ci := 11) (v := .ref tp) (C := RX11) (T := TX11) (N := 7) hx hb hts (by decide +kernel) hown hK hP 0 rfl rfl 0 (by decide) (hts (.fieldLink RX11 12 "JoinBench" "tape" "LJoinBench$Tape;") (by decide +kernel)) (fun _ h9 => h9) rfl dX11_rule_138 ?_
        refine lv_iconst (v := 0) hx hb dX11_rule_141 (by decide) ?_
        refine va_put (D := (dC, dI)) (ci := 8) (v := .int 0) (ty := .int) (C := RX8) (T := TX8) (N := 2) hx hb hts (by decide +kernel) tyX8 tyX8_ok nmX8 hown hK hP hD hS 2 rfl rfl 1 (by decide) (hts (.fieldLink RX11 60 "JoinBench$Tape" "size" "I") (by decide +kernel)) (fun _ h9 => h9) rfl (by decide +kernel) rfl rfl (Nat.le_of_ble_eq_true rfl) dX11_rule_142 (fun H locs hP hD hS => ?_)
        have hP : va_P (dC, dI) vwCl [(x, .inr (11, [.ref tp, .ref tg, .ref rw, .ref tr, .ref ch, .null, .int 1])), (tg, .inr (9, [.ref gf, .ref gr, .int 0, .int 0, .ref gz])), (tp, .inr (8, [.ref tb, .int 0]))] H := hP
        have hD : va_D A [(x, .inr (11, [.ref tp, .ref tg, .ref rw, .ref tr, .ref ch, .null, .int 1])), (tg, .inr (9, [.ref gf, .ref gr, .int 0, .int 0, .ref gz])), (tp, .inr (8, [.ref tb, .int 0]))] := hD
        refine lv_iload hx hb dX11_rule_145 (lv_at hl 0 rfl) ?_
        refine W.widen (k := 0) (n := 0) (Nat.le_of_ble_eq_true rfl) (Nat.le_of_ble_eq_true rfl) ?_
        exact W.iret (v := (-1)) hx hb hr (fun t ht hW => ⟨⟨(-1), (), rfl, rfl, trivial⟩, hS.F ht⟩) hS.2.2 dX11_rule_147
    · refine lv_if_eq (tgt := 99) hx hb dX11_rule_27 (by decide) (fun c_17 => ?_) (fun c_17 => ?_)
      rotate_left
      · exact absurd (by decide) c_17
      refine lv_iconst (v := 0) hx hb dX11_rule_99 (by decide) ?_
      refine lv_istore (lv' := [(6, .int 0), (0, .ref x), (1, .int e0), (2, .int b0), (3, .int c0), (4, .int f0), (5, .int l0)]) hx hb dX11_rule_100 hl (by decide) rfl (fun ls hl => ?_)
      refine lv_iconst (v := (-1)) hx hb dX11_rule_102 (by decide) ?_
      refine lv_istore (lv' := [(7, .int (-1)), (6, .int 0), (0, .ref x), (1, .int e0), (2, .int b0), (3, .int c0), (4, .int f0), (5, .int l0)]) hx hb dX11_rule_103 hl (by decide) rfl (fun ls hl => ?_)
      refine lv_iload hx hb dX11_rule_105 (lv_at hl 1 rfl) ?_
      refine lv_if_eq (tgt := 137) hx hb dX11_rule_107 (by decide) (fun c_18 => ?_) (fun c_18 => ?_)
      rotate_left
      · exact absurd (by decide) c_18
      refine lv_aload_n hx hb dX11_rule_137 rfl (lv_at hl 2 rfl) ?_
      refine va_get (D := (dC, dI)) (ci := 11) (v := .ref tp) (C := RX11) (T := TX11) (N := 7) hx hb hts (by decide +kernel) hown hK hP 0 rfl rfl 0 (by decide) (hts (.fieldLink RX11 12 "JoinBench" "tape" "LJoinBench$Tape;") (by decide +kernel)) (fun _ h9 => h9) rfl dX11_rule_138 ?_
      refine lv_iconst (v := 0) hx hb dX11_rule_141 (by decide) ?_
      refine va_put (D := (dC, dI)) (ci := 8) (v := .int 0) (ty := .int) (C := RX8) (T := TX8) (N := 2) hx hb hts (by decide +kernel) tyX8 tyX8_ok nmX8 hown hK hP hD hS 2 rfl rfl 1 (by decide) (hts (.fieldLink RX11 60 "JoinBench$Tape" "size" "I") (by decide +kernel)) (fun _ h9 => h9) rfl (by decide +kernel) rfl rfl (Nat.le_of_ble_eq_true rfl) dX11_rule_142 (fun H locs hP hD hS => ?_)
      have hP : va_P (dC, dI) vwCl [(x, .inr (11, [.ref tp, .ref tg, .ref rw, .ref tr, .ref ch, .null, .int 1])), (tg, .inr (9, [.ref gf, .ref gr, .int 0, .int 0, .ref gz])), (tp, .inr (8, [.ref tb, .int 0]))] H := hP
      have hD : va_D A [(x, .inr (11, [.ref tp, .ref tg, .ref rw, .ref tr, .ref ch, .null, .int 1])), (tg, .inr (9, [.ref gf, .ref gr, .int 0, .int 0, .ref gz])), (tp, .inr (8, [.ref tb, .int 0]))] := hD
      refine lv_iload hx hb dX11_rule_145 (lv_at hl 0 rfl) ?_
      refine W.widen (k := 0) (n := 0) (Nat.le_of_ble_eq_true rfl) (Nat.le_of_ble_eq_true rfl) ?_
      exact W.iret (v := (-1)) hx hb hr (fun t ht hW => ⟨⟨(-1), (), rfl, rfl, trivial⟩, hS.F ht⟩) hS.2.2 dX11_rule_147
  · refine lv_if_eq (tgt := 99) hx hb dX11_rule_18 (by decide) (fun c_19 => ?_) (fun c_19 => ?_)
    rotate_left
    · exact absurd (by decide) c_19
    refine lv_iconst (v := 0) hx hb dX11_rule_99 (by decide) ?_
    refine lv_istore (lv' := [(6, .int 0), (0, .ref x), (1, .int e0), (2, .int b0), (3, .int c0), (4, .int f0), (5, .int l0)]) hx hb dX11_rule_100 hl (by decide) rfl (fun ls hl => ?_)
    refine lv_iconst (v := (-1)) hx hb dX11_rule_102 (by decide) ?_
    refine lv_istore (lv' := [(7, .int (-1)), (6, .int 0), (0, .ref x), (1, .int e0), (2, .int b0), (3, .int c0), (4, .int f0), (5, .int l0)]) hx hb dX11_rule_103 hl (by decide) rfl (fun ls hl => ?_)
    refine lv_iload hx hb dX11_rule_105 (lv_at hl 1 rfl) ?_
    refine lv_if_eq (tgt := 137) hx hb dX11_rule_107 (by decide) (fun c_20 => ?_) (fun c_20 => ?_)
    rotate_left
    · exact absurd (by decide) c_20
    refine lv_aload_n hx hb dX11_rule_137 rfl (lv_at hl 2 rfl) ?_
    refine va_get (D := (dC, dI)) (ci := 11) (v := .ref tp) (C := RX11) (T := TX11) (N := 7) hx hb hts (by decide +kernel) hown hK hP 0 rfl rfl 0 (by decide) (hts (.fieldLink RX11 12 "JoinBench" "tape" "LJoinBench$Tape;") (by decide +kernel)) (fun _ h9 => h9) rfl dX11_rule_138 ?_
    refine lv_iconst (v := 0) hx hb dX11_rule_141 (by decide) ?_
    refine va_put (D := (dC, dI)) (ci := 8) (v := .int 0) (ty := .int) (C := RX8) (T := TX8) (N := 2) hx hb hts (by decide +kernel) tyX8 tyX8_ok nmX8 hown hK hP hD hS 2 rfl rfl 1 (by decide) (hts (.fieldLink RX11 60 "JoinBench$Tape" "size" "I") (by decide +kernel)) (fun _ h9 => h9) rfl (by decide +kernel) rfl rfl (Nat.le_of_ble_eq_true rfl) dX11_rule_142 (fun H locs hP hD hS => ?_)
    have hP : va_P (dC, dI) vwCl [(x, .inr (11, [.ref tp, .ref tg, .ref rw, .ref tr, .ref ch, .null, .int 1])), (tg, .inr (9, [.ref gf, .ref gr, .int 0, .int 0, .ref gz])), (tp, .inr (8, [.ref tb, .int 0]))] H := hP
    have hD : va_D A [(x, .inr (11, [.ref tp, .ref tg, .ref rw, .ref tr, .ref ch, .null, .int 1])), (tg, .inr (9, [.ref gf, .ref gr, .int 0, .int 0, .ref gz])), (tp, .inr (8, [.ref tb, .int 0]))] := hD
    refine lv_iload hx hb dX11_rule_145 (lv_at hl 0 rfl) ?_
    refine W.widen (k := 0) (n := 0) (Nat.le_of_ble_eq_true rfl) (Nat.le_of_ble_eq_true rfl) ?_
    exact W.iret (v := (-1)) hx hb hr (fun t ht hW => ⟨⟨(-1), (), rfl, rfl, trivial⟩, hS.F ht⟩) hS.2.2 dX11_rule_147
set_option maxHeartbeats 4000000 in
set_option maxRecDepth 100000 in
/-- X11_cost -/
theorem k_cost0 (l : Launch) (dC : Nat → ClassId) (dI : Nat → Nat → Nat) (x : Nat) (tp : Nat) (tg : Nat) (rw : Nat) (tr : Nat) (ch : Nat) (gf : Nat) (gr : Nat) (gz : Nat) (f0 : Int32) (c0 : Int32) : Met l yX11_cost wsX11_cost ({ frames := 1, cells := 0, slots := 0, locals := 21 }) (va_Pc [.ref x, .int f0, .int c0] (fun U => va_P (dC, dI) vwCl [(x, .inr (11, [.ref tp, .ref tg, .ref rw, .ref tr, .ref ch, .null, .int 1])), (tg, .inr (9, [.ref gf, .ref gr, .int 0, .int 0, .ref gz]))] U.heap ∧ va_K (dC, dI) vwCl [] U)) (vp_Si (fun r => r = -1)) 0 0 (fun _ => False) := by
  refine Met.ofW (cc := cX11_cost) (maxL := 5) (ret := (some .int)) (by decide) rfl ?_
  intro p e s m args below meth c s₁ B hml hv
  obtain ⟨rfl, hP, hK⟩ := hv
  have hx := B.exec
  have hb := B.bytes
  have hr := B.returns
  have hts := atoms_spec (ws := wsX11_cost) B.pre
  have hown : s.vm.findClass RX11 = some m.cls := findClass_of_methodNamed B.named
  have hlocks := B.notSynchronized
  have hP : va_P (dC, dI) vwCl [(x, .inr (11, [.ref tp, .ref tg, .ref rw, .ref tr, .ref ch, .null, .int 1])), (tg, .inr (9, [.ref gf, .ref gr, .int 0, .int 0, .ref gz]))] s.heap := hP
  have hl := lv_entry ([.ref x, .int f0, .int c0]) (n := 5) (Nat.le_of_ble_eq_true rfl)
  rw [lg_entry_eq]
  generalize (lg_sl ([.ref x, .int f0, .int c0]) ++ List.replicate (5 - (lg_sl ([.ref x, .int f0, .int c0])).length) Slot.unset).toArray = ls at hl ⊢
  have hl : lv_has ls 5 [(0, .ref x), (1, .int f0), (2, .int c0)] := hl
  refine lv_aload_n hx hb dX11_cost_0 rfl (lv_at hl 0 rfl) ?_
  refine va_get (D := (dC, dI)) (ci := 11) (v := .ref tg) (C := RX11) (T := TX11) (N := 7) hx hb hts (by decide +kernel) hown hK hP 0 rfl rfl 1 (by decide) (hts (.fieldLink RX11 19 "JoinBench" "tongue" "LJoinBench$Tongue;") (by decide +kernel)) (fun _ h9 => h9) rfl dX11_cost_1 ?_
  refine lv_iload_n hx hb dX11_cost_4 rfl (lv_at hl 1 rfl) ?_
  have hPc := hP.sub (ws' := [(tg, .inr (9, [.ref gf, .ref gr, .int 0, .int 0, .ref gz]))]) [1] rfl
  have hKc := hK.sub (tys' := []) [] rfl
  refine va_csq (va_Run.run (va_runV (As := [.int f0]) (rest := []) ⟨hx, hb, hml, hown, hts⟩ (k_formAt0 l dC dI tg gf gr gz f0) (cwV 1 hts gX11_cost_X9_formAt rfl rfl rfl (by decide +kernel) ⟨Nat.le_of_ble_eq_true rfl, Nat.le_of_ble_eq_true rfl⟩) ⟨fun a U g mk q => by obtain ⟨q0, qP, qK⟩ := q; exact ⟨q0, qP, va_K.moved (u := U) (U := U.calling g mk a) (Vm.Alike.refl U.vm) qK⟩, va_recv hKc hPc (ci := 9) (q0 := 0) rfl rfl, fun U hU hW => ⟨rfl, by rw [hU]; exact hPc, va_K.moved hW.alike hKc⟩⟩ rfl rfl hl.1 rfl (lv_room (Nat.le_of_ble_eq_true rfl)) dX11_cost_5 ⟨Nat.le_of_ble_eq_true rfl, Nat.le_of_ble_eq_true rfl⟩)) (fun r hw_1 => ?_)
  obtain rfl : r = none := hw_1
  refine W.eq (g2 := F0 m 8 ls [.null]) rfl ?_
  refine lv_astore_nN (lv' := [(3, .null), (0, .ref x), (1, .int f0), (2, .int c0)]) hx hb dX11_cost_8 rfl hl (by decide) rfl (fun ls hl => ?_)
  refine lv_aload_nN hx hb dX11_cost_9 rfl (lv_at hl 0 rfl) ?_
  refine lv_ifnullN (tgt := 20) hx hb dX11_cost_10 (by decide) ?_
  refine lv_iconst (v := (-1)) hx hb dX11_cost_20 (by decide) ?_
  exact W.iret (v := (-1)) hx hb hr (fun t ht hW => ⟨(-1), rfl, rfl, ht⟩) (fun q h => absurd h List.not_mem_nil) dX11_cost_21
set_option maxHeartbeats 4000000 in
set_option maxRecDepth 100000 in
/-- X11_meets -/
theorem k_meets0 (l : Launch) (dC : Nat → ClassId) (dI : Nat → Nat → Nat) (sz : Nat) (x : Nat) (tp : Nat) (tg : Nat) (rw : Nat) (tr : Nat) (ch : Nat) (gf : Nat) (gr : Nat) (gz : Nat) (cZ : ClassId) (a0 : Int32) (b0 : Int32) (may : Int32) : Met l yX11_meets wsX11_meets ({ frames := 2, cells := 0, slots := 0, locals := 42 }) (va_Pc [.ref x, .int a0, .int b0, .int may] (fun U => U.heap.size = sz ∧ va_P (dC, dI) vwCl [(x, .inr (11, [.ref tp, .ref tg, .ref rw, .ref tr, .ref ch, .null, .int 1])), (tg, .inr (9, [.ref gf, .ref gr, .int 0, .int 0, .ref gz])), (gz, .inl (cZ, 36, .inl (fun _ => 0)))] U.heap ∧ va_K (dC, dI) vwCl [(cZ, .boolean)] U ∧ va_D (fun _ => True) [(x, .inr (11, [.ref tp, .ref tg, .ref rw, .ref tr, .ref ch, .null, .int 1])), (tg, .inr (9, [.ref gf, .ref gr, .int 0, .int 0, .ref gz])), (gz, .inl (cZ, 36, .inl (fun _ => 0)))])) (va_Qi (fun (r : Int32) (_ : Unit) => bP r (inR a0 0 5 ∧ inR b0 0 5 ∧ may = 0)) (fun (_ : Unit) (_ : State) => True) (va_A [(x, .inr (11, [.ref tp, .ref tg, .ref rw, .ref tr, .ref ch, .null, .int 1])), (tg, .inr (9, [.ref gf, .ref gr, .int 0, .int 0, .ref gz])), (gz, .inl (cZ, 36, .inl (fun _ => 0)))] sz)) 0 0 (va_A [(x, .inr (11, [.ref tp, .ref tg, .ref rw, .ref tr, .ref ch, .null, .int 1])), (tg, .inr (9, [.ref gf, .ref gr, .int 0, .int 0, .ref gz])), (gz, .inl (cZ, 36, .inl (fun _ => 0)))] sz) := by
  refine Met.ofW (cc := cX11_meets) (maxL := 4) (ret := (some .boolean)) (by decide) rfl ?_
  intro p e s m args below meth c s₁ B hml hv
  obtain ⟨rfl, hsz, hP, hK, hD0⟩ := hv
  have hx := B.exec
  have hb := B.bytes
  have hr := B.returns
  have hts := atoms_spec (ws := wsX11_meets) B.pre
  have hown : s.vm.findClass RX11 = some m.cls := findClass_of_methodNamed B.named
  have hlocks := B.notSynchronized
  subst hsz
  have hD := hD0.self (sz := s.heap.size)
  generalize hAe : va_A [(x, .inr (11, [.ref tp, .ref tg, .ref rw, .ref tr, .ref ch, .null, .int 1])), (tg, .inr (9, [.ref gf, .ref gr, .int 0, .int 0, .ref gz])), (gz, .inl (cZ, 36, .inl (fun _ => 0)))] s.heap.size = A at hD ⊢
  have hA : ∀ q : Nat, s.heap.size ≤ q → A q := fun q h => by rw [← hAe]; exact Or.inr h
  obtain ⟨H, hH⟩ : ∃ H : Heap, H = s.heap := ⟨_, rfl⟩
  have hS : va_S A s.heap H [] := by rw [hH]; exact va_S.rf
  rw [← hH] at hP ⊢
  have hP : va_P (dC, dI) vwCl [(x, .inr (11, [.ref tp, .ref tg, .ref rw, .ref tr, .ref ch, .null, .int 1])), (tg, .inr (9, [.ref gf, .ref gr, .int 0, .int 0, .ref gz])), (gz, .inl (cZ, 36, .inl (fun _ => 0)))] H := hP
  have hl := lv_entry ([.ref x, .int a0, .int b0, .int may]) (n := 4) (Nat.le_of_ble_eq_true rfl)
  rw [lg_entry_eq]
  generalize (lg_sl ([.ref x, .int a0, .int b0, .int may]) ++ List.replicate (4 - (lg_sl ([.ref x, .int a0, .int b0, .int may])).length) Slot.unset).toArray = ls at hl ⊢
  have hl : lv_has ls 4 [(0, .ref x), (1, .int a0), (2, .int b0), (3, .int may)] := hl
  refine lv_iload_n hx hb dX11_meets_0 rfl (lv_at hl 1 rfl) ?_
  have hPc := hP.sub (ws' := []) [] rfl
  have hKc := hK.sub (tys' := []) [] rfl
  refine vp_callSi (va_Run.run (va_runS (As := [.int a0]) (rest := []) ⟨hx, hb, hml, hown, hts⟩ (k_isKind l dC dI a0) (va_cwS 1 hts gX11_meets_X11_isKind rfl rfl rfl (by decide +kernel) ⟨Nat.le_of_ble_eq_true rfl, Nat.le_of_ble_eq_true rfl⟩) ⟨fun a U g mk q => by obtain ⟨q0, qP, qK⟩ := q; exact ⟨q0, qP, va_K.moved (u := U) (U := U.calling g mk a) (Vm.Alike.refl U.vm) qK⟩, fun U hU hW => ⟨rfl, by rw [hU]; exact hPc, va_K.moved hW.alike hKc⟩⟩ rfl rfl hl.1 rfl (lv_room (Nat.le_of_ble_eq_true rfl)) dX11_meets_1 ⟨Nat.le_of_ble_eq_true rfl, Nat.le_of_ble_eq_true rfl⟩)) (fun r_2 hw_1 => ?_)
  rcases hw_1 with ⟨rfl, hw_1⟩ | ⟨rfl, hw_1⟩
  · refine lv_if_eq (tgt := 14) hx hb dX11_meets_4 (by decide) (fun c_3 => ?_) (fun c_3 => ?_)
    · exact absurd c_3 (by decide)
    refine lv_iload_n hx hb dX11_meets_7 rfl (lv_at hl 2 rfl) ?_
    have hPc := hP.sub (ws' := []) [] rfl
    have hKc := hK.sub (tys' := []) [] rfl
    refine vp_callSi (va_Run.run (va_runS (As := [.int b0]) (rest := []) ⟨hx, hb, hml, hown, hts⟩ (k_isKind l dC dI b0) (va_cwS 1 hts gX11_meets_X11_isKind rfl rfl rfl (by decide +kernel) ⟨Nat.le_of_ble_eq_true rfl, Nat.le_of_ble_eq_true rfl⟩) ⟨fun a U g mk q => by obtain ⟨q0, qP, qK⟩ := q; exact ⟨q0, qP, va_K.moved (u := U) (U := U.calling g mk a) (Vm.Alike.refl U.vm) qK⟩, fun U hU hW => ⟨rfl, by rw [hU]; exact hPc, va_K.moved hW.alike hKc⟩⟩ rfl rfl hl.1 rfl (lv_room (Nat.le_of_ble_eq_true rfl)) dX11_meets_8 ⟨Nat.le_of_ble_eq_true rfl, Nat.le_of_ble_eq_true rfl⟩)) (fun r_5 hw_4 => ?_)
    rcases hw_4 with ⟨rfl, hw_4⟩ | ⟨rfl, hw_4⟩
    · refine lv_if_ne (tgt := 16) hx hb dX11_meets_11 (by decide) (fun c_6 => ?_) (fun c_6 => ?_)
      rotate_left
      · exact absurd c_6 (by decide)
      refine lv_aload_n hx hb dX11_meets_16 rfl (lv_at hl 0 rfl) ?_
      refine va_get (D := (dC, dI)) (ci := 11) (v := .ref tg) (C := RX11) (T := TX11) (N := 7) hx hb hts (by decide +kernel) hown hK hP 0 rfl rfl 1 (by decide) (hts (.fieldLink RX11 19 "JoinBench" "tongue" "LJoinBench$Tongue;") (by decide +kernel)) (fun _ h9 => h9) rfl dX11_meets_17 ?_
      refine lv_iload_n hx hb dX11_meets_20 rfl (lv_at hl 1 rfl) ?_
      refine lv_iload_n hx hb dX11_meets_21 rfl (lv_at hl 2 rfl) ?_
      refine lv_iload_n hx hb dX11_meets_22 rfl (lv_at hl 3 rfl) ?_
      obtain ⟨j, hj, ej⟩ := ix36 hw_1 hw_4
      have hPc := hP.sub (ws' := [(tg, .inr (9, [.ref gf, .ref gr, .int 0, .int 0, .ref gz])), (gz, .inl (cZ, 36, .inl (fun _ => 0)))]) [1, 2] rfl
      have hDc := hD.sub (ws' := [(tg, .inr (9, [.ref gf, .ref gr, .int 0, .int 0, .ref gz])), (gz, .inl (cZ, 36, .inl (fun _ => 0)))]) [1, 2] (by decide) rfl
      have hKc := hK.sub (tys' := [(cZ, .boolean)]) [0] rfl
      have hFc := va_free (wc := [(tg, .inr (9, [.ref gf, .ref gr, .int 0, .int 0, .ref gz])), (gz, .inl (cZ, 36, .inl (fun _ => 0)))]) hD hS hA [1, 2] rfl
      refine va_calli (va_runV (As := [.int a0, .int b0, .int may]) (rest := []) ⟨hx, hb, hml, hown, hts⟩ (k_setMeeting0 l dC dI H.size tg gf gr gz cZ a0 b0 may j hj ej) (cwV 3 hts gX11_meets_X9_setMeeting rfl rfl rfl (by decide +kernel) ⟨Nat.le_of_ble_eq_true rfl, Nat.le_of_ble_eq_true rfl⟩) ⟨fun a U g mk q => by obtain ⟨q0, q1, qP, qK, qD⟩ := q; exact ⟨q0, q1, qP, va_K.moved (u := U) (U := U.calling g mk a) (Vm.Alike.refl U.vm) qK, qD⟩, va_recv hKc hPc (ci := 9) (q0 := 0) rfl rfl, fun U hU hW => ⟨rfl, by rw [hU], by rw [hU]; exact hPc, va_K.moved hW.alike hKc, hDc.weaken (fun _ _ _ _ => trivial)⟩⟩ rfl rfl hl.1 rfl (lv_room (Nat.le_of_ble_eq_true rfl)) dX11_meets_23 ⟨Nat.le_of_ble_eq_true rfl, Nat.le_of_ble_eq_true rfl⟩) hS (fun q _ h => hFc q h) hFc (fun r_8 u t H1 locs ht hvm hw_7 hB hz1 hk1 hS => ?_)
      obtain ⟨hP, hD⟩ := va_join (wr := [(x, .inr (11, [.ref tp, .ref tg, .ref rw, .ref tr, .ref ch, .null, .int 1]))]) (w1 := []) hP hD [1, 2] [0] rfl rfl (by decide) (by decide) hk1 hFc (fun k q h => by simp at h) ⟨fun i j p q h => by simp at h, fun k q h => by simp at h⟩
      clear hPc hDc hFc hk1 hz1
      generalize H1 = H at hP hS ⊢
      have hP : va_P (dC, dI) vwCl [(x, .inr (11, [.ref tp, .ref tg, .ref rw, .ref tr, .ref ch, .null, .int 1]))] H := hP
      have hD : va_D A [(x, .inr (11, [.ref tp, .ref tg, .ref rw, .ref tr, .ref ch, .null, .int 1]))] := hD
      rcases hw_7 with ⟨rfl, hw_7⟩ | ⟨rfl, hw_7⟩
      · refine W.widen (k := 0) (n := 0) (Nat.le_of_ble_eq_true rfl) (Nat.le_of_ble_eq_true rfl) ?_
        exact W.zret (v := 1) hx hb hr rfl (fun t ht hW => ⟨⟨1, (), rfl, bP_t (by simp [hw_1, hw_4, hw_7]), trivial⟩, hS.F ht⟩) hS.2.2 dX11_meets_26
      · refine W.widen (k := 0) (n := 0) (Nat.le_of_ble_eq_true rfl) (Nat.le_of_ble_eq_true rfl) ?_
        exact W.zret (v := 0) hx hb hr rfl (fun t ht hW => ⟨⟨0, (), rfl, bP_f (by simp [hw_1, hw_4, hw_7]), trivial⟩, hS.F ht⟩) hS.2.2 dX11_meets_26
    · refine lv_if_ne (tgt := 16) hx hb dX11_meets_11 (by decide) (fun c_9 => ?_) (fun c_9 => ?_)
      · exact absurd (by decide) c_9
      refine lv_iconst (v := 0) hx hb dX11_meets_14 (by decide) ?_
      refine W.widen (k := 0) (n := 0) (Nat.le_of_ble_eq_true rfl) (Nat.le_of_ble_eq_true rfl) ?_
      exact W.zret (v := 0) hx hb hr rfl (fun t ht hW => ⟨⟨0, (), rfl, bP_f (by simp [hw_1, hw_4]), trivial⟩, hS.F ht⟩) hS.2.2 dX11_meets_15
  · refine lv_if_eq (tgt := 14) hx hb dX11_meets_4 (by decide) (fun c_10 => ?_) (fun c_10 => ?_)
    rotate_left
    · exact absurd (by decide) c_10
    refine lv_iconst (v := 0) hx hb dX11_meets_14 (by decide) ?_
    refine W.widen (k := 0) (n := 0) (Nat.le_of_ble_eq_true rfl) (Nat.le_of_ble_eq_true rfl) ?_
    exact W.zret (v := 0) hx hb hr rfl (fun t ht hW => ⟨⟨0, (), rfl, bP_f (by simp [hw_1]), trivial⟩, hS.F ht⟩) hS.2.2 dX11_meets_15
set_option maxHeartbeats 4000000 in
set_option maxRecDepth 100000 in
/-- X11_becomes -/
theorem k_becomes0 (l : Launch) (dC : Nat → ClassId) (dI : Nat → Nat → Nat) (sz : Nat) (x : Nat) (tp : Nat) (tg : Nat) (rw : Nat) (tr : Nat) (ch : Nat) (tk : Nat) (cI : ClassId) (fk : Nat → Int32) (a0 : Int32) (b0 : Int32) (kd : Int32) (hfk : ∀ j, j < 36 → fk j = -1) : Met l yX11_becomes wsX11_becomes ({ frames := 2, cells := 0, slots := 0, locals := 42 }) (va_Pc [.ref x, .int a0, .int b0, .int kd] (fun U => U.heap.size = sz ∧ va_P (dC, dI) vwCl [(x, .inr (11, [.ref tp, .ref tg, .ref rw, .ref tr, .ref ch, .null, .int 1])), (tr, .inr (10, [.ref tk, .null])), (tk, .inl (cI, 36, .inl fk))] U.heap ∧ va_K (dC, dI) vwCl [(cI, .int)] U ∧ va_D (fun _ => True) [(x, .inr (11, [.ref tp, .ref tg, .ref rw, .ref tr, .ref ch, .null, .int 1])), (tr, .inr (10, [.ref tk, .null])), (tk, .inl (cI, 36, .inl fk))])) (va_Qi (fun (r : Int32) (_ : Unit) => vP r (inR a0 0 5 ∧ inR b0 0 5 ∧ (kd = -1 ∨ inR kd 0 5)) (-1) (-2)) (fun (_ : Unit) (_ : State) => True) (va_A [(x, .inr (11, [.ref tp, .ref tg, .ref rw, .ref tr, .ref ch, .null, .int 1])), (tr, .inr (10, [.ref tk, .null])), (tk, .inl (cI, 36, .inl fk))] sz)) 0 0 (va_A [(x, .inr (11, [.ref tp, .ref tg, .ref rw, .ref tr, .ref ch, .null, .int 1])), (tr, .inr (10, [.ref tk, .null])), (tk, .inl (cI, 36, .inl fk))] sz) := by
  refine Met.ofW (cc := cX11_becomes) (maxL := 4) (ret := (some .int)) (by decide) rfl ?_
  intro p e s m args below meth c s₁ B hml hv
  obtain ⟨rfl, hsz, hP, hK, hD0⟩ := hv
  have hx := B.exec
  have hb := B.bytes
  have hr := B.returns
  have hts := atoms_spec (ws := wsX11_becomes) B.pre
  have hown : s.vm.findClass RX11 = some m.cls := findClass_of_methodNamed B.named
  have hlocks := B.notSynchronized
  subst hsz
  have hD := hD0.self (sz := s.heap.size)
  generalize hAe : va_A [(x, .inr (11, [.ref tp, .ref tg, .ref rw, .ref tr, .ref ch, .null, .int 1])), (tr, .inr (10, [.ref tk, .null])), (tk, .inl (cI, 36, .inl fk))] s.heap.size = A at hD ⊢
  have hA : ∀ q : Nat, s.heap.size ≤ q → A q := fun q h => by rw [← hAe]; exact Or.inr h
  obtain ⟨H, hH⟩ : ∃ H : Heap, H = s.heap := ⟨_, rfl⟩
  have hS : va_S A s.heap H [] := by rw [hH]; exact va_S.rf
  rw [← hH] at hP ⊢
  have hP : va_P (dC, dI) vwCl [(x, .inr (11, [.ref tp, .ref tg, .ref rw, .ref tr, .ref ch, .null, .int 1])), (tr, .inr (10, [.ref tk, .null])), (tk, .inl (cI, 36, .inl fk))] H := hP
  have hl := lv_entry ([.ref x, .int a0, .int b0, .int kd]) (n := 4) (Nat.le_of_ble_eq_true rfl)
  rw [lg_entry_eq]
  generalize (lg_sl ([.ref x, .int a0, .int b0, .int kd]) ++ List.replicate (4 - (lg_sl ([.ref x, .int a0, .int b0, .int kd])).length) Slot.unset).toArray = ls at hl ⊢
  have hl : lv_has ls 4 [(0, .ref x), (1, .int a0), (2, .int b0), (3, .int kd)] := hl
  refine lv_iload_n hx hb dX11_becomes_0 rfl (lv_at hl 1 rfl) ?_
  have hPc := hP.sub (ws' := []) [] rfl
  have hKc := hK.sub (tys' := []) [] rfl
  refine vp_callSi (va_Run.run (va_runS (As := [.int a0]) (rest := []) ⟨hx, hb, hml, hown, hts⟩ (k_isKind l dC dI a0) (va_cwS 1 hts gX11_becomes_X11_isKind rfl rfl rfl (by decide +kernel) ⟨Nat.le_of_ble_eq_true rfl, Nat.le_of_ble_eq_true rfl⟩) ⟨fun a U g mk q => by obtain ⟨q0, qP, qK⟩ := q; exact ⟨q0, qP, va_K.moved (u := U) (U := U.calling g mk a) (Vm.Alike.refl U.vm) qK⟩, fun U hU hW => ⟨rfl, by rw [hU]; exact hPc, va_K.moved hW.alike hKc⟩⟩ rfl rfl hl.1 rfl (lv_room (Nat.le_of_ble_eq_true rfl)) dX11_becomes_1 ⟨Nat.le_of_ble_eq_true rfl, Nat.le_of_ble_eq_true rfl⟩)) (fun r_2 hw_1 => ?_)
  rcases hw_1 with ⟨rfl, hw_1⟩ | ⟨rfl, hw_1⟩
  · refine lv_if_eq (tgt := 26) hx hb dX11_becomes_4 (by decide) (fun c_3 => ?_) (fun c_3 => ?_)
    · exact absurd c_3 (by decide)
    refine lv_iload_n hx hb dX11_becomes_7 rfl (lv_at hl 2 rfl) ?_
    have hPc := hP.sub (ws' := []) [] rfl
    have hKc := hK.sub (tys' := []) [] rfl
    refine vp_callSi (va_Run.run (va_runS (As := [.int b0]) (rest := []) ⟨hx, hb, hml, hown, hts⟩ (k_isKind l dC dI b0) (va_cwS 1 hts gX11_becomes_X11_isKind rfl rfl rfl (by decide +kernel) ⟨Nat.le_of_ble_eq_true rfl, Nat.le_of_ble_eq_true rfl⟩) ⟨fun a U g mk q => by obtain ⟨q0, qP, qK⟩ := q; exact ⟨q0, qP, va_K.moved (u := U) (U := U.calling g mk a) (Vm.Alike.refl U.vm) qK⟩, fun U hU hW => ⟨rfl, by rw [hU]; exact hPc, va_K.moved hW.alike hKc⟩⟩ rfl rfl hl.1 rfl (lv_room (Nat.le_of_ble_eq_true rfl)) dX11_becomes_8 ⟨Nat.le_of_ble_eq_true rfl, Nat.le_of_ble_eq_true rfl⟩)) (fun r_5 hw_4 => ?_)
    rcases hw_4 with ⟨rfl, hw_4⟩ | ⟨rfl, hw_4⟩
    · refine lv_if_eq (tgt := 26) hx hb dX11_becomes_11 (by decide) (fun c_6 => ?_) (fun c_6 => ?_)
      · exact absurd c_6 (by decide)
      refine lv_iload_n hx hb dX11_becomes_14 rfl (lv_at hl 3 rfl) ?_
      refine lv_iconst (v := (-1)) hx hb dX11_becomes_15 (by decide) ?_
      refine lv_icmp_eq (tgt := 29) hx hb dX11_becomes_16 (by decide) (fun c_7 => ?_) (fun c_7 => ?_)
      · refine lv_aload_n hx hb dX11_becomes_29 rfl (lv_at hl 0 rfl) ?_
        refine va_get (D := (dC, dI)) (ci := 11) (v := .ref tr) (C := RX11) (T := TX11) (N := 7) hx hb hts (by decide +kernel) hown hK hP 0 rfl rfl 3 (by decide) (hts (.fieldLink RX11 33 "JoinBench" "trees" "LJoinBench$Trees;") (by decide +kernel)) (fun _ h9 => h9) rfl dX11_becomes_30 ?_
        refine lv_iload_n hx hb dX11_becomes_33 rfl (lv_at hl 1 rfl) ?_
        refine lv_iload_n hx hb dX11_becomes_34 rfl (lv_at hl 2 rfl) ?_
        refine lv_iload_n hx hb dX11_becomes_35 rfl (lv_at hl 3 rfl) ?_
        obtain ⟨j, hj, ej⟩ := ix36 hw_1 hw_4
        have hPc := hP.sub (ws' := [(tr, .inr (10, [.ref tk, .null])), (tk, .inl (cI, 36, .inl fk))]) [1, 2] rfl
        have hDc := hD.sub (ws' := [(tr, .inr (10, [.ref tk, .null])), (tk, .inl (cI, 36, .inl fk))]) [1, 2] (by decide) rfl
        have hKc := hK.sub (tys' := [(cI, .int)]) [0] rfl
        have hFc := va_free (wc := [(tr, .inr (10, [.ref tk, .null])), (tk, .inl (cI, 36, .inl fk))]) hD hS hA [1, 2] rfl
        refine va_calli (va_runV (As := [.int a0, .int b0, .int kd]) (rest := []) ⟨hx, hb, hml, hown, hts⟩ (k_setKind0 l dC dI H.size tr tk cI fk a0 b0 kd j hj ej hfk) (cwV 3 hts gX11_becomes_X10_setKind rfl rfl rfl (by decide +kernel) ⟨Nat.le_of_ble_eq_true rfl, Nat.le_of_ble_eq_true rfl⟩) ⟨fun a U g mk q => by obtain ⟨q0, q1, qP, qK, qD⟩ := q; exact ⟨q0, q1, qP, va_K.moved (u := U) (U := U.calling g mk a) (Vm.Alike.refl U.vm) qK, qD⟩, va_recv hKc hPc (ci := 10) (q0 := 0) rfl rfl, fun U hU hW => ⟨rfl, by rw [hU], by rw [hU]; exact hPc, va_K.moved hW.alike hKc, hDc.weaken (fun _ _ _ _ => trivial)⟩⟩ rfl rfl hl.1 rfl (lv_room (Nat.le_of_ble_eq_true rfl)) dX11_becomes_36 ⟨Nat.le_of_ble_eq_true rfl, Nat.le_of_ble_eq_true rfl⟩) hS (fun q _ h => hFc q h) hFc (fun r_9 u t H1 locs ht hvm hw_8 hB hz1 hk1 hS => ?_)
        obtain ⟨hP, hD⟩ := va_join (wr := [(x, .inr (11, [.ref tp, .ref tg, .ref rw, .ref tr, .ref ch, .null, .int 1]))]) (w1 := []) hP hD [1, 2] [0] rfl rfl (by decide) (by decide) hk1 hFc (fun k q h => by simp at h) ⟨fun i j p q h => by simp at h, fun k q h => by simp at h⟩
        clear hPc hDc hFc hk1 hz1
        generalize H1 = H at hP hS ⊢
        have hP : va_P (dC, dI) vwCl [(x, .inr (11, [.ref tp, .ref tg, .ref rw, .ref tr, .ref ch, .null, .int 1]))] H := hP
        have hD : va_D A [(x, .inr (11, [.ref tp, .ref tg, .ref rw, .ref tr, .ref ch, .null, .int 1]))] := hD
        refine W.widen (k := 0) (n := 0) (Nat.le_of_ble_eq_true rfl) (Nat.le_of_ble_eq_true rfl) ?_
        exact W.iret (v := r_9) hx hb hr (fun t ht hW => ⟨⟨r_9, (), rfl, by rw [hw_8]; exact vP_t (by simp [hw_1, hw_4, c_7]), trivial⟩, hS.F ht⟩) hS.2.2 dX11_becomes_39
      · refine lv_iload_n hx hb dX11_becomes_19 rfl (lv_at hl 3 rfl) ?_
        have hPc := hP.sub (ws' := []) [] rfl
        have hKc := hK.sub (tys' := []) [] rfl
        refine vp_callSi (va_Run.run (va_runS (As := [.int kd]) (rest := []) ⟨hx, hb, hml, hown, hts⟩ (k_isKind l dC dI kd) (va_cwS 1 hts gX11_becomes_X11_isKind rfl rfl rfl (by decide +kernel) ⟨Nat.le_of_ble_eq_true rfl, Nat.le_of_ble_eq_true rfl⟩) ⟨fun a U g mk q => by obtain ⟨q0, qP, qK⟩ := q; exact ⟨q0, qP, va_K.moved (u := U) (U := U.calling g mk a) (Vm.Alike.refl U.vm) qK⟩, fun U hU hW => ⟨rfl, by rw [hU]; exact hPc, va_K.moved hW.alike hKc⟩⟩ rfl rfl hl.1 rfl (lv_room (Nat.le_of_ble_eq_true rfl)) dX11_becomes_20 ⟨Nat.le_of_ble_eq_true rfl, Nat.le_of_ble_eq_true rfl⟩)) (fun r_11 hw_10 => ?_)
        rcases hw_10 with ⟨rfl, hw_10⟩ | ⟨rfl, hw_10⟩
        · refine lv_if_ne (tgt := 29) hx hb dX11_becomes_23 (by decide) (fun c_12 => ?_) (fun c_12 => ?_)
          rotate_left
          · exact absurd c_12 (by decide)
          refine lv_aload_n hx hb dX11_becomes_29 rfl (lv_at hl 0 rfl) ?_
          refine va_get (D := (dC, dI)) (ci := 11) (v := .ref tr) (C := RX11) (T := TX11) (N := 7) hx hb hts (by decide +kernel) hown hK hP 0 rfl rfl 3 (by decide) (hts (.fieldLink RX11 33 "JoinBench" "trees" "LJoinBench$Trees;") (by decide +kernel)) (fun _ h9 => h9) rfl dX11_becomes_30 ?_
          refine lv_iload_n hx hb dX11_becomes_33 rfl (lv_at hl 1 rfl) ?_
          refine lv_iload_n hx hb dX11_becomes_34 rfl (lv_at hl 2 rfl) ?_
          refine lv_iload_n hx hb dX11_becomes_35 rfl (lv_at hl 3 rfl) ?_
          obtain ⟨j, hj, ej⟩ := ix36 hw_1 hw_4
          have hPc := hP.sub (ws' := [(tr, .inr (10, [.ref tk, .null])), (tk, .inl (cI, 36, .inl fk))]) [1, 2] rfl
          have hDc := hD.sub (ws' := [(tr, .inr (10, [.ref tk, .null])), (tk, .inl (cI, 36, .inl fk))]) [1, 2] (by decide) rfl
          have hKc := hK.sub (tys' := [(cI, .int)]) [0] rfl
          have hFc := va_free (wc := [(tr, .inr (10, [.ref tk, .null])), (tk, .inl (cI, 36, .inl fk))]) hD hS hA [1, 2] rfl
          refine va_calli (va_runV (As := [.int a0, .int b0, .int kd]) (rest := []) ⟨hx, hb, hml, hown, hts⟩ (k_setKind0 l dC dI H.size tr tk cI fk a0 b0 kd j hj ej hfk) (cwV 3 hts gX11_becomes_X10_setKind rfl rfl rfl (by decide +kernel) ⟨Nat.le_of_ble_eq_true rfl, Nat.le_of_ble_eq_true rfl⟩) ⟨fun a U g mk q => by obtain ⟨q0, q1, qP, qK, qD⟩ := q; exact ⟨q0, q1, qP, va_K.moved (u := U) (U := U.calling g mk a) (Vm.Alike.refl U.vm) qK, qD⟩, va_recv hKc hPc (ci := 10) (q0 := 0) rfl rfl, fun U hU hW => ⟨rfl, by rw [hU], by rw [hU]; exact hPc, va_K.moved hW.alike hKc, hDc.weaken (fun _ _ _ _ => trivial)⟩⟩ rfl rfl hl.1 rfl (lv_room (Nat.le_of_ble_eq_true rfl)) dX11_becomes_36 ⟨Nat.le_of_ble_eq_true rfl, Nat.le_of_ble_eq_true rfl⟩) hS (fun q _ h => hFc q h) hFc (fun r_14 u t H1 locs ht hvm hw_13 hB hz1 hk1 hS => ?_)
          obtain ⟨hP, hD⟩ := va_join (wr := [(x, .inr (11, [.ref tp, .ref tg, .ref rw, .ref tr, .ref ch, .null, .int 1]))]) (w1 := []) hP hD [1, 2] [0] rfl rfl (by decide) (by decide) hk1 hFc (fun k q h => by simp at h) ⟨fun i j p q h => by simp at h, fun k q h => by simp at h⟩
          clear hPc hDc hFc hk1 hz1
          generalize H1 = H at hP hS ⊢
          have hP : va_P (dC, dI) vwCl [(x, .inr (11, [.ref tp, .ref tg, .ref rw, .ref tr, .ref ch, .null, .int 1]))] H := hP
          have hD : va_D A [(x, .inr (11, [.ref tp, .ref tg, .ref rw, .ref tr, .ref ch, .null, .int 1]))] := hD
          refine W.widen (k := 0) (n := 0) (Nat.le_of_ble_eq_true rfl) (Nat.le_of_ble_eq_true rfl) ?_
          exact W.iret (v := r_14) hx hb hr (fun t ht hW => ⟨⟨r_14, (), rfl, by rw [hw_13]; exact vP_t (by simp [hw_1, hw_4, c_7, hw_10]), trivial⟩, hS.F ht⟩) hS.2.2 dX11_becomes_39
        · refine lv_if_ne (tgt := 29) hx hb dX11_becomes_23 (by decide) (fun c_15 => ?_) (fun c_15 => ?_)
          · exact absurd (by decide) c_15
          refine lv_bipush (v := (-2)) hx hb dX11_becomes_26 (by decide) ?_
          refine W.widen (k := 0) (n := 0) (Nat.le_of_ble_eq_true rfl) (Nat.le_of_ble_eq_true rfl) ?_
          exact W.iret (v := (-2)) hx hb hr (fun t ht hW => ⟨⟨(-2), (), rfl, vP_f (by simp [hw_1, hw_4, c_7, hw_10]), trivial⟩, hS.F ht⟩) hS.2.2 dX11_becomes_28
    · refine lv_if_eq (tgt := 26) hx hb dX11_becomes_11 (by decide) (fun c_16 => ?_) (fun c_16 => ?_)
      rotate_left
      · exact absurd (by decide) c_16
      refine lv_bipush (v := (-2)) hx hb dX11_becomes_26 (by decide) ?_
      refine W.widen (k := 0) (n := 0) (Nat.le_of_ble_eq_true rfl) (Nat.le_of_ble_eq_true rfl) ?_
      exact W.iret (v := (-2)) hx hb hr (fun t ht hW => ⟨⟨(-2), (), rfl, vP_f (by simp [hw_1, hw_4]), trivial⟩, hS.F ht⟩) hS.2.2 dX11_becomes_28
  · refine lv_if_eq (tgt := 26) hx hb dX11_becomes_4 (by decide) (fun c_17 => ?_) (fun c_17 => ?_)
    rotate_left
    · exact absurd (by decide) c_17
    refine lv_bipush (v := (-2)) hx hb dX11_becomes_26 (by decide) ?_
    refine W.widen (k := 0) (n := 0) (Nat.le_of_ble_eq_true rfl) (Nat.le_of_ble_eq_true rfl) ?_
    exact W.iret (v := (-2)) hx hb hr (fun t ht hW => ⟨⟨(-2), (), rfl, vP_f (by simp [hw_1]), trivial⟩, hS.F ht⟩) hS.2.2 dX11_becomes_28
set_option maxHeartbeats 4000000 in
set_option maxRecDepth 100000 in
/-- X11_rulesBetween -/
theorem k_rulesBetween0 (l : Launch) (dC : Nat → ClassId) (dI : Nat → Nat → Nat) (x : Nat) (tp : Nat) (tg : Nat) (rw : Nat) (tr : Nat) (ch : Nat) (gf : Nat) (gr : Nat) (gz : Nat) (f0 : Int32) (g0 : Int32) (d0 : Int32) : Met l yX11_rulesBetween wsX11_rulesBetween ({ frames := 1, cells := 0, slots := 0, locals := 21 }) (va_Pc [.ref x, .int f0, .int g0, .int d0] (fun U => va_P (dC, dI) vwCl [(x, .inr (11, [.ref tp, .ref tg, .ref rw, .ref tr, .ref ch, .null, .int 1])), (tg, .inr (9, [.ref gf, .ref gr, .int 0, .int 0, .ref gz]))] U.heap ∧ va_K (dC, dI) vwCl [] U)) (vp_Si (fun r => r = -1)) 0 0 (fun _ => False) := by
  refine Met.ofW (cc := cX11_rulesBetween) (maxL := 6) (ret := (some .int)) (by decide) rfl ?_
  intro p e s m args below meth c s₁ B hml hv
  obtain ⟨rfl, hP, hK⟩ := hv
  have hx := B.exec
  have hb := B.bytes
  have hr := B.returns
  have hts := atoms_spec (ws := wsX11_rulesBetween) B.pre
  have hown : s.vm.findClass RX11 = some m.cls := findClass_of_methodNamed B.named
  have hlocks := B.notSynchronized
  have hP : va_P (dC, dI) vwCl [(x, .inr (11, [.ref tp, .ref tg, .ref rw, .ref tr, .ref ch, .null, .int 1])), (tg, .inr (9, [.ref gf, .ref gr, .int 0, .int 0, .ref gz]))] s.heap := hP
  have hl := lv_entry ([.ref x, .int f0, .int g0, .int d0]) (n := 6) (Nat.le_of_ble_eq_true rfl)
  rw [lg_entry_eq]
  generalize (lg_sl ([.ref x, .int f0, .int g0, .int d0]) ++ List.replicate (6 - (lg_sl ([.ref x, .int f0, .int g0, .int d0])).length) Slot.unset).toArray = ls at hl ⊢
  have hl : lv_has ls 6 [(0, .ref x), (1, .int f0), (2, .int g0), (3, .int d0)] := hl
  refine lv_aload_n hx hb dX11_rulesBetween_0 rfl (lv_at hl 0 rfl) ?_
  refine va_get (D := (dC, dI)) (ci := 11) (v := .ref tg) (C := RX11) (T := TX11) (N := 7) hx hb hts (by decide +kernel) hown hK hP 0 rfl rfl 1 (by decide) (hts (.fieldLink RX11 19 "JoinBench" "tongue" "LJoinBench$Tongue;") (by decide +kernel)) (fun _ h9 => h9) rfl dX11_rulesBetween_1 ?_
  refine lv_iload_n hx hb dX11_rulesBetween_4 rfl (lv_at hl 1 rfl) ?_
  have hPc := hP.sub (ws' := [(tg, .inr (9, [.ref gf, .ref gr, .int 0, .int 0, .ref gz]))]) [1] rfl
  have hKc := hK.sub (tys' := []) [] rfl
  refine va_csq (va_Run.run (va_runV (As := [.int f0]) (rest := []) ⟨hx, hb, hml, hown, hts⟩ (k_formAt0 l dC dI tg gf gr gz f0) (cwV 1 hts gX11_rulesBetween_X9_formAt rfl rfl rfl (by decide +kernel) ⟨Nat.le_of_ble_eq_true rfl, Nat.le_of_ble_eq_true rfl⟩) ⟨fun a U g mk q => by obtain ⟨q0, qP, qK⟩ := q; exact ⟨q0, qP, va_K.moved (u := U) (U := U.calling g mk a) (Vm.Alike.refl U.vm) qK⟩, va_recv hKc hPc (ci := 9) (q0 := 0) rfl rfl, fun U hU hW => ⟨rfl, by rw [hU]; exact hPc, va_K.moved hW.alike hKc⟩⟩ rfl rfl hl.1 rfl (lv_room (Nat.le_of_ble_eq_true rfl)) dX11_rulesBetween_5 ⟨Nat.le_of_ble_eq_true rfl, Nat.le_of_ble_eq_true rfl⟩)) (fun r hw_1 => ?_)
  obtain rfl : r = none := hw_1
  refine W.eq (g2 := F0 m 8 ls [.null]) rfl ?_
  refine lv_astoreN (lv' := [(4, .null), (0, .ref x), (1, .int f0), (2, .int g0), (3, .int d0)]) hx hb dX11_rulesBetween_8 hl (by decide) rfl (fun ls hl => ?_)
  refine lv_aload_n hx hb dX11_rulesBetween_10 rfl (lv_at hl 1 rfl) ?_
  refine va_get (D := (dC, dI)) (ci := 11) (v := .ref tg) (C := RX11) (T := TX11) (N := 7) hx hb hts (by decide +kernel) hown hK hP 0 rfl rfl 1 (by decide) (hts (.fieldLink RX11 19 "JoinBench" "tongue" "LJoinBench$Tongue;") (by decide +kernel)) (fun _ h9 => h9) rfl dX11_rulesBetween_11 ?_
  refine lv_iload_n hx hb dX11_rulesBetween_14 rfl (lv_at hl 3 rfl) ?_
  have hPc := hP.sub (ws' := [(tg, .inr (9, [.ref gf, .ref gr, .int 0, .int 0, .ref gz]))]) [1] rfl
  have hKc := hK.sub (tys' := []) [] rfl
  refine va_csq (va_Run.run (va_runV (As := [.int g0]) (rest := []) ⟨hx, hb, hml, hown, hts⟩ (k_formAt0 l dC dI tg gf gr gz g0) (cwV 1 hts gX11_rulesBetween_X9_formAt rfl rfl rfl (by decide +kernel) ⟨Nat.le_of_ble_eq_true rfl, Nat.le_of_ble_eq_true rfl⟩) ⟨fun a U g mk q => by obtain ⟨q0, qP, qK⟩ := q; exact ⟨q0, qP, va_K.moved (u := U) (U := U.calling g mk a) (Vm.Alike.refl U.vm) qK⟩, va_recv hKc hPc (ci := 9) (q0 := 0) rfl rfl, fun U hU hW => ⟨rfl, by rw [hU]; exact hPc, va_K.moved hW.alike hKc⟩⟩ rfl rfl hl.1 rfl (lv_room (Nat.le_of_ble_eq_true rfl)) dX11_rulesBetween_15 ⟨Nat.le_of_ble_eq_true rfl, Nat.le_of_ble_eq_true rfl⟩)) (fun r hw_2 => ?_)
  obtain rfl : r = none := hw_2
  refine W.eq (g2 := F0 m 18 ls [.null]) rfl ?_
  refine lv_astoreN (lv' := [(5, .null), (4, .null), (0, .ref x), (1, .int f0), (2, .int g0), (3, .int d0)]) hx hb dX11_rulesBetween_18 hl (by decide) rfl (fun ls hl => ?_)
  refine lv_aloadN hx hb dX11_rulesBetween_20 (lv_at hl 1 rfl) ?_
  refine lv_ifnullN (tgt := 37) hx hb dX11_rulesBetween_22 (by decide) ?_
  refine lv_iconst (v := (-1)) hx hb dX11_rulesBetween_37 (by decide) ?_
  exact W.iret (v := (-1)) hx hb hr (fun t ht hW => ⟨(-1), rfl, rfl, ht⟩) (fun q h => absurd h List.not_mem_nil) dX11_rulesBetween_38
set_option maxHeartbeats 4000000 in
set_option maxRecDepth 100000 in
/-- X11_fits -/
theorem k_fits0 (l : Launch) (dC : Nat → ClassId) (dI : Nat → Nat → Nat) (x : Nat) (tp : Nat) (tg : Nat) (rw : Nat) (tr : Nat) (ch : Nat) (gf : Nat) (gr : Nat) (gz : Nat) (f0 : Int32) (g0 : Int32) (d0 : Int32) : Met l yX11_fits wsX11_fits ({ frames := 2, cells := 0, slots := 0, locals := 46 }) (va_Pc [.ref x, .int f0, .int g0, .int d0] (fun U => va_P (dC, dI) vwCl [(x, .inr (11, [.ref tp, .ref tg, .ref rw, .ref tr, .ref ch, .null, .int 1])), (tg, .inr (9, [.ref gf, .ref gr, .int 0, .int 0, .ref gz]))] U.heap ∧ va_K (dC, dI) vwCl [] U)) (vp_Si (fun r => r = -1)) 0 0 (fun _ => False) := by
  refine Met.ofW (cc := cX11_fits) (maxL := 5) (ret := (some .int)) (by decide) rfl ?_
  intro p e s m args below meth c s₁ B hml hv
  obtain ⟨rfl, hP, hK⟩ := hv
  have hx := B.exec
  have hb := B.bytes
  have hr := B.returns
  have hts := atoms_spec (ws := wsX11_fits) B.pre
  have hown : s.vm.findClass RX11 = some m.cls := findClass_of_methodNamed B.named
  have hlocks := B.notSynchronized
  have hP : va_P (dC, dI) vwCl [(x, .inr (11, [.ref tp, .ref tg, .ref rw, .ref tr, .ref ch, .null, .int 1])), (tg, .inr (9, [.ref gf, .ref gr, .int 0, .int 0, .ref gz]))] s.heap := hP
  have hl := lv_entry ([.ref x, .int f0, .int g0, .int d0]) (n := 5) (Nat.le_of_ble_eq_true rfl)
  rw [lg_entry_eq]
  generalize (lg_sl ([.ref x, .int f0, .int g0, .int d0]) ++ List.replicate (5 - (lg_sl ([.ref x, .int f0, .int g0, .int d0])).length) Slot.unset).toArray = ls at hl ⊢
  have hl : lv_has ls 5 [(0, .ref x), (1, .int f0), (2, .int g0), (3, .int d0)] := hl
  refine lv_aload_n hx hb dX11_fits_0 rfl (lv_at hl 0 rfl) ?_
  refine lv_iload_n hx hb dX11_fits_1 rfl (lv_at hl 1 rfl) ?_
  refine lv_iload_n hx hb dX11_fits_2 rfl (lv_at hl 2 rfl) ?_
  refine lv_iload_n hx hb dX11_fits_3 rfl (lv_at hl 3 rfl) ?_
  have hPc := hP.sub (ws' := [(x, .inr (11, [.ref tp, .ref tg, .ref rw, .ref tr, .ref ch, .null, .int 1])), (tg, .inr (9, [.ref gf, .ref gr, .int 0, .int 0, .ref gz]))]) [0, 1] rfl
  have hKc := hK.sub (tys' := []) [] rfl
  refine vp_callSi (va_Run.run (va_runV (As := [.int f0, .int g0, .int d0]) (rest := []) ⟨hx, hb, hml, hown, hts⟩ (k_rulesBetween0 l dC dI x tp tg rw tr ch gf gr gz f0 g0 d0) (cwV 3 hts gX11_fits_X11_rulesBetween rfl rfl rfl (by decide +kernel) ⟨Nat.le_of_ble_eq_true rfl, Nat.le_of_ble_eq_true rfl⟩) ⟨fun a U g mk q => by obtain ⟨q0, qP, qK⟩ := q; exact ⟨q0, qP, va_K.moved (u := U) (U := U.calling g mk a) (Vm.Alike.refl U.vm) qK⟩, va_recv hKc hPc (ci := 11) (q0 := 0) rfl rfl, fun U hU hW => ⟨rfl, by rw [hU]; exact hPc, va_K.moved hW.alike hKc⟩⟩ rfl rfl hl.1 rfl (lv_room (Nat.le_of_ble_eq_true rfl)) dX11_fits_4 ⟨Nat.le_of_ble_eq_true rfl, Nat.le_of_ble_eq_true rfl⟩)) (fun r_2 hw_1 => ?_)
  obtain rfl : r_2 = (-1) := hw_1
  refine lv_istore (lv' := [(4, .int (-1)), (0, .ref x), (1, .int f0), (2, .int g0), (3, .int d0)]) hx hb dX11_fits_7 hl (by decide) rfl (fun ls hl => ?_)
  refine lv_iload hx hb dX11_fits_9 (lv_at hl 0 rfl) ?_
  refine lv_iconst (v := (-1)) hx hb dX11_fits_11 (by decide) ?_
  refine lv_icmp_ne (tgt := 19) hx hb dX11_fits_12 (by decide) (fun c_3 => ?_) (fun c_3 => ?_)
  · exact absurd (by decide) c_3
  refine lv_iconst (v := (-1)) hx hb dX11_fits_15 (by decide) ?_
  refine lv_goto (tgt := 24) hx hb dX11_fits_16 (by decide) ?_
  exact W.iret (v := (-1)) hx hb hr (fun t ht hW => ⟨(-1), rfl, rfl, ht⟩) (fun q h => absurd h List.not_mem_nil) dX11_fits_24
set_option maxHeartbeats 4000000 in
set_option maxRecDepth 100000 in
/-- X11_fitting -/
theorem k_fitting0 (l : Launch) (dC : Nat → ClassId) (dI : Nat → Nat → Nat) (x : Nat) (tp : Nat) (tg : Nat) (rw : Nat) (tr : Nat) (ch : Nat) (gf : Nat) (gr : Nat) (gz : Nat) (f0 : Int32) (g0 : Int32) (d0 : Int32) (k0 : Int32) : Met l yX11_fitting wsX11_fitting ({ frames := 2, cells := 0, slots := 0, locals := 46 }) (va_Pc [.ref x, .int f0, .int g0, .int d0, .int k0] (fun U => va_P (dC, dI) vwCl [(x, .inr (11, [.ref tp, .ref tg, .ref rw, .ref tr, .ref ch, .null, .int 1])), (tg, .inr (9, [.ref gf, .ref gr, .int 0, .int 0, .ref gz]))] U.heap ∧ va_K (dC, dI) vwCl [] U)) (vp_Si (fun r => r = -1)) 0 0 (fun _ => False) := by
  refine Met.ofW (cc := cX11_fitting) (maxL := 8) (ret := (some .int)) (by decide) rfl ?_
  intro p e s m args below meth c s₁ B hml hv
  obtain ⟨rfl, hP, hK⟩ := hv
  have hx := B.exec
  have hb := B.bytes
  have hr := B.returns
  have hts := atoms_spec (ws := wsX11_fitting) B.pre
  have hown : s.vm.findClass RX11 = some m.cls := findClass_of_methodNamed B.named
  have hlocks := B.notSynchronized
  have hP : va_P (dC, dI) vwCl [(x, .inr (11, [.ref tp, .ref tg, .ref rw, .ref tr, .ref ch, .null, .int 1])), (tg, .inr (9, [.ref gf, .ref gr, .int 0, .int 0, .ref gz]))] s.heap := hP
  have hl := lv_entry ([.ref x, .int f0, .int g0, .int d0, .int k0]) (n := 8) (Nat.le_of_ble_eq_true rfl)
  rw [lg_entry_eq]
  generalize (lg_sl ([.ref x, .int f0, .int g0, .int d0, .int k0]) ++ List.replicate (8 - (lg_sl ([.ref x, .int f0, .int g0, .int d0, .int k0])).length) Slot.unset).toArray = ls at hl ⊢
  have hl : lv_has ls 8 [(0, .ref x), (1, .int f0), (2, .int g0), (3, .int d0), (4, .int k0)] := hl
  refine lv_aload_n hx hb dX11_fitting_0 rfl (lv_at hl 0 rfl) ?_
  refine lv_iload_n hx hb dX11_fitting_1 rfl (lv_at hl 1 rfl) ?_
  refine lv_iload_n hx hb dX11_fitting_2 rfl (lv_at hl 2 rfl) ?_
  refine lv_iload_n hx hb dX11_fitting_3 rfl (lv_at hl 3 rfl) ?_
  have hPc := hP.sub (ws' := [(x, .inr (11, [.ref tp, .ref tg, .ref rw, .ref tr, .ref ch, .null, .int 1])), (tg, .inr (9, [.ref gf, .ref gr, .int 0, .int 0, .ref gz]))]) [0, 1] rfl
  have hKc := hK.sub (tys' := []) [] rfl
  refine vp_callSi (va_Run.run (va_runV (As := [.int f0, .int g0, .int d0]) (rest := []) ⟨hx, hb, hml, hown, hts⟩ (k_rulesBetween0 l dC dI x tp tg rw tr ch gf gr gz f0 g0 d0) (cwV 3 hts gX11_fitting_X11_rulesBetween rfl rfl rfl (by decide +kernel) ⟨Nat.le_of_ble_eq_true rfl, Nat.le_of_ble_eq_true rfl⟩) ⟨fun a U g mk q => by obtain ⟨q0, qP, qK⟩ := q; exact ⟨q0, qP, va_K.moved (u := U) (U := U.calling g mk a) (Vm.Alike.refl U.vm) qK⟩, va_recv hKc hPc (ci := 11) (q0 := 0) rfl rfl, fun U hU hW => ⟨rfl, by rw [hU]; exact hPc, va_K.moved hW.alike hKc⟩⟩ rfl rfl hl.1 rfl (lv_room (Nat.le_of_ble_eq_true rfl)) dX11_fitting_4 ⟨Nat.le_of_ble_eq_true rfl, Nat.le_of_ble_eq_true rfl⟩)) (fun r_2 hw_1 => ?_)
  obtain rfl : r_2 = (-1) := hw_1
  refine lv_istore (lv' := [(5, .int (-1)), (0, .ref x), (1, .int f0), (2, .int g0), (3, .int d0), (4, .int k0)]) hx hb dX11_fitting_7 hl (by decide) rfl (fun ls hl => ?_)
  refine lv_iload hx hb dX11_fitting_9 (lv_at hl 0 rfl) ?_
  refine lv_iconst (v := (-1)) hx hb dX11_fitting_11 (by decide) ?_
  refine lv_icmp_ne (tgt := 17) hx hb dX11_fitting_12 (by decide) (fun c_3 => ?_) (fun c_3 => ?_)
  · exact absurd (by decide) c_3
  refine lv_iconst (v := (-1)) hx hb dX11_fitting_15 (by decide) ?_
  exact W.iret (v := (-1)) hx hb hr (fun t ht hW => ⟨(-1), rfl, rfl, ht⟩) (fun q h => absurd h List.not_mem_nil) dX11_fitting_16
set_option maxHeartbeats 4000000 in
set_option maxRecDepth 100000 in
/-- X11_row -/
theorem k_row0 (l : Launch) (dC : Nat → ClassId) (dI : Nat → Nat → Nat) (sz : Nat) (x : Nat) (tp : Nat) (tg : Nat) (rw : Nat) (tr : Nat) (ch : Nat) (rc : Nat) (ro : Nat) (cf : Nat) (cr : Nat) (d0 : Int32) : Met l yX11_row wsX11_row ({ frames := 2, cells := 0, slots := 0, locals := 42 }) (va_Pc [.ref x, .int d0] (fun U => U.heap.size = sz ∧ va_P (dC, dI) vwCl [(x, .inr (11, [.ref tp, .ref tg, .ref rw, .ref tr, .ref ch, .null, .int 1])), (rw, .inr (6, [.ref rc, .ref ro, .int 0, .int 0])), (rc, .inr (0, [.ref cf, .ref cr, .int 0]))] U.heap ∧ va_K (dC, dI) vwCl [] U ∧ va_D (fun _ => True) [(x, .inr (11, [.ref tp, .ref tg, .ref rw, .ref tr, .ref ch, .null, .int 1])), (rw, .inr (6, [.ref rc, .ref ro, .int 0, .int 0])), (rc, .inr (0, [.ref cf, .ref cr, .int 0]))])) (va_Qi (fun (r : Int32) (_ : Unit) => vP r (inR d0 0 999) 0 (-1)) (fun (_ : Unit) (_ : State) => True) (va_A [(x, .inr (11, [.ref tp, .ref tg, .ref rw, .ref tr, .ref ch, .null, .int 1])), (rw, .inr (6, [.ref rc, .ref ro, .int 0, .int 0])), (rc, .inr (0, [.ref cf, .ref cr, .int 0]))] sz)) 0 0 (va_A [(x, .inr (11, [.ref tp, .ref tg, .ref rw, .ref tr, .ref ch, .null, .int 1])), (rw, .inr (6, [.ref rc, .ref ro, .int 0, .int 0])), (rc, .inr (0, [.ref cf, .ref cr, .int 0]))] sz) := by
  refine Met.ofW (cc := cX11_row) (maxL := 3) (ret := (some .int)) (by decide) rfl ?_
  intro p e s m args below meth c s₁ B hml hv
  obtain ⟨rfl, hsz, hP, hK, hD0⟩ := hv
  have hx := B.exec
  have hb := B.bytes
  have hr := B.returns
  have hts := atoms_spec (ws := wsX11_row) B.pre
  have hown : s.vm.findClass RX11 = some m.cls := findClass_of_methodNamed B.named
  have hlocks := B.notSynchronized
  subst hsz
  have hD := hD0.self (sz := s.heap.size)
  generalize hAe : va_A [(x, .inr (11, [.ref tp, .ref tg, .ref rw, .ref tr, .ref ch, .null, .int 1])), (rw, .inr (6, [.ref rc, .ref ro, .int 0, .int 0])), (rc, .inr (0, [.ref cf, .ref cr, .int 0]))] s.heap.size = A at hD ⊢
  have hA : ∀ q : Nat, s.heap.size ≤ q → A q := fun q h => by rw [← hAe]; exact Or.inr h
  obtain ⟨H, hH⟩ : ∃ H : Heap, H = s.heap := ⟨_, rfl⟩
  have hS : va_S A s.heap H [] := by rw [hH]; exact va_S.rf
  rw [← hH] at hP ⊢
  have hP : va_P (dC, dI) vwCl [(x, .inr (11, [.ref tp, .ref tg, .ref rw, .ref tr, .ref ch, .null, .int 1])), (rw, .inr (6, [.ref rc, .ref ro, .int 0, .int 0])), (rc, .inr (0, [.ref cf, .ref cr, .int 0]))] H := hP
  have hl := lv_entry ([.ref x, .int d0]) (n := 3) (Nat.le_of_ble_eq_true rfl)
  rw [lg_entry_eq]
  generalize (lg_sl ([.ref x, .int d0]) ++ List.replicate (3 - (lg_sl ([.ref x, .int d0])).length) Slot.unset).toArray = ls at hl ⊢
  have hl : lv_has ls 3 [(0, .ref x), (1, .int d0)] := hl
  refine lv_iload_n hx hb dX11_row_0 rfl (lv_at hl 1 rfl) ?_
  have hPc := hP.sub (ws' := []) [] rfl
  have hKc := hK.sub (tys' := []) [] rfl
  refine vp_callSi (va_Run.run (va_runS (As := [.int d0]) (rest := []) ⟨hx, hb, hml, hown, hts⟩ (k_isDay l dC dI d0) (va_cwS 1 hts gX11_row_X11_isDay rfl rfl rfl (by decide +kernel) ⟨Nat.le_of_ble_eq_true rfl, Nat.le_of_ble_eq_true rfl⟩) ⟨fun a U g mk q => by obtain ⟨q0, qP, qK⟩ := q; exact ⟨q0, qP, va_K.moved (u := U) (U := U.calling g mk a) (Vm.Alike.refl U.vm) qK⟩, fun U hU hW => ⟨rfl, by rw [hU]; exact hPc, va_K.moved hW.alike hKc⟩⟩ rfl rfl hl.1 rfl (lv_room (Nat.le_of_ble_eq_true rfl)) dX11_row_1 ⟨Nat.le_of_ble_eq_true rfl, Nat.le_of_ble_eq_true rfl⟩)) (fun r_2 hw_1 => ?_)
  rcases hw_1 with ⟨rfl, hw_1⟩ | ⟨rfl, hw_1⟩
  · refine lv_if_ne (tgt := 9) hx hb dX11_row_4 (by decide) (fun c_3 => ?_) (fun c_3 => ?_)
    rotate_left
    · exact absurd c_3 (by decide)
    refine lv_aload_n hx hb dX11_row_9 rfl (lv_at hl 0 rfl) ?_
    refine va_get (D := (dC, dI)) (ci := 11) (v := .ref rw) (C := RX11) (T := TX11) (N := 7) hx hb hts (by decide +kernel) hown hK hP 0 rfl rfl 2 (by decide) (hts (.fieldLink RX11 26 "JoinBench" "row" "LJoinBench$Row;") (by decide +kernel)) (fun _ h9 => h9) rfl dX11_row_10 ?_
    refine va_get (D := (dC, dI)) (ci := 6) (v := .ref rc) (C := RX6) (T := TX6) (N := 4) hx hb hts (by decide +kernel) hown hK hP 1 rfl rfl 0 (by decide) (hts (.fieldLink RX11 135 "JoinBench$Row" "chain" "LJoinBench$Chain;") (by decide +kernel)) (fun _ h9 => h9) rfl dX11_row_13 ?_
    refine va_get (D := (dC, dI)) (ci := 0) (v := .int 0) (C := RX0) (T := TX0) (N := 3) hx hb hts (by decide +kernel) hown hK hP 2 rfl rfl 2 (by decide) (hts (.fieldLink RX11 139 "JoinBench$Chain" "size" "I") (by decide +kernel)) (fun _ h9 => h9) rfl dX11_row_16 ?_
    refine lv_istore_n (lv' := [(2, .int 0), (0, .ref x), (1, .int d0)]) hx hb dX11_row_19 rfl hl (by decide) rfl (fun ls hl => ?_)
    refine lv_aload_n hx hb dX11_row_20 rfl (lv_at hl 1 rfl) ?_
    refine va_get (D := (dC, dI)) (ci := 11) (v := .ref rw) (C := RX11) (T := TX11) (N := 7) hx hb hts (by decide +kernel) hown hK hP 0 rfl rfl 2 (by decide) (hts (.fieldLink RX11 26 "JoinBench" "row" "LJoinBench$Row;") (by decide +kernel)) (fun _ h9 => h9) rfl dX11_row_21 ?_
    refine va_get (D := (dC, dI)) (ci := 6) (v := .ref rc) (C := RX6) (T := TX6) (N := 4) hx hb hts (by decide +kernel) hown hK hP 1 rfl rfl 0 (by decide) (hts (.fieldLink RX11 135 "JoinBench$Row" "chain" "LJoinBench$Chain;") (by decide +kernel)) (fun _ h9 => h9) rfl dX11_row_24 ?_
    refine lv_iconst (v := 0) hx hb dX11_row_27 (by decide) ?_
    refine va_put (D := (dC, dI)) (ci := 0) (v := .int 0) (ty := .int) (C := RX0) (T := TX0) (N := 3) hx hb hts (by decide +kernel) tyX0 tyX0_ok nmX0 hown hK hP hD hS 2 rfl rfl 2 (by decide) (hts (.fieldLink RX11 139 "JoinBench$Chain" "size" "I") (by decide +kernel)) (fun _ h9 => h9) rfl (by decide +kernel) rfl rfl (Nat.le_of_ble_eq_true rfl) dX11_row_28 (fun H locs hP hD hS => ?_)
    have hP : va_P (dC, dI) vwCl [(x, .inr (11, [.ref tp, .ref tg, .ref rw, .ref tr, .ref ch, .null, .int 1])), (rw, .inr (6, [.ref rc, .ref ro, .int 0, .int 0])), (rc, .inr (0, [.ref cf, .ref cr, .int 0]))] H := hP
    have hD : va_D A [(x, .inr (11, [.ref tp, .ref tg, .ref rw, .ref tr, .ref ch, .null, .int 1])), (rw, .inr (6, [.ref rc, .ref ro, .int 0, .int 0])), (rc, .inr (0, [.ref cf, .ref cr, .int 0]))] := hD
    refine lv_aload_n hx hb dX11_row_31 rfl (lv_at hl 1 rfl) ?_
    refine va_get (D := (dC, dI)) (ci := 11) (v := .ref rw) (C := RX11) (T := TX11) (N := 7) hx hb hts (by decide +kernel) hown hK hP 0 rfl rfl 2 (by decide) (hts (.fieldLink RX11 26 "JoinBench" "row" "LJoinBench$Row;") (by decide +kernel)) (fun _ h9 => h9) rfl dX11_row_32 ?_
    refine lv_iload_n hx hb dX11_row_35 rfl (lv_at hl 2 rfl) ?_
    refine va_put (D := (dC, dI)) (ci := 6) (v := .int d0) (ty := .int) (C := RX6) (T := TX6) (N := 4) hx hb hts (by decide +kernel) tyX6 tyX6_ok nmX6 hown hK hP hD hS 1 rfl rfl 2 (by decide) (hts (.fieldLink RX11 142 "JoinBench$Row" "day" "I") (by decide +kernel)) (fun _ h9 => h9) rfl (by decide +kernel) rfl rfl (Nat.le_of_ble_eq_true rfl) dX11_row_36 (fun H locs hP hD hS => ?_)
    have hP : va_P (dC, dI) vwCl [(x, .inr (11, [.ref tp, .ref tg, .ref rw, .ref tr, .ref ch, .null, .int 1])), (rw, .inr (6, [.ref rc, .ref ro, .int d0, .int 0])), (rc, .inr (0, [.ref cf, .ref cr, .int 0]))] H := hP
    have hD : va_D A [(x, .inr (11, [.ref tp, .ref tg, .ref rw, .ref tr, .ref ch, .null, .int 1])), (rw, .inr (6, [.ref rc, .ref ro, .int d0, .int 0])), (rc, .inr (0, [.ref cf, .ref cr, .int 0]))] := hD
    refine lv_iload_n hx hb dX11_row_39 rfl (lv_at hl 0 rfl) ?_
    refine W.widen (k := 0) (n := 0) (Nat.le_of_ble_eq_true rfl) (Nat.le_of_ble_eq_true rfl) ?_
    exact W.iret (v := 0) hx hb hr (fun t ht hW => ⟨⟨0, (), rfl, vP_t (by simp [hw_1]), trivial⟩, hS.F ht⟩) hS.2.2 dX11_row_40
  · refine lv_if_ne (tgt := 9) hx hb dX11_row_4 (by decide) (fun c_4 => ?_) (fun c_4 => ?_)
    · exact absurd (by decide) c_4
    refine lv_iconst (v := (-1)) hx hb dX11_row_7 (by decide) ?_
    refine W.widen (k := 0) (n := 0) (Nat.le_of_ble_eq_true rfl) (Nat.le_of_ble_eq_true rfl) ?_
    exact W.iret (v := (-1)) hx hb hr (fun t ht hW => ⟨⟨(-1), (), rfl, vP_f (by simp [hw_1]), trivial⟩, hS.F ht⟩) hS.2.2 dX11_row_8
set_option maxHeartbeats 4000000 in
set_option maxRecDepth 100000 in
/-- X11_joins -/
theorem k_joins0 (l : Launch) (dC : Nat → ClassId) (dI : Nat → Nat → Nat) (x : Nat) (tp : Nat) (tg : Nat) (rw : Nat) (tr : Nat) (ch : Nat) (gf : Nat) (gr : Nat) (gz : Nat) (f0 : Int32) (r0 : Int32) : Met l yX11_joins wsX11_joins ({ frames := 1, cells := 0, slots := 0, locals := 21 }) (va_Pc [.ref x, .int f0, .int r0] (fun U => va_P (dC, dI) vwCl [(x, .inr (11, [.ref tp, .ref tg, .ref rw, .ref tr, .ref ch, .null, .int 1])), (tg, .inr (9, [.ref gf, .ref gr, .int 0, .int 0, .ref gz]))] U.heap ∧ va_K (dC, dI) vwCl [] U)) (vp_Si (fun r => r = -1)) 0 0 (fun _ => False) := by
  refine Met.ofW (cc := cX11_joins) (maxL := 5) (ret := (some .int)) (by decide) rfl ?_
  intro p e s m args below meth c s₁ B hml hv
  obtain ⟨rfl, hP, hK⟩ := hv
  have hx := B.exec
  have hb := B.bytes
  have hr := B.returns
  have hts := atoms_spec (ws := wsX11_joins) B.pre
  have hown : s.vm.findClass RX11 = some m.cls := findClass_of_methodNamed B.named
  have hlocks := B.notSynchronized
  have hP : va_P (dC, dI) vwCl [(x, .inr (11, [.ref tp, .ref tg, .ref rw, .ref tr, .ref ch, .null, .int 1])), (tg, .inr (9, [.ref gf, .ref gr, .int 0, .int 0, .ref gz]))] s.heap := hP
  have hl := lv_entry ([.ref x, .int f0, .int r0]) (n := 5) (Nat.le_of_ble_eq_true rfl)
  rw [lg_entry_eq]
  generalize (lg_sl ([.ref x, .int f0, .int r0]) ++ List.replicate (5 - (lg_sl ([.ref x, .int f0, .int r0])).length) Slot.unset).toArray = ls at hl ⊢
  have hl : lv_has ls 5 [(0, .ref x), (1, .int f0), (2, .int r0)] := hl
  refine lv_aload_n hx hb dX11_joins_0 rfl (lv_at hl 0 rfl) ?_
  refine va_get (D := (dC, dI)) (ci := 11) (v := .ref tg) (C := RX11) (T := TX11) (N := 7) hx hb hts (by decide +kernel) hown hK hP 0 rfl rfl 1 (by decide) (hts (.fieldLink RX11 19 "JoinBench" "tongue" "LJoinBench$Tongue;") (by decide +kernel)) (fun _ h9 => h9) rfl dX11_joins_1 ?_
  refine lv_iload_n hx hb dX11_joins_4 rfl (lv_at hl 1 rfl) ?_
  have hPc := hP.sub (ws' := [(tg, .inr (9, [.ref gf, .ref gr, .int 0, .int 0, .ref gz]))]) [1] rfl
  have hKc := hK.sub (tys' := []) [] rfl
  refine va_csq (va_Run.run (va_runV (As := [.int f0]) (rest := []) ⟨hx, hb, hml, hown, hts⟩ (k_formAt0 l dC dI tg gf gr gz f0) (cwV 1 hts gX11_joins_X9_formAt rfl rfl rfl (by decide +kernel) ⟨Nat.le_of_ble_eq_true rfl, Nat.le_of_ble_eq_true rfl⟩) ⟨fun a U g mk q => by obtain ⟨q0, qP, qK⟩ := q; exact ⟨q0, qP, va_K.moved (u := U) (U := U.calling g mk a) (Vm.Alike.refl U.vm) qK⟩, va_recv hKc hPc (ci := 9) (q0 := 0) rfl rfl, fun U hU hW => ⟨rfl, by rw [hU]; exact hPc, va_K.moved hW.alike hKc⟩⟩ rfl rfl hl.1 rfl (lv_room (Nat.le_of_ble_eq_true rfl)) dX11_joins_5 ⟨Nat.le_of_ble_eq_true rfl, Nat.le_of_ble_eq_true rfl⟩)) (fun r hw_1 => ?_)
  obtain rfl : r = none := hw_1
  refine W.eq (g2 := F0 m 8 ls [.null]) rfl ?_
  refine lv_astore_nN (lv' := [(3, .null), (0, .ref x), (1, .int f0), (2, .int r0)]) hx hb dX11_joins_8 rfl hl (by decide) rfl (fun ls hl => ?_)
  refine lv_aload_nN hx hb dX11_joins_9 rfl (lv_at hl 0 rfl) ?_
  refine lv_ifnullN (tgt := 28) hx hb dX11_joins_10 (by decide) ?_
  refine lv_iconst (v := (-1)) hx hb dX11_joins_28 (by decide) ?_
  exact W.iret (v := (-1)) hx hb hr (fun t ht hW => ⟨(-1), rfl, rfl, ht⟩) (fun q h => absurd h List.not_mem_nil) dX11_joins_29
set_option maxHeartbeats 4000000 in
set_option maxRecDepth 100000 in
/-- X6_join -/
theorem k_join0 (l : Launch) (dC : Nat → ClassId) (dI : Nat → Nat → Nat) (sz : Nat) (rw : Nat) (rc : Nat) (ro : Nat) (cf : Nat) (cr : Nat) : Met l yX6_join wsX6_join ({ frames := 0, cells := 0, slots := 0, locals := 0 }) (va_Pc [.ref rw] (fun U => U.heap.size = sz ∧ va_P (dC, dI) vwCl [(rw, .inr (6, [.ref rc, .ref ro, .int 0, .int 0])), (rc, .inr (0, [.ref cf, .ref cr, .int 0]))] U.heap ∧ va_K (dC, dI) vwCl [] U ∧ va_D (fun _ => True) [(rw, .inr (6, [.ref rc, .ref ro, .int 0, .int 0])), (rc, .inr (0, [.ref cf, .ref cr, .int 0]))])) (va_Qv (fun (u : Unit) => True) (fun (u : Unit) (t : State) => va_P (dC, dI) vwCl [(rw, .inr (6, [.ref rc, .ref ro, .int 0, .int 0])), (rc, .inr (0, [.ref cf, .ref cr, .int 0]))] t.heap ∧ va_K (dC, dI) vwCl [] t ∧ va_D (va_A [(rw, .inr (6, [.ref rc, .ref ro, .int 0, .int 0])), (rc, .inr (0, [.ref cf, .ref cr, .int 0]))] sz) [(rw, .inr (6, [.ref rc, .ref ro, .int 0, .int 0])), (rc, .inr (0, [.ref cf, .ref cr, .int 0]))]) (va_A [(rw, .inr (6, [.ref rc, .ref ro, .int 0, .int 0])), (rc, .inr (0, [.ref cf, .ref cr, .int 0]))] sz)) 0 0 (va_A [(rw, .inr (6, [.ref rc, .ref ro, .int 0, .int 0])), (rc, .inr (0, [.ref cf, .ref cr, .int 0]))] sz) := by
  refine Met.ofW (cc := cX6_join) (maxL := 4) (ret := none) (by decide) rfl ?_
  intro p e s m args below meth c s₁ B hml hv
  obtain ⟨rfl, hsz, hP, hK, hD0⟩ := hv
  have hx := B.exec
  have hb := B.bytes
  have hr := B.returns
  have hts := atoms_spec (ws := wsX6_join) B.pre
  have hown : s.vm.findClass RX6 = some m.cls := findClass_of_methodNamed B.named
  have hlocks := B.notSynchronized
  subst hsz
  have hD := hD0.self (sz := s.heap.size)
  generalize hAe : va_A [(rw, .inr (6, [.ref rc, .ref ro, .int 0, .int 0])), (rc, .inr (0, [.ref cf, .ref cr, .int 0]))] s.heap.size = A at hD ⊢
  have hA : ∀ q : Nat, s.heap.size ≤ q → A q := fun q h => by rw [← hAe]; exact Or.inr h
  obtain ⟨H, hH⟩ : ∃ H : Heap, H = s.heap := ⟨_, rfl⟩
  have hS : va_S A s.heap H [] := by rw [hH]; exact va_S.rf
  rw [← hH] at hP ⊢
  have hP : va_P (dC, dI) vwCl [(rw, .inr (6, [.ref rc, .ref ro, .int 0, .int 0])), (rc, .inr (0, [.ref cf, .ref cr, .int 0]))] H := hP
  have hl := lv_entry ([.ref rw]) (n := 4) (Nat.le_of_ble_eq_true rfl)
  rw [lg_entry_eq]
  generalize (lg_sl ([.ref rw]) ++ List.replicate (4 - (lg_sl ([.ref rw])).length) Slot.unset).toArray = ls at hl ⊢
  have hl : lv_has ls 4 [(0, .ref rw)] := hl
  refine lv_aload_n hx hb dX6_join_0 rfl (lv_at hl 0 rfl) ?_
  refine lv_iconst (v := 0) hx hb dX6_join_1 (by decide) ?_
  refine va_put (D := (dC, dI)) (ci := 6) (v := .int 0) (ty := .int) (C := RX6) (T := TX6) (N := 4) hx hb hts (by decide +kernel) tyX6 tyX6_ok nmX6 hown hK hP hD hS 0 rfl rfl 3 (by decide) (hts (.fieldLink RX6 26 "JoinBench$Row" "outSize" "I") (by decide +kernel)) (fun _ h9 => h9) rfl (by decide +kernel) rfl rfl (Nat.le_of_ble_eq_true rfl) dX6_join_2 (fun H locs hP hD hS => ?_)
  have hP : va_P (dC, dI) vwCl [(rw, .inr (6, [.ref rc, .ref ro, .int 0, .int 0])), (rc, .inr (0, [.ref cf, .ref cr, .int 0]))] H := hP
  have hD : va_D A [(rw, .inr (6, [.ref rc, .ref ro, .int 0, .int 0])), (rc, .inr (0, [.ref cf, .ref cr, .int 0]))] := hD
  refine lv_iconst (v := 0) hx hb dX6_join_5 (by decide) ?_
  refine lv_istore_n (lv' := [(1, .int 0), (0, .ref rw)]) hx hb dX6_join_6 rfl hl (by decide) rfl (fun ls hl => ?_)
  refine lv_iload_n hx hb dX6_join_7 rfl (lv_at hl 0 rfl) ?_
  refine lv_aload_n hx hb dX6_join_8 rfl (lv_at hl 1 rfl) ?_
  refine va_get (D := (dC, dI)) (ci := 6) (v := .ref rc) (C := RX6) (T := TX6) (N := 4) hx hb hts (by decide +kernel) hown hK hP 0 rfl rfl 0 (by decide) (hts (.fieldLink RX6 12 "JoinBench$Row" "chain" "LJoinBench$Chain;") (by decide +kernel)) (fun _ h9 => h9) rfl dX6_join_9 ?_
  refine va_get (D := (dC, dI)) (ci := 0) (v := .int 0) (C := RX0) (T := TX0) (N := 3) hx hb hts (by decide +kernel) hown hK hP 1 rfl rfl 2 (by decide) (hts (.fieldLink RX6 29 "JoinBench$Chain" "size" "I") (by decide +kernel)) (fun _ h9 => h9) rfl dX6_join_12 ?_
  refine lv_icmp_ge (tgt := 92) hx hb dX6_join_15 (by decide) (fun c_1 => ?_) (fun c_1 => ?_)
  rotate_left
  · exact absurd (by decide) c_1
  have hP9 := hP.sub (ws' := [(rw, .inr (6, [.ref rc, .ref ro, .int 0, .int 0])), (rc, .inr (0, [.ref cf, .ref cr, .int 0]))]) [0, 1] rfl
  have hD9 := hD.sub (ws' := [(rw, .inr (6, [.ref rc, .ref ro, .int 0, .int 0])), (rc, .inr (0, [.ref cf, .ref cr, .int 0]))]) [0, 1] (by decide) rfl
  have hK9 := hK.sub (tys' := []) [] rfl
  refine W.widen (k := 0) (n := 0) (Nat.le_of_ble_eq_true rfl) (Nat.le_of_ble_eq_true rfl) ?_
  exact W.vret hx hb hr (fun t ht hW => ⟨⟨(), rfl, trivial, by rw [ht]; exact hP9, va_K.moved hW.alike hK9, hD9⟩, hS.F ht⟩) hS.2.2 dX6_join_92
set_option maxHeartbeats 4000000 in
set_option maxRecDepth 100000 in
/-- X11_joined -/
theorem k_joined0 (l : Launch) (dC : Nat → ClassId) (dI : Nat → Nat → Nat) (sz : Nat) (x : Nat) (tp : Nat) (tg : Nat) (rw : Nat) (tr : Nat) (ch : Nat) (rc : Nat) (ro : Nat) (cf : Nat) (cr : Nat) : Met l yX11_joined wsX11_joined ({ frames := 1, cells := 0, slots := 0, locals := 23 }) (va_Pc [.ref x] (fun U => U.heap.size = sz ∧ va_P (dC, dI) vwCl [(x, .inr (11, [.ref tp, .ref tg, .ref rw, .ref tr, .ref ch, .null, .int 1])), (rw, .inr (6, [.ref rc, .ref ro, .int 0, .int 0])), (rc, .inr (0, [.ref cf, .ref cr, .int 0]))] U.heap ∧ va_K (dC, dI) vwCl [] U ∧ va_D (fun _ => True) [(x, .inr (11, [.ref tp, .ref tg, .ref rw, .ref tr, .ref ch, .null, .int 1])), (rw, .inr (6, [.ref rc, .ref ro, .int 0, .int 0])), (rc, .inr (0, [.ref cf, .ref cr, .int 0]))])) (va_Qi (fun (r : Int32) (_ : Unit) => r = 0) (fun (_ : Unit) (_ : State) => True) (va_A [(x, .inr (11, [.ref tp, .ref tg, .ref rw, .ref tr, .ref ch, .null, .int 1])), (rw, .inr (6, [.ref rc, .ref ro, .int 0, .int 0])), (rc, .inr (0, [.ref cf, .ref cr, .int 0]))] sz)) 0 0 (va_A [(x, .inr (11, [.ref tp, .ref tg, .ref rw, .ref tr, .ref ch, .null, .int 1])), (rw, .inr (6, [.ref rc, .ref ro, .int 0, .int 0])), (rc, .inr (0, [.ref cf, .ref cr, .int 0]))] sz) := by
  refine Met.ofW (cc := cX11_joined) (maxL := 1) (ret := (some .int)) (by decide) rfl ?_
  intro p e s m args below meth c s₁ B hml hv
  obtain ⟨rfl, hsz, hP, hK, hD0⟩ := hv
  have hx := B.exec
  have hb := B.bytes
  have hr := B.returns
  have hts := atoms_spec (ws := wsX11_joined) B.pre
  have hown : s.vm.findClass RX11 = some m.cls := findClass_of_methodNamed B.named
  have hlocks := B.notSynchronized
  subst hsz
  have hD := hD0.self (sz := s.heap.size)
  generalize hAe : va_A [(x, .inr (11, [.ref tp, .ref tg, .ref rw, .ref tr, .ref ch, .null, .int 1])), (rw, .inr (6, [.ref rc, .ref ro, .int 0, .int 0])), (rc, .inr (0, [.ref cf, .ref cr, .int 0]))] s.heap.size = A at hD ⊢
  have hA : ∀ q : Nat, s.heap.size ≤ q → A q := fun q h => by rw [← hAe]; exact Or.inr h
  obtain ⟨H, hH⟩ : ∃ H : Heap, H = s.heap := ⟨_, rfl⟩
  have hS : va_S A s.heap H [] := by rw [hH]; exact va_S.rf
  rw [← hH] at hP ⊢
  have hP : va_P (dC, dI) vwCl [(x, .inr (11, [.ref tp, .ref tg, .ref rw, .ref tr, .ref ch, .null, .int 1])), (rw, .inr (6, [.ref rc, .ref ro, .int 0, .int 0])), (rc, .inr (0, [.ref cf, .ref cr, .int 0]))] H := hP
  have hl := lv_entry ([.ref x]) (n := 1) (Nat.le_of_ble_eq_true rfl)
  rw [lg_entry_eq]
  generalize (lg_sl ([.ref x]) ++ List.replicate (1 - (lg_sl ([.ref x])).length) Slot.unset).toArray = ls at hl ⊢
  have hl : lv_has ls 1 [(0, .ref x)] := hl
  refine lv_aload_n hx hb dX11_joined_0 rfl (lv_at hl 0 rfl) ?_
  refine va_get (D := (dC, dI)) (ci := 11) (v := .ref rw) (C := RX11) (T := TX11) (N := 7) hx hb hts (by decide +kernel) hown hK hP 0 rfl rfl 2 (by decide) (hts (.fieldLink RX11 26 "JoinBench" "row" "LJoinBench$Row;") (by decide +kernel)) (fun _ h9 => h9) rfl dX11_joined_1 ?_
  have hPc := hP.sub (ws' := [(rw, .inr (6, [.ref rc, .ref ro, .int 0, .int 0])), (rc, .inr (0, [.ref cf, .ref cr, .int 0]))]) [1, 2] rfl
  have hDc := hD.sub (ws' := [(rw, .inr (6, [.ref rc, .ref ro, .int 0, .int 0])), (rc, .inr (0, [.ref cf, .ref cr, .int 0]))]) [1, 2] (by decide) rfl
  have hKc := hK.sub (tys' := []) [] rfl
  have hFc := va_free (wc := [(rw, .inr (6, [.ref rc, .ref ro, .int 0, .int 0])), (rc, .inr (0, [.ref cf, .ref cr, .int 0]))]) hD hS hA [1, 2] rfl
  refine va_callv (va_runV (As := []) (rest := []) ⟨hx, hb, hml, hown, hts⟩ (k_join0 l dC dI H.size rw rc ro cf cr) (cwV 0 hts gX11_joined_X6_join rfl rfl rfl (by decide +kernel) ⟨Nat.le_of_ble_eq_true rfl, Nat.le_of_ble_eq_true rfl⟩) ⟨fun a U g mk q => by obtain ⟨q0, q1, qP, qK, qD⟩ := q; exact ⟨q0, q1, qP, va_K.moved (u := U) (U := U.calling g mk a) (Vm.Alike.refl U.vm) qK, qD⟩, va_recv hKc hPc (ci := 6) (q0 := 0) rfl rfl, fun U hU hW => ⟨rfl, by rw [hU], by rw [hU]; exact hPc, va_K.moved hW.alike hKc, hDc.weaken (fun _ _ _ _ => trivial)⟩⟩ rfl rfl hl.1 rfl (lv_room (Nat.le_of_ble_eq_true rfl)) dX11_joined_4 ⟨Nat.le_of_ble_eq_true rfl, Nat.le_of_ble_eq_true rfl⟩) hS (fun q _ h => hFc q h) hFc (fun u t H1 locs ht hvm hw_1 hB hz1 hk1 hS => ?_)
  obtain ⟨hP1, hK1, hD1⟩ := hB
  rw [ht] at hP1
  have hK1 := va_K.moved hvm.symm hK1
  obtain ⟨hP, hD⟩ := va_join (wr := [(x, .inr (11, [.ref tp, .ref tg, .ref rw, .ref tr, .ref ch, .null, .int 1]))]) (w1 := [(rw, .inr (6, [.ref rc, .ref ro, .int 0, .int 0])), (rc, .inr (0, [.ref cf, .ref cr, .int 0]))]) hP hD [1, 2] [0] rfl rfl (by decide) (by decide) hk1 hFc hP1 hD1
  clear hPc hDc hFc hk1 hz1
  generalize H1 = H at hP hS ⊢
  have hP : va_P (dC, dI) vwCl [(x, .inr (11, [.ref tp, .ref tg, .ref rw, .ref tr, .ref ch, .null, .int 1])), (rw, .inr (6, [.ref rc, .ref ro, .int 0, .int 0])), (rc, .inr (0, [.ref cf, .ref cr, .int 0]))] H := hP
  have hD : va_D A [(x, .inr (11, [.ref tp, .ref tg, .ref rw, .ref tr, .ref ch, .null, .int 1])), (rw, .inr (6, [.ref rc, .ref ro, .int 0, .int 0])), (rc, .inr (0, [.ref cf, .ref cr, .int 0]))] := hD
  refine lv_aload_n hx hb dX11_joined_7 rfl (lv_at hl 0 rfl) ?_
  refine va_get (D := (dC, dI)) (ci := 11) (v := .ref rw) (C := RX11) (T := TX11) (N := 7) hx hb hts (by decide +kernel) hown hK hP 0 rfl rfl 2 (by decide) (hts (.fieldLink RX11 26 "JoinBench" "row" "LJoinBench$Row;") (by decide +kernel)) (fun _ h9 => h9) rfl dX11_joined_8 ?_
  refine va_get (D := (dC, dI)) (ci := 6) (v := .int 0) (C := RX6) (T := TX6) (N := 4) hx hb hts (by decide +kernel) hown hK hP 1 rfl rfl 3 (by decide) (hts (.fieldLink RX11 164 "JoinBench$Row" "outSize" "I") (by decide +kernel)) (fun _ h9 => h9) rfl dX11_joined_11 ?_
  refine W.widen (k := 0) (n := 0) (Nat.le_of_ble_eq_true rfl) (Nat.le_of_ble_eq_true rfl) ?_
  exact W.iret (v := 0) hx hb hr (fun t ht hW => ⟨⟨0, (), rfl, rfl, trivial⟩, hS.F ht⟩) hS.2.2 dX11_joined_14
set_option maxHeartbeats 4000000 in
set_option maxRecDepth 100000 in
/-- X11_letter -/
theorem k_letter0 (l : Launch) (dC : Nat → ClassId) (dI : Nat → Nat → Nat) (x : Nat) (tp : Nat) (tg : Nat) (rw : Nat) (tr : Nat) (ch : Nat) (rc : Nat) (ro : Nat) (i0 : Int32) : Met l yX11_letter wsX11_letter ({ frames := 0, cells := 0, slots := 0, locals := 0 }) (va_Pc [.ref x, .int i0] (fun U => va_P (dC, dI) vwCl [(x, .inr (11, [.ref tp, .ref tg, .ref rw, .ref tr, .ref ch, .null, .int 1])), (rw, .inr (6, [.ref rc, .ref ro, .int 0, .int 0]))] U.heap ∧ va_K (dC, dI) vwCl [] U)) (vp_Si (fun r => r = -1)) 0 0 (fun _ => False) := by
  refine Met.ofW (cc := cX11_letter) (maxL := 2) (ret := (some .int)) (by decide) rfl ?_
  intro p e s m args below meth c s₁ B hml hv
  obtain ⟨rfl, hP, hK⟩ := hv
  have hx := B.exec
  have hb := B.bytes
  have hr := B.returns
  have hts := atoms_spec (ws := wsX11_letter) B.pre
  have hown : s.vm.findClass RX11 = some m.cls := findClass_of_methodNamed B.named
  have hlocks := B.notSynchronized
  have hP : va_P (dC, dI) vwCl [(x, .inr (11, [.ref tp, .ref tg, .ref rw, .ref tr, .ref ch, .null, .int 1])), (rw, .inr (6, [.ref rc, .ref ro, .int 0, .int 0]))] s.heap := hP
  have hl := lv_entry ([.ref x, .int i0]) (n := 2) (Nat.le_of_ble_eq_true rfl)
  rw [lg_entry_eq]
  generalize (lg_sl ([.ref x, .int i0]) ++ List.replicate (2 - (lg_sl ([.ref x, .int i0])).length) Slot.unset).toArray = ls at hl ⊢
  have hl : lv_has ls 2 [(0, .ref x), (1, .int i0)] := hl
  refine lv_iload_n hx hb dX11_letter_0 rfl (lv_at hl 1 rfl) ?_
  refine lv_if_lt (tgt := 27) hx hb dX11_letter_1 (by decide) (fun c_1 => ?_) (fun c_1 => ?_)
  · refine lv_iconst (v := (-1)) hx hb dX11_letter_27 (by decide) ?_
    exact W.iret (v := (-1)) hx hb hr (fun t ht hW => ⟨(-1), rfl, rfl, ht⟩) (fun q h => absurd h List.not_mem_nil) dX11_letter_28
  · refine lv_iload_n hx hb dX11_letter_4 rfl (lv_at hl 1 rfl) ?_
    refine lv_aload_n hx hb dX11_letter_5 rfl (lv_at hl 0 rfl) ?_
    refine va_get (D := (dC, dI)) (ci := 11) (v := .ref rw) (C := RX11) (T := TX11) (N := 7) hx hb hts (by decide +kernel) hown hK hP 0 rfl rfl 2 (by decide) (hts (.fieldLink RX11 26 "JoinBench" "row" "LJoinBench$Row;") (by decide +kernel)) (fun _ h9 => h9) rfl dX11_letter_6 ?_
    refine va_get (D := (dC, dI)) (ci := 6) (v := .int 0) (C := RX6) (T := TX6) (N := 4) hx hb hts (by decide +kernel) hown hK hP 1 rfl rfl 3 (by decide) (hts (.fieldLink RX11 164 "JoinBench$Row" "outSize" "I") (by decide +kernel)) (fun _ h9 => h9) rfl dX11_letter_9 ?_
    refine lv_icmp_ge (tgt := 27) hx hb dX11_letter_12 (by decide) (fun c_2 => ?_) (fun c_2 => ?_)
    rotate_left
    · exact absurd (le_nlt c_1) c_2
    refine lv_iconst (v := (-1)) hx hb dX11_letter_27 (by decide) ?_
    exact W.iret (v := (-1)) hx hb hr (fun t ht hW => ⟨(-1), rfl, rfl, ht⟩) (fun q h => absurd h List.not_mem_nil) dX11_letter_28
set_option maxHeartbeats 4000000 in
set_option maxRecDepth 100000 in
/-- X11_back -/
theorem k_back0 (l : Launch) (dC : Nat → ClassId) (dI : Nat → Nat → Nat) (x : Nat) (tp : Nat) (tg : Nat) (rw : Nat) (tr : Nat) (ch : Nat) (rc : Nat) (ro : Nat) (tb : Nat) : Met l yX11_back wsX11_back ({ frames := 1, cells := 0, slots := 0, locals := 21 }) (va_Pc [.ref x] (fun U => va_P (dC, dI) vwCl [(x, .inr (11, [.ref tp, .ref tg, .ref rw, .ref tr, .ref ch, .null, .int 1])), (rw, .inr (6, [.ref rc, .ref ro, .int 0, .int 0])), (tp, .inr (8, [.ref tb, .int 0]))] U.heap ∧ va_K (dC, dI) vwCl [] U)) (vp_Si (fun r => r = 0)) 0 0 (fun _ => False) := by
  refine Met.ofW (cc := cX11_back) (maxL := 2) (ret := (some .int)) (by decide) rfl ?_
  intro p e s m args below meth c s₁ B hml hv
  obtain ⟨rfl, hP, hK⟩ := hv
  have hx := B.exec
  have hb := B.bytes
  have hr := B.returns
  have hts := atoms_spec (ws := wsX11_back) B.pre
  have hown : s.vm.findClass RX11 = some m.cls := findClass_of_methodNamed B.named
  have hlocks := B.notSynchronized
  have hP : va_P (dC, dI) vwCl [(x, .inr (11, [.ref tp, .ref tg, .ref rw, .ref tr, .ref ch, .null, .int 1])), (rw, .inr (6, [.ref rc, .ref ro, .int 0, .int 0])), (tp, .inr (8, [.ref tb, .int 0]))] s.heap := hP
  have hl := lv_entry ([.ref x]) (n := 2) (Nat.le_of_ble_eq_true rfl)
  rw [lg_entry_eq]
  generalize (lg_sl ([.ref x]) ++ List.replicate (2 - (lg_sl ([.ref x])).length) Slot.unset).toArray = ls at hl ⊢
  have hl : lv_has ls 2 [(0, .ref x)] := hl
  refine lv_aload_n hx hb dX11_back_0 rfl (lv_at hl 0 rfl) ?_
  refine va_get (D := (dC, dI)) (ci := 11) (v := .ref tp) (C := RX11) (T := TX11) (N := 7) hx hb hts (by decide +kernel) hown hK hP 0 rfl rfl 0 (by decide) (hts (.fieldLink RX11 12 "JoinBench" "tape" "LJoinBench$Tape;") (by decide +kernel)) (fun _ h9 => h9) rfl dX11_back_1 ?_
  refine lv_aload_n hx hb dX11_back_4 rfl (lv_at hl 0 rfl) ?_
  refine va_get (D := (dC, dI)) (ci := 11) (v := .ref rw) (C := RX11) (T := TX11) (N := 7) hx hb hts (by decide +kernel) hown hK hP 0 rfl rfl 2 (by decide) (hts (.fieldLink RX11 26 "JoinBench" "row" "LJoinBench$Row;") (by decide +kernel)) (fun _ h9 => h9) rfl dX11_back_5 ?_
  refine va_get (D := (dC, dI)) (ci := 6) (v := .int 0) (C := RX6) (T := TX6) (N := 4) hx hb hts (by decide +kernel) hown hK hP 1 rfl rfl 3 (by decide) (hts (.fieldLink RX11 164 "JoinBench$Row" "outSize" "I") (by decide +kernel)) (fun _ h9 => h9) rfl dX11_back_8 ?_
  have hPc := hP.sub (ws' := [(tp, .inr (8, [.ref tb, .int 0]))]) [2] rfl
  have hKc := hK.sub (tys' := []) [] rfl
  refine vp_callSi (va_Run.run (va_runV (As := [.int 0]) (rest := []) ⟨hx, hb, hml, hown, hts⟩ (k_hasRoomFor l dC dI tp tb 0 0) (cwV 1 hts gX11_back_X8_hasRoomFor rfl rfl rfl (by decide +kernel) ⟨Nat.le_of_ble_eq_true rfl, Nat.le_of_ble_eq_true rfl⟩) ⟨fun a U g mk q => by obtain ⟨q0, qP, qK⟩ := q; exact ⟨q0, qP, va_K.moved (u := U) (U := U.calling g mk a) (Vm.Alike.refl U.vm) qK⟩, va_recv hKc hPc (ci := 8) (q0 := 0) rfl rfl, fun U hU hW => ⟨rfl, by rw [hU]; exact hPc, va_K.moved hW.alike hKc⟩⟩ rfl rfl hl.1 rfl (lv_room (Nat.le_of_ble_eq_true rfl)) dX11_back_11 ⟨Nat.le_of_ble_eq_true rfl, Nat.le_of_ble_eq_true rfl⟩)) (fun r_2 hw_1 => ?_)
  rcases hw_1 with ⟨rfl, hw_1⟩ | ⟨rfl, hw_1⟩
  rotate_left
  · exact absurd (by decide) hw_1
  refine lv_if_ne (tgt := 19) hx hb dX11_back_14 (by decide) (fun c_3 => ?_) (fun c_3 => ?_)
  rotate_left
  · exact absurd c_3 (by decide)
  refine lv_iconst (v := 0) hx hb dX11_back_19 (by decide) ?_
  refine lv_istore_n (lv' := [(1, .int 0), (0, .ref x)]) hx hb dX11_back_20 rfl hl (by decide) rfl (fun ls hl => ?_)
  refine lv_iload_n hx hb dX11_back_21 rfl (lv_at hl 0 rfl) ?_
  refine lv_aload_n hx hb dX11_back_22 rfl (lv_at hl 1 rfl) ?_
  refine va_get (D := (dC, dI)) (ci := 11) (v := .ref rw) (C := RX11) (T := TX11) (N := 7) hx hb hts (by decide +kernel) hown hK hP 0 rfl rfl 2 (by decide) (hts (.fieldLink RX11 26 "JoinBench" "row" "LJoinBench$Row;") (by decide +kernel)) (fun _ h9 => h9) rfl dX11_back_23 ?_
  refine va_get (D := (dC, dI)) (ci := 6) (v := .int 0) (C := RX6) (T := TX6) (N := 4) hx hb hts (by decide +kernel) hown hK hP 1 rfl rfl 3 (by decide) (hts (.fieldLink RX11 164 "JoinBench$Row" "outSize" "I") (by decide +kernel)) (fun _ h9 => h9) rfl dX11_back_26 ?_
  refine lv_icmp_ge (tgt := 54) hx hb dX11_back_29 (by decide) (fun c_4 => ?_) (fun c_4 => ?_)
  rotate_left
  · exact absurd (by decide) c_4
  refine lv_aload_n hx hb dX11_back_54 rfl (lv_at hl 1 rfl) ?_
  refine va_get (D := (dC, dI)) (ci := 11) (v := .ref tp) (C := RX11) (T := TX11) (N := 7) hx hb hts (by decide +kernel) hown hK hP 0 rfl rfl 0 (by decide) (hts (.fieldLink RX11 12 "JoinBench" "tape" "LJoinBench$Tape;") (by decide +kernel)) (fun _ h9 => h9) rfl dX11_back_55 ?_
  refine va_get (D := (dC, dI)) (ci := 8) (v := .int 0) (C := RX8) (T := TX8) (N := 2) hx hb hts (by decide +kernel) hown hK hP 2 rfl rfl 1 (by decide) (hts (.fieldLink RX11 60 "JoinBench$Tape" "size" "I") (by decide +kernel)) (fun _ h9 => h9) rfl dX11_back_58 ?_
  exact W.iret (v := 0) hx hb hr (fun t ht hW => ⟨0, rfl, rfl, ht⟩) (fun q h => absurd h List.not_mem_nil) dX11_back_61
set_option maxHeartbeats 4000000 in
set_option maxRecDepth 100000 in
/-- X11_part -/
theorem k_part0 (l : Launch) (dC : Nat → ClassId) (dI : Nat → Nat → Nat) (sz : Nat) (x : Nat) (tp : Nat) (tg : Nat) (rw : Nat) (tr : Nat) (ch : Nat) (tb : Nat) (d0 : Int32) : Met l yX11_part wsX11_part ({ frames := 1, cells := 0, slots := 0, locals := 22 }) (va_Pc [.ref x, .int d0] (fun U => U.heap.size = sz ∧ va_P (dC, dI) vwCl [(x, .inr (11, [.ref tp, .ref tg, .ref rw, .ref tr, .ref ch, .null, .int 1])), (tp, .inr (8, [.ref tb, .int 0]))] U.heap ∧ va_K (dC, dI) vwCl [] U ∧ va_D (fun _ => True) [(x, .inr (11, [.ref tp, .ref tg, .ref rw, .ref tr, .ref ch, .null, .int 1])), (tp, .inr (8, [.ref tb, .int 0]))])) (va_Ql (fun (r : Int64) (_ : Unit) => r = -1) (fun (_ : Unit) (_ : State) => True) (va_A [(x, .inr (11, [.ref tp, .ref tg, .ref rw, .ref tr, .ref ch, .null, .int 1])), (tp, .inr (8, [.ref tb, .int 0]))] sz)) 0 0 (va_A [(x, .inr (11, [.ref tp, .ref tg, .ref rw, .ref tr, .ref ch, .null, .int 1])), (tp, .inr (8, [.ref tb, .int 0]))] sz) := by
  refine Met.ofW (cc := cX11_part) (maxL := 4) (ret := (some .long)) (by decide) rfl ?_
  intro p e s m args below meth c s₁ B hml hv
  obtain ⟨rfl, hsz, hP, hK, hD0⟩ := hv
  have hx := B.exec
  have hb := B.bytes
  have hr := B.returns
  have hts := atoms_spec (ws := wsX11_part) B.pre
  have hown : s.vm.findClass RX11 = some m.cls := findClass_of_methodNamed B.named
  have hlocks := B.notSynchronized
  subst hsz
  have hD := hD0.self (sz := s.heap.size)
  generalize hAe : va_A [(x, .inr (11, [.ref tp, .ref tg, .ref rw, .ref tr, .ref ch, .null, .int 1])), (tp, .inr (8, [.ref tb, .int 0]))] s.heap.size = A at hD ⊢
  have hA : ∀ q : Nat, s.heap.size ≤ q → A q := fun q h => by rw [← hAe]; exact Or.inr h
  obtain ⟨H, hH⟩ : ∃ H : Heap, H = s.heap := ⟨_, rfl⟩
  have hS : va_S A s.heap H [] := by rw [hH]; exact va_S.rf
  rw [← hH] at hP ⊢
  have hP : va_P (dC, dI) vwCl [(x, .inr (11, [.ref tp, .ref tg, .ref rw, .ref tr, .ref ch, .null, .int 1])), (tp, .inr (8, [.ref tb, .int 0]))] H := hP
  have hl := lv_entry ([.ref x, .int d0]) (n := 4) (Nat.le_of_ble_eq_true rfl)
  rw [lg_entry_eq]
  generalize (lg_sl ([.ref x, .int d0]) ++ List.replicate (4 - (lg_sl ([.ref x, .int d0])).length) Slot.unset).toArray = ls at hl ⊢
  have hl : lv_has ls 4 [(0, .ref x), (1, .int d0)] := hl
  refine lv_aload_n hx hb dX11_part_0 rfl (lv_at hl 0 rfl) ?_
  refine va_get (D := (dC, dI)) (ci := 11) (v := .ref tp) (C := RX11) (T := TX11) (N := 7) hx hb hts (by decide +kernel) hown hK hP 0 rfl rfl 0 (by decide) (hts (.fieldLink RX11 12 "JoinBench" "tape" "LJoinBench$Tape;") (by decide +kernel)) (fun _ h9 => h9) rfl dX11_part_1 ?_
  refine va_get (D := (dC, dI)) (ci := 8) (v := .int 0) (C := RX8) (T := TX8) (N := 2) hx hb hts (by decide +kernel) hown hK hP 1 rfl rfl 1 (by decide) (hts (.fieldLink RX11 60 "JoinBench$Tape" "size" "I") (by decide +kernel)) (fun _ h9 => h9) rfl dX11_part_4 ?_
  refine lv_iconst (v := 1) hx hb dX11_part_7 (by decide) ?_
  refine lv_bipush (v := 40) hx hb dX11_part_8 (by decide) ?_
  have hPc := hP.sub (ws' := []) [] rfl
  have hKc := hK.sub (tys' := []) [] rfl
  refine vp_callSi (va_Run.run (va_runS (As := [.int 0, .int 1, .int 40]) (rest := []) ⟨hx, hb, hml, hown, hts⟩ (k_within l dC dI 0 1 40) (va_cwS 3 hts gX11_part_X11_within rfl rfl rfl (by decide +kernel) ⟨Nat.le_of_ble_eq_true rfl, Nat.le_of_ble_eq_true rfl⟩) ⟨fun a U g mk q => by obtain ⟨q0, qP, qK⟩ := q; exact ⟨q0, qP, va_K.moved (u := U) (U := U.calling g mk a) (Vm.Alike.refl U.vm) qK⟩, fun U hU hW => ⟨rfl, by rw [hU]; exact hPc, va_K.moved hW.alike hKc⟩⟩ rfl rfl hl.1 rfl (lv_room (Nat.le_of_ble_eq_true rfl)) dX11_part_10 ⟨Nat.le_of_ble_eq_true rfl, Nat.le_of_ble_eq_true rfl⟩)) (fun r_2 hw_1 => ?_)
  rcases hw_1 with ⟨rfl, hw_1⟩ | ⟨rfl, hw_1⟩
  · exact absurd hw_1 (show ¬ inR 0 1 40 from fun q => absurd q (by unfold inR; decide))
  refine lv_if_eq (tgt := 37) hx hb dX11_part_13 (by decide) (fun c_3 => ?_) (fun c_3 => ?_)
  rotate_left
  · exact absurd (by decide) c_3
  refine lv_iconst (v := 0) hx hb dX11_part_37 (by decide) ?_
  refine lv_istore_n (lv' := [(2, .int 0), (0, .ref x), (1, .int d0)]) hx hb dX11_part_38 rfl hl (by decide) rfl (fun ls hl => ?_)
  refine lv_aload_n hx hb dX11_part_39 rfl (lv_at hl 1 rfl) ?_
  refine va_get (D := (dC, dI)) (ci := 11) (v := .ref tp) (C := RX11) (T := TX11) (N := 7) hx hb hts (by decide +kernel) hown hK hP 0 rfl rfl 0 (by decide) (hts (.fieldLink RX11 12 "JoinBench" "tape" "LJoinBench$Tape;") (by decide +kernel)) (fun _ h9 => h9) rfl dX11_part_40 ?_
  refine va_get (D := (dC, dI)) (ci := 8) (v := .int 0) (C := RX8) (T := TX8) (N := 2) hx hb hts (by decide +kernel) hown hK hP 1 rfl rfl 1 (by decide) (hts (.fieldLink RX11 60 "JoinBench$Tape" "size" "I") (by decide +kernel)) (fun _ h9 => h9) rfl dX11_part_43 ?_
  refine lv_istore_n (lv' := [(3, .int 0), (2, .int 0), (0, .ref x), (1, .int d0)]) hx hb dX11_part_46 rfl hl (by decide) rfl (fun ls hl => ?_)
  refine lv_aload_n hx hb dX11_part_47 rfl (lv_at hl 2 rfl) ?_
  refine va_get (D := (dC, dI)) (ci := 11) (v := .ref tp) (C := RX11) (T := TX11) (N := 7) hx hb hts (by decide +kernel) hown hK hP 0 rfl rfl 0 (by decide) (hts (.fieldLink RX11 12 "JoinBench" "tape" "LJoinBench$Tape;") (by decide +kernel)) (fun _ h9 => h9) rfl dX11_part_48 ?_
  refine lv_iconst (v := 0) hx hb dX11_part_51 (by decide) ?_
  refine va_put (D := (dC, dI)) (ci := 8) (v := .int 0) (ty := .int) (C := RX8) (T := TX8) (N := 2) hx hb hts (by decide +kernel) tyX8 tyX8_ok nmX8 hown hK hP hD hS 1 rfl rfl 1 (by decide) (hts (.fieldLink RX11 60 "JoinBench$Tape" "size" "I") (by decide +kernel)) (fun _ h9 => h9) rfl (by decide +kernel) rfl rfl (Nat.le_of_ble_eq_true rfl) dX11_part_52 (fun H locs hP hD hS => ?_)
  have hP : va_P (dC, dI) vwCl [(x, .inr (11, [.ref tp, .ref tg, .ref rw, .ref tr, .ref ch, .null, .int 1])), (tp, .inr (8, [.ref tb, .int 0]))] H := hP
  have hD : va_D A [(x, .inr (11, [.ref tp, .ref tg, .ref rw, .ref tr, .ref ch, .null, .int 1])), (tp, .inr (8, [.ref tb, .int 0]))] := hD
  refine lv_iload_n hx hb dX11_part_55 rfl (lv_at hl 1 rfl) ?_
  refine lv_if_ne (tgt := 63) hx hb dX11_part_56 (by decide) (fun c_4 => ?_) (fun c_4 => ?_)
  · exact absurd (by decide) c_4
  refine lv_ldc2 (own := RX11) (v := (-1)) hx hb hown (hts (.constantLong RX11 174 (-1)) (by decide +kernel)) dX11_part_59 ?_
  refine W.widen (k := 0) (n := 0) (Nat.le_of_ble_eq_true rfl) (Nat.le_of_ble_eq_true rfl) ?_
  exact W.lret (v := (-1)) hx hb hr (fun t ht hW => ⟨⟨(-1), (), rfl, rfl, trivial⟩, hS.F ht⟩) hS.2.2 dX11_part_62
set_option maxHeartbeats 4000000 in
set_option maxRecDepth 100000 in
/-- X11_parted -/
theorem k_parted0 (l : Launch) (dC : Nat → ClassId) (dI : Nat → Nat → Nat) (x : Nat) (tp : Nat) (tg : Nat) (rw : Nat) (tr : Nat) (ch : Nat) (w0 : Int32) : Met l yX11_parted wsX11_parted ({ frames := 0, cells := 0, slots := 0, locals := 0 }) (va_Pc [.ref x, .int w0] (fun U => va_P (dC, dI) vwCl [(x, .inr (11, [.ref tp, .ref tg, .ref rw, .ref tr, .ref ch, .null, .int 1]))] U.heap ∧ va_K (dC, dI) vwCl [] U)) (vp_Sl (fun r => r = -1)) 0 0 (fun _ => False) := by
  refine Met.ofW (cc := cX11_parted) (maxL := 2) (ret := (some .long)) (by decide) rfl ?_
  intro p e s m args below meth c s₁ B hml hv
  obtain ⟨rfl, hP, hK⟩ := hv
  have hx := B.exec
  have hb := B.bytes
  have hr := B.returns
  have hts := atoms_spec (ws := wsX11_parted) B.pre
  have hown : s.vm.findClass RX11 = some m.cls := findClass_of_methodNamed B.named
  have hlocks := B.notSynchronized
  have hP : va_P (dC, dI) vwCl [(x, .inr (11, [.ref tp, .ref tg, .ref rw, .ref tr, .ref ch, .null, .int 1]))] s.heap := hP
  have hl := lv_entry ([.ref x, .int w0]) (n := 2) (Nat.le_of_ble_eq_true rfl)
  rw [lg_entry_eq]
  generalize (lg_sl ([.ref x, .int w0]) ++ List.replicate (2 - (lg_sl ([.ref x, .int w0])).length) Slot.unset).toArray = ls at hl ⊢
  have hl : lv_has ls 2 [(0, .ref x), (1, .int w0)] := hl
  refine lv_aload_n hx hb dX11_parted_0 rfl (lv_at hl 0 rfl) ?_
  refine va_get (D := (dC, dI)) (ci := 11) (v := .null) (C := RX11) (T := TX11) (N := 7) hx hb hts (by decide +kernel) hown hK hP 0 rfl rfl 5 (by decide) (hts (.fieldLink RX11 44 "JoinBench" "parter" "LJoinBench$Parter;") (by decide +kernel)) (fun _ h9 => h9) rfl dX11_parted_1 ?_
  refine lv_ifnonnullN hx hb dX11_parted_4 ?_
  refine lv_ldc2 (own := RX11) (v := (-1)) hx hb hown (hts (.constantLong RX11 174 (-1)) (by decide +kernel)) dX11_parted_7 ?_
  exact W.lret (v := (-1)) hx hb hr (fun t ht hW => ⟨(-1), rfl, rfl, ht⟩) (fun q h => absurd h List.not_mem_nil) dX11_parted_10
set_option maxHeartbeats 4000000 in
set_option maxRecDepth 100000 in
/-- X11_toldPath -/
theorem k_toldPath0 (l : Launch) (dC : Nat → ClassId) (dI : Nat → Nat → Nat) (x : Nat) (tp : Nat) (tg : Nat) (rw : Nat) (tr : Nat) (ch : Nat) (k0 : Int32) : Met l yX11_toldPath wsX11_toldPath ({ frames := 0, cells := 0, slots := 0, locals := 0 }) (va_Pc [.ref x, .int k0] (fun U => va_P (dC, dI) vwCl [(x, .inr (11, [.ref tp, .ref tg, .ref rw, .ref tr, .ref ch, .null, .int 1]))] U.heap ∧ va_K (dC, dI) vwCl [] U)) (va_Sq (fun r => r = none)) 0 0 (fun _ => False) := by
  refine Met.ofW (cc := cX11_toldPath) (maxL := 2) (ret := (some (.object "JoinBench$Path"))) (by decide) rfl ?_
  intro p e s m args below meth c s₁ B hml hv
  obtain ⟨rfl, hP, hK⟩ := hv
  have hx := B.exec
  have hb := B.bytes
  have hr := B.returns
  have hts := atoms_spec (ws := wsX11_toldPath) B.pre
  have hown : s.vm.findClass RX11 = some m.cls := findClass_of_methodNamed B.named
  have hlocks := B.notSynchronized
  have hP : va_P (dC, dI) vwCl [(x, .inr (11, [.ref tp, .ref tg, .ref rw, .ref tr, .ref ch, .null, .int 1]))] s.heap := hP
  have hl := lv_entry ([.ref x, .int k0]) (n := 2) (Nat.le_of_ble_eq_true rfl)
  rw [lg_entry_eq]
  generalize (lg_sl ([.ref x, .int k0]) ++ List.replicate (2 - (lg_sl ([.ref x, .int k0])).length) Slot.unset).toArray = ls at hl ⊢
  have hl : lv_has ls 2 [(0, .ref x), (1, .int k0)] := hl
  refine lv_aload_n hx hb dX11_toldPath_0 rfl (lv_at hl 0 rfl) ?_
  refine va_get (D := (dC, dI)) (ci := 11) (v := .null) (C := RX11) (T := TX11) (N := 7) hx hb hts (by decide +kernel) hown hK hP 0 rfl rfl 5 (by decide) (hts (.fieldLink RX11 44 "JoinBench" "parter" "LJoinBench$Parter;") (by decide +kernel)) (fun _ h9 => h9) rfl dX11_toldPath_1 ?_
  refine lv_ifnullN (tgt := 34) hx hb dX11_toldPath_4 (by decide) ?_
  refine lv_null hx hb dX11_toldPath_34 ?_
  exact W.aret (v := .null) hx hb hr (Or.inl ⟨_, rfl⟩) (Or.inl rfl) (fun t ht hW => ⟨none, rfl, rfl, ht⟩) (fun q h => absurd h List.not_mem_nil) dX11_toldPath_35
set_option maxHeartbeats 4000000 in
set_option maxRecDepth 100000 in
/-- X11_parting -/
theorem k_parting0 (l : Launch) (dC : Nat → ClassId) (dI : Nat → Nat → Nat) (x : Nat) (tp : Nat) (tg : Nat) (rw : Nat) (tr : Nat) (ch : Nat) (k0 : Int32) (w0 : Int32) : Met l yX11_parting wsX11_parting ({ frames := 1, cells := 0, slots := 0, locals := 21 }) (va_Pc [.ref x, .int k0, .int w0] (fun U => va_P (dC, dI) vwCl [(x, .inr (11, [.ref tp, .ref tg, .ref rw, .ref tr, .ref ch, .null, .int 1]))] U.heap ∧ va_K (dC, dI) vwCl [] U)) (vp_Si (fun r => r = -1)) 0 0 (fun _ => False) := by
  refine Met.ofW (cc := cX11_parting) (maxL := 5) (ret := (some .int)) (by decide) rfl ?_
  intro p e s m args below meth c s₁ B hml hv
  obtain ⟨rfl, hP, hK⟩ := hv
  have hx := B.exec
  have hb := B.bytes
  have hr := B.returns
  have hts := atoms_spec (ws := wsX11_parting) B.pre
  have hown : s.vm.findClass RX11 = some m.cls := findClass_of_methodNamed B.named
  have hlocks := B.notSynchronized
  have hP : va_P (dC, dI) vwCl [(x, .inr (11, [.ref tp, .ref tg, .ref rw, .ref tr, .ref ch, .null, .int 1]))] s.heap := hP
  have hl := lv_entry ([.ref x, .int k0, .int w0]) (n := 5) (Nat.le_of_ble_eq_true rfl)
  rw [lg_entry_eq]
  generalize (lg_sl ([.ref x, .int k0, .int w0]) ++ List.replicate (5 - (lg_sl ([.ref x, .int k0, .int w0])).length) Slot.unset).toArray = ls at hl ⊢
  have hl : lv_has ls 5 [(0, .ref x), (1, .int k0), (2, .int w0)] := hl
  refine lv_aload_n hx hb dX11_parting_0 rfl (lv_at hl 0 rfl) ?_
  refine lv_iload_n hx hb dX11_parting_1 rfl (lv_at hl 1 rfl) ?_
  have hPc := hP.sub (ws' := [(x, .inr (11, [.ref tp, .ref tg, .ref rw, .ref tr, .ref ch, .null, .int 1]))]) [0] rfl
  have hKc := hK.sub (tys' := []) [] rfl
  refine va_csq (va_Run.run (va_runV (As := [.int k0]) (rest := []) ⟨hx, hb, hml, hown, hts⟩ (k_toldPath0 l dC dI x tp tg rw tr ch k0) (cwV 1 hts gX11_parting_X11_toldPath rfl rfl rfl (by decide +kernel) ⟨Nat.le_of_ble_eq_true rfl, Nat.le_of_ble_eq_true rfl⟩) ⟨fun a U g mk q => by obtain ⟨q0, qP, qK⟩ := q; exact ⟨q0, qP, va_K.moved (u := U) (U := U.calling g mk a) (Vm.Alike.refl U.vm) qK⟩, va_recv hKc hPc (ci := 11) (q0 := 0) rfl rfl, fun U hU hW => ⟨rfl, by rw [hU]; exact hPc, va_K.moved hW.alike hKc⟩⟩ rfl rfl hl.1 rfl (lv_room (Nat.le_of_ble_eq_true rfl)) dX11_parting_2 ⟨Nat.le_of_ble_eq_true rfl, Nat.le_of_ble_eq_true rfl⟩)) (fun r hw_1 => ?_)
  obtain rfl : r = none := hw_1
  refine W.eq (g2 := F0 m 5 ls [.null]) rfl ?_
  refine lv_astore_nN (lv' := [(3, .null), (0, .ref x), (1, .int k0), (2, .int w0)]) hx hb dX11_parting_5 rfl hl (by decide) rfl (fun ls hl => ?_)
  refine lv_aload_n hx hb dX11_parting_6 rfl (lv_at hl 1 rfl) ?_
  refine lv_iconst (v := 0) hx hb dX11_parting_7 (by decide) ?_
  have hPc := hP.sub (ws' := [(x, .inr (11, [.ref tp, .ref tg, .ref rw, .ref tr, .ref ch, .null, .int 1]))]) [0] rfl
  have hKc := hK.sub (tys' := []) [] rfl
  refine va_csq (va_Run.run (va_runV (As := [.int 0]) (rest := []) ⟨hx, hb, hml, hown, hts⟩ (k_toldPath0 l dC dI x tp tg rw tr ch 0) (cwV 1 hts gX11_parting_X11_toldPath rfl rfl rfl (by decide +kernel) ⟨Nat.le_of_ble_eq_true rfl, Nat.le_of_ble_eq_true rfl⟩) ⟨fun a U g mk q => by obtain ⟨q0, qP, qK⟩ := q; exact ⟨q0, qP, va_K.moved (u := U) (U := U.calling g mk a) (Vm.Alike.refl U.vm) qK⟩, va_recv hKc hPc (ci := 11) (q0 := 0) rfl rfl, fun U hU hW => ⟨rfl, by rw [hU]; exact hPc, va_K.moved hW.alike hKc⟩⟩ rfl rfl hl.1 rfl (lv_room (Nat.le_of_ble_eq_true rfl)) dX11_parting_8 ⟨Nat.le_of_ble_eq_true rfl, Nat.le_of_ble_eq_true rfl⟩)) (fun r hw_2 => ?_)
  obtain rfl : r = none := hw_2
  refine W.eq (g2 := F0 m 11 ls [.null]) rfl ?_
  refine lv_astoreN (lv' := [(4, .null), (3, .null), (0, .ref x), (1, .int k0), (2, .int w0)]) hx hb dX11_parting_11 hl (by decide) rfl (fun ls hl => ?_)
  refine lv_aload_nN hx hb dX11_parting_13 rfl (lv_at hl 1 rfl) ?_
  refine lv_ifnullN (tgt := 22) hx hb dX11_parting_14 (by decide) ?_
  refine lv_iconst (v := (-1)) hx hb dX11_parting_22 (by decide) ?_
  exact W.iret (v := (-1)) hx hb hr (fun t ht hW => ⟨(-1), rfl, rfl, ht⟩) (fun q h => absurd h List.not_mem_nil) dX11_parting_23
set_option maxHeartbeats 4000000 in
set_option maxRecDepth 100000 in
/-- X11_formOf -/
theorem k_formOf0 (l : Launch) (dC : Nat → ClassId) (dI : Nat → Nat → Nat) (x : Nat) (tp : Nat) (tg : Nat) (rw : Nat) (tr : Nat) (ch : Nat) (k0 : Int32) (w0 : Int32) : Met l yX11_formOf wsX11_formOf ({ frames := 1, cells := 0, slots := 0, locals := 21 }) (va_Pc [.ref x, .int k0, .int w0] (fun U => va_P (dC, dI) vwCl [(x, .inr (11, [.ref tp, .ref tg, .ref rw, .ref tr, .ref ch, .null, .int 1]))] U.heap ∧ va_K (dC, dI) vwCl [] U)) (vp_Si (fun r => r = -1)) 0 0 (fun _ => False) := by
  refine Met.ofW (cc := cX11_formOf) (maxL := 5) (ret := (some .int)) (by decide) rfl ?_
  intro p e s m args below meth c s₁ B hml hv
  obtain ⟨rfl, hP, hK⟩ := hv
  have hx := B.exec
  have hb := B.bytes
  have hr := B.returns
  have hts := atoms_spec (ws := wsX11_formOf) B.pre
  have hown : s.vm.findClass RX11 = some m.cls := findClass_of_methodNamed B.named
  have hlocks := B.notSynchronized
  have hP : va_P (dC, dI) vwCl [(x, .inr (11, [.ref tp, .ref tg, .ref rw, .ref tr, .ref ch, .null, .int 1]))] s.heap := hP
  have hl := lv_entry ([.ref x, .int k0, .int w0]) (n := 5) (Nat.le_of_ble_eq_true rfl)
  rw [lg_entry_eq]
  generalize (lg_sl ([.ref x, .int k0, .int w0]) ++ List.replicate (5 - (lg_sl ([.ref x, .int k0, .int w0])).length) Slot.unset).toArray = ls at hl ⊢
  have hl : lv_has ls 5 [(0, .ref x), (1, .int k0), (2, .int w0)] := hl
  refine lv_aload_n hx hb dX11_formOf_0 rfl (lv_at hl 0 rfl) ?_
  refine lv_iload_n hx hb dX11_formOf_1 rfl (lv_at hl 1 rfl) ?_
  have hPc := hP.sub (ws' := [(x, .inr (11, [.ref tp, .ref tg, .ref rw, .ref tr, .ref ch, .null, .int 1]))]) [0] rfl
  have hKc := hK.sub (tys' := []) [] rfl
  refine va_csq (va_Run.run (va_runV (As := [.int k0]) (rest := []) ⟨hx, hb, hml, hown, hts⟩ (k_toldPath0 l dC dI x tp tg rw tr ch k0) (cwV 1 hts gX11_formOf_X11_toldPath rfl rfl rfl (by decide +kernel) ⟨Nat.le_of_ble_eq_true rfl, Nat.le_of_ble_eq_true rfl⟩) ⟨fun a U g mk q => by obtain ⟨q0, qP, qK⟩ := q; exact ⟨q0, qP, va_K.moved (u := U) (U := U.calling g mk a) (Vm.Alike.refl U.vm) qK⟩, va_recv hKc hPc (ci := 11) (q0 := 0) rfl rfl, fun U hU hW => ⟨rfl, by rw [hU]; exact hPc, va_K.moved hW.alike hKc⟩⟩ rfl rfl hl.1 rfl (lv_room (Nat.le_of_ble_eq_true rfl)) dX11_formOf_2 ⟨Nat.le_of_ble_eq_true rfl, Nat.le_of_ble_eq_true rfl⟩)) (fun r hw_1 => ?_)
  obtain rfl : r = none := hw_1
  refine W.eq (g2 := F0 m 5 ls [.null]) rfl ?_
  refine lv_astore_nN (lv' := [(3, .null), (0, .ref x), (1, .int k0), (2, .int w0)]) hx hb dX11_formOf_5 rfl hl (by decide) rfl (fun ls hl => ?_)
  refine lv_aload_nN hx hb dX11_formOf_6 rfl (lv_at hl 0 rfl) ?_
  refine lv_ifnonnullN hx hb dX11_formOf_7 ?_
  refine lv_null hx hb dX11_formOf_10 ?_
  refine lv_goto (tgt := 22) hx hb dX11_formOf_11 (by decide) ?_
  refine lv_astoreN (lv' := [(4, .null), (3, .null), (0, .ref x), (1, .int k0), (2, .int w0)]) hx hb dX11_formOf_22 hl (by decide) rfl (fun ls hl => ?_)
  refine lv_aloadN hx hb dX11_formOf_24 (lv_at hl 0 rfl) ?_
  refine lv_ifnonnullN hx hb dX11_formOf_26 ?_
  refine lv_iconst (v := (-1)) hx hb dX11_formOf_29 (by decide) ?_
  refine lv_goto (tgt := 38) hx hb dX11_formOf_30 (by decide) ?_
  exact W.iret (v := (-1)) hx hb hr (fun t ht hW => ⟨(-1), rfl, rfl, ht⟩) (fun q h => absurd h List.not_mem_nil) dX11_formOf_38
set_option maxHeartbeats 4000000 in
set_option maxRecDepth 100000 in
/-- X11_ruleOf -/
theorem k_ruleOf0 (l : Launch) (dC : Nat → ClassId) (dI : Nat → Nat → Nat) (x : Nat) (tp : Nat) (tg : Nat) (rw : Nat) (tr : Nat) (ch : Nat) (k0 : Int32) (w0 : Int32) : Met l yX11_ruleOf wsX11_ruleOf ({ frames := 1, cells := 0, slots := 0, locals := 21 }) (va_Pc [.ref x, .int k0, .int w0] (fun U => va_P (dC, dI) vwCl [(x, .inr (11, [.ref tp, .ref tg, .ref rw, .ref tr, .ref ch, .null, .int 1]))] U.heap ∧ va_K (dC, dI) vwCl [] U)) (vp_Si (fun r => r = -1)) 0 0 (fun _ => False) := by
  refine Met.ofW (cc := cX11_ruleOf) (maxL := 5) (ret := (some .int)) (by decide) rfl ?_
  intro p e s m args below meth c s₁ B hml hv
  obtain ⟨rfl, hP, hK⟩ := hv
  have hx := B.exec
  have hb := B.bytes
  have hr := B.returns
  have hts := atoms_spec (ws := wsX11_ruleOf) B.pre
  have hown : s.vm.findClass RX11 = some m.cls := findClass_of_methodNamed B.named
  have hlocks := B.notSynchronized
  have hP : va_P (dC, dI) vwCl [(x, .inr (11, [.ref tp, .ref tg, .ref rw, .ref tr, .ref ch, .null, .int 1]))] s.heap := hP
  have hl := lv_entry ([.ref x, .int k0, .int w0]) (n := 5) (Nat.le_of_ble_eq_true rfl)
  rw [lg_entry_eq]
  generalize (lg_sl ([.ref x, .int k0, .int w0]) ++ List.replicate (5 - (lg_sl ([.ref x, .int k0, .int w0])).length) Slot.unset).toArray = ls at hl ⊢
  have hl : lv_has ls 5 [(0, .ref x), (1, .int k0), (2, .int w0)] := hl
  refine lv_aload_n hx hb dX11_ruleOf_0 rfl (lv_at hl 0 rfl) ?_
  refine lv_iload_n hx hb dX11_ruleOf_1 rfl (lv_at hl 1 rfl) ?_
  have hPc := hP.sub (ws' := [(x, .inr (11, [.ref tp, .ref tg, .ref rw, .ref tr, .ref ch, .null, .int 1]))]) [0] rfl
  have hKc := hK.sub (tys' := []) [] rfl
  refine va_csq (va_Run.run (va_runV (As := [.int k0]) (rest := []) ⟨hx, hb, hml, hown, hts⟩ (k_toldPath0 l dC dI x tp tg rw tr ch k0) (cwV 1 hts gX11_ruleOf_X11_toldPath rfl rfl rfl (by decide +kernel) ⟨Nat.le_of_ble_eq_true rfl, Nat.le_of_ble_eq_true rfl⟩) ⟨fun a U g mk q => by obtain ⟨q0, qP, qK⟩ := q; exact ⟨q0, qP, va_K.moved (u := U) (U := U.calling g mk a) (Vm.Alike.refl U.vm) qK⟩, va_recv hKc hPc (ci := 11) (q0 := 0) rfl rfl, fun U hU hW => ⟨rfl, by rw [hU]; exact hPc, va_K.moved hW.alike hKc⟩⟩ rfl rfl hl.1 rfl (lv_room (Nat.le_of_ble_eq_true rfl)) dX11_ruleOf_2 ⟨Nat.le_of_ble_eq_true rfl, Nat.le_of_ble_eq_true rfl⟩)) (fun r hw_1 => ?_)
  obtain rfl : r = none := hw_1
  refine W.eq (g2 := F0 m 5 ls [.null]) rfl ?_
  refine lv_astore_nN (lv' := [(3, .null), (0, .ref x), (1, .int k0), (2, .int w0)]) hx hb dX11_ruleOf_5 rfl hl (by decide) rfl (fun ls hl => ?_)
  refine lv_aload_nN hx hb dX11_ruleOf_6 rfl (lv_at hl 0 rfl) ?_
  refine lv_ifnonnullN hx hb dX11_ruleOf_7 ?_
  refine lv_null hx hb dX11_ruleOf_10 ?_
  refine lv_goto (tgt := 22) hx hb dX11_ruleOf_11 (by decide) ?_
  refine lv_astoreN (lv' := [(4, .null), (3, .null), (0, .ref x), (1, .int k0), (2, .int w0)]) hx hb dX11_ruleOf_22 hl (by decide) rfl (fun ls hl => ?_)
  refine lv_aloadN hx hb dX11_ruleOf_24 (lv_at hl 0 rfl) ?_
  refine lv_ifnonnullN hx hb dX11_ruleOf_26 ?_
  refine lv_iconst (v := (-1)) hx hb dX11_ruleOf_29 (by decide) ?_
  refine lv_goto (tgt := 38) hx hb dX11_ruleOf_30 (by decide) ?_
  exact W.iret (v := (-1)) hx hb hr (fun t ht hW => ⟨(-1), rfl, rfl, ht⟩) (fun q h => absurd h List.not_mem_nil) dX11_ruleOf_38
set_option maxHeartbeats 4000000 in
set_option maxRecDepth 100000 in
/-- X11_trees -/
theorem k_trees0 (l : Launch) (dC : Nat → ClassId) (dI : Nat → Nat → Nat) (x : Nat) (tp : Nat) (tg : Nat) (rw : Nat) (tr : Nat) (ch : Nat) (k0 : Int32) (w0 : Int32) : Met l yX11_trees wsX11_trees ({ frames := 1, cells := 0, slots := 0, locals := 21 }) (va_Pc [.ref x, .int k0, .int w0] (fun U => va_P (dC, dI) vwCl [(x, .inr (11, [.ref tp, .ref tg, .ref rw, .ref tr, .ref ch, .null, .int 1]))] U.heap ∧ va_K (dC, dI) vwCl [] U)) (vp_Sl (fun r => r = -1)) 0 0 (fun _ => False) := by
  refine Met.ofW (cc := cX11_trees) (maxL := 4) (ret := (some .long)) (by decide) rfl ?_
  intro p e s m args below meth c s₁ B hml hv
  obtain ⟨rfl, hP, hK⟩ := hv
  have hx := B.exec
  have hb := B.bytes
  have hr := B.returns
  have hts := atoms_spec (ws := wsX11_trees) B.pre
  have hown : s.vm.findClass RX11 = some m.cls := findClass_of_methodNamed B.named
  have hlocks := B.notSynchronized
  have hP : va_P (dC, dI) vwCl [(x, .inr (11, [.ref tp, .ref tg, .ref rw, .ref tr, .ref ch, .null, .int 1]))] s.heap := hP
  have hl := lv_entry ([.ref x, .int k0, .int w0]) (n := 4) (Nat.le_of_ble_eq_true rfl)
  rw [lg_entry_eq]
  generalize (lg_sl ([.ref x, .int k0, .int w0]) ++ List.replicate (4 - (lg_sl ([.ref x, .int k0, .int w0])).length) Slot.unset).toArray = ls at hl ⊢
  have hl : lv_has ls 4 [(0, .ref x), (1, .int k0), (2, .int w0)] := hl
  refine lv_aload_n hx hb dX11_trees_0 rfl (lv_at hl 0 rfl) ?_
  refine lv_iload_n hx hb dX11_trees_1 rfl (lv_at hl 1 rfl) ?_
  have hPc := hP.sub (ws' := [(x, .inr (11, [.ref tp, .ref tg, .ref rw, .ref tr, .ref ch, .null, .int 1]))]) [0] rfl
  have hKc := hK.sub (tys' := []) [] rfl
  refine va_csq (va_Run.run (va_runV (As := [.int k0]) (rest := []) ⟨hx, hb, hml, hown, hts⟩ (k_toldPath0 l dC dI x tp tg rw tr ch k0) (cwV 1 hts gX11_trees_X11_toldPath rfl rfl rfl (by decide +kernel) ⟨Nat.le_of_ble_eq_true rfl, Nat.le_of_ble_eq_true rfl⟩) ⟨fun a U g mk q => by obtain ⟨q0, qP, qK⟩ := q; exact ⟨q0, qP, va_K.moved (u := U) (U := U.calling g mk a) (Vm.Alike.refl U.vm) qK⟩, va_recv hKc hPc (ci := 11) (q0 := 0) rfl rfl, fun U hU hW => ⟨rfl, by rw [hU]; exact hPc, va_K.moved hW.alike hKc⟩⟩ rfl rfl hl.1 rfl (lv_room (Nat.le_of_ble_eq_true rfl)) dX11_trees_2 ⟨Nat.le_of_ble_eq_true rfl, Nat.le_of_ble_eq_true rfl⟩)) (fun r hw_1 => ?_)
  obtain rfl : r = none := hw_1
  refine W.eq (g2 := F0 m 5 ls [.null]) rfl ?_
  refine lv_astore_nN (lv' := [(3, .null), (0, .ref x), (1, .int k0), (2, .int w0)]) hx hb dX11_trees_5 rfl hl (by decide) rfl (fun ls hl => ?_)
  refine lv_aload_nN hx hb dX11_trees_6 rfl (lv_at hl 0 rfl) ?_
  refine lv_ifnullN (tgt := 17) hx hb dX11_trees_7 (by decide) ?_
  refine lv_ldc2 (own := RX11) (v := (-1)) hx hb hown (hts (.constantLong RX11 174 (-1)) (by decide +kernel)) dX11_trees_17 ?_
  exact W.lret (v := (-1)) hx hb hr (fun t ht hW => ⟨(-1), rfl, rfl, ht⟩) (fun q h => absurd h List.not_mem_nil) dX11_trees_20
set_option maxHeartbeats 4000000 in
set_option maxRecDepth 100000 in
/-- X11_choose -/
theorem k_choose0 (l : Launch) (dC : Nat → ClassId) (dI : Nat → Nat → Nat) (x : Nat) (tp : Nat) (tg : Nat) (rw : Nat) (tr : Nat) (ch : Nat) (k0 : Int32) : Met l yX11_choose wsX11_choose ({ frames := 1, cells := 0, slots := 0, locals := 21 }) (va_Pc [.ref x, .int k0] (fun U => va_P (dC, dI) vwCl [(x, .inr (11, [.ref tp, .ref tg, .ref rw, .ref tr, .ref ch, .null, .int 1]))] U.heap ∧ va_K (dC, dI) vwCl [] U)) (vp_Si (fun r => r = -1)) 0 0 (fun _ => False) := by
  refine Met.ofW (cc := cX11_choose) (maxL := 3) (ret := (some .int)) (by decide) rfl ?_
  intro p e s m args below meth c s₁ B hml hv
  obtain ⟨rfl, hP, hK⟩ := hv
  have hx := B.exec
  have hb := B.bytes
  have hr := B.returns
  have hts := atoms_spec (ws := wsX11_choose) B.pre
  have hown : s.vm.findClass RX11 = some m.cls := findClass_of_methodNamed B.named
  have hlocks := B.notSynchronized
  have hP : va_P (dC, dI) vwCl [(x, .inr (11, [.ref tp, .ref tg, .ref rw, .ref tr, .ref ch, .null, .int 1]))] s.heap := hP
  have hl := lv_entry ([.ref x, .int k0]) (n := 3) (Nat.le_of_ble_eq_true rfl)
  rw [lg_entry_eq]
  generalize (lg_sl ([.ref x, .int k0]) ++ List.replicate (3 - (lg_sl ([.ref x, .int k0])).length) Slot.unset).toArray = ls at hl ⊢
  have hl : lv_has ls 3 [(0, .ref x), (1, .int k0)] := hl
  refine lv_aload_n hx hb dX11_choose_0 rfl (lv_at hl 0 rfl) ?_
  refine lv_iload_n hx hb dX11_choose_1 rfl (lv_at hl 1 rfl) ?_
  have hPc := hP.sub (ws' := [(x, .inr (11, [.ref tp, .ref tg, .ref rw, .ref tr, .ref ch, .null, .int 1]))]) [0] rfl
  have hKc := hK.sub (tys' := []) [] rfl
  refine va_csq (va_Run.run (va_runV (As := [.int k0]) (rest := []) ⟨hx, hb, hml, hown, hts⟩ (k_toldPath0 l dC dI x tp tg rw tr ch k0) (cwV 1 hts gX11_choose_X11_toldPath rfl rfl rfl (by decide +kernel) ⟨Nat.le_of_ble_eq_true rfl, Nat.le_of_ble_eq_true rfl⟩) ⟨fun a U g mk q => by obtain ⟨q0, qP, qK⟩ := q; exact ⟨q0, qP, va_K.moved (u := U) (U := U.calling g mk a) (Vm.Alike.refl U.vm) qK⟩, va_recv hKc hPc (ci := 11) (q0 := 0) rfl rfl, fun U hU hW => ⟨rfl, by rw [hU]; exact hPc, va_K.moved hW.alike hKc⟩⟩ rfl rfl hl.1 rfl (lv_room (Nat.le_of_ble_eq_true rfl)) dX11_choose_2 ⟨Nat.le_of_ble_eq_true rfl, Nat.le_of_ble_eq_true rfl⟩)) (fun r hw_1 => ?_)
  obtain rfl : r = none := hw_1
  refine W.eq (g2 := F0 m 5 ls [.null]) rfl ?_
  refine lv_astore_nN (lv' := [(2, .null), (0, .ref x), (1, .int k0)]) hx hb dX11_choose_5 rfl hl (by decide) rfl (fun ls hl => ?_)
  refine lv_aload_nN hx hb dX11_choose_6 rfl (lv_at hl 0 rfl) ?_
  refine lv_ifnonnullN hx hb dX11_choose_7 ?_
  refine lv_iconst (v := (-1)) hx hb dX11_choose_10 (by decide) ?_
  exact W.iret (v := (-1)) hx hb hr (fun t ht hW => ⟨(-1), rfl, rfl, ht⟩) (fun q h => absurd h List.not_mem_nil) dX11_choose_11
set_option maxHeartbeats 4000000 in
set_option maxRecDepth 100000 in
/-- X1_restore -/
theorem k_restore0 (l : Launch) (dC : Nat → ClassId) (dI : Nat → Nat → Nat) (ch : Nat) (cu : Nat) (c2 : Nat) (c3 : Nat) (c4 : Nat) (tg : Nat) : Met l yX1_restore wsX1_restore ({ frames := 0, cells := 0, slots := 0, locals := 0 }) (va_Pc [.ref ch, .ref tg] (fun U => va_P (dC, dI) vwCl [(ch, .inr (1, [.ref cu, .int 0, .ref c2, .ref c3, .ref c4, .int 0]))] U.heap ∧ va_K (dC, dI) vwCl [] U)) (vp_Si (fun r => r = 0)) 0 0 (fun _ => False) := by
  refine Met.ofW (cc := cX1_restore) (maxL := 4) (ret := (some .boolean)) (by decide) rfl ?_
  intro p e s m args below meth c s₁ B hml hv
  obtain ⟨rfl, hP, hK⟩ := hv
  have hx := B.exec
  have hb := B.bytes
  have hr := B.returns
  have hts := atoms_spec (ws := wsX1_restore) B.pre
  have hown : s.vm.findClass RX1 = some m.cls := findClass_of_methodNamed B.named
  have hlocks := B.notSynchronized
  have hP : va_P (dC, dI) vwCl [(ch, .inr (1, [.ref cu, .int 0, .ref c2, .ref c3, .ref c4, .int 0]))] s.heap := hP
  have hl := lv_entry ([.ref ch, .ref tg]) (n := 4) (Nat.le_of_ble_eq_true rfl)
  rw [lg_entry_eq]
  generalize (lg_sl ([.ref ch, .ref tg]) ++ List.replicate (4 - (lg_sl ([.ref ch, .ref tg])).length) Slot.unset).toArray = ls at hl ⊢
  have hl : lv_has ls 4 [(0, .ref ch), (1, .ref tg)] := hl
  refine lv_aload_n hx hb dX1_restore_0 rfl (lv_at hl 0 rfl) ?_
  refine va_get (D := (dC, dI)) (ci := 1) (v := .int 0) (C := RX1) (T := TX1) (N := 6) hx hb hts (by decide +kernel) hown hK hP 0 rfl rfl 1 (by decide) (hts (.fieldLink RX1 15 "JoinBench$Choices" "size" "I") (by decide +kernel)) (fun _ h9 => h9) rfl dX1_restore_1 ?_
  refine lv_if_ne (tgt := 9) hx hb dX1_restore_4 (by decide) (fun c_1 => ?_) (fun c_1 => ?_)
  · exact absurd (by decide) c_1
  refine lv_iconst (v := 0) hx hb dX1_restore_7 (by decide) ?_
  exact W.zret (v := 0) hx hb hr rfl (fun t ht hW => ⟨0, rfl, rfl, ht⟩) (fun q h => absurd h List.not_mem_nil) dX1_restore_8
set_option maxHeartbeats 4000000 in
set_option maxRecDepth 100000 in
/-- X11_undo -/
theorem k_undo0 (l : Launch) (dC : Nat → ClassId) (dI : Nat → Nat → Nat) (x : Nat) (tp : Nat) (tg : Nat) (rw : Nat) (tr : Nat) (ch : Nat) (cu : Nat) (c2 : Nat) (c3 : Nat) (c4 : Nat) : Met l yX11_undo wsX11_undo ({ frames := 1, cells := 0, slots := 0, locals := 23 }) (va_Pc [.ref x] (fun U => va_P (dC, dI) vwCl [(x, .inr (11, [.ref tp, .ref tg, .ref rw, .ref tr, .ref ch, .null, .int 1])), (ch, .inr (1, [.ref cu, .int 0, .ref c2, .ref c3, .ref c4, .int 0]))] U.heap ∧ va_K (dC, dI) vwCl [] U)) (vp_Si (fun r => r = 0)) 0 0 (fun _ => False) := by
  refine Met.ofW (cc := cX11_undo) (maxL := 1) (ret := (some .boolean)) (by decide) rfl ?_
  intro p e s m args below meth c s₁ B hml hv
  obtain ⟨rfl, hP, hK⟩ := hv
  have hx := B.exec
  have hb := B.bytes
  have hr := B.returns
  have hts := atoms_spec (ws := wsX11_undo) B.pre
  have hown : s.vm.findClass RX11 = some m.cls := findClass_of_methodNamed B.named
  have hlocks := B.notSynchronized
  have hP : va_P (dC, dI) vwCl [(x, .inr (11, [.ref tp, .ref tg, .ref rw, .ref tr, .ref ch, .null, .int 1])), (ch, .inr (1, [.ref cu, .int 0, .ref c2, .ref c3, .ref c4, .int 0]))] s.heap := hP
  have hl := lv_entry ([.ref x]) (n := 1) (Nat.le_of_ble_eq_true rfl)
  rw [lg_entry_eq]
  generalize (lg_sl ([.ref x]) ++ List.replicate (1 - (lg_sl ([.ref x])).length) Slot.unset).toArray = ls at hl ⊢
  have hl : lv_has ls 1 [(0, .ref x)] := hl
  refine lv_aload_n hx hb dX11_undo_0 rfl (lv_at hl 0 rfl) ?_
  refine va_get (D := (dC, dI)) (ci := 11) (v := .ref ch) (C := RX11) (T := TX11) (N := 7) hx hb hts (by decide +kernel) hown hK hP 0 rfl rfl 4 (by decide) (hts (.fieldLink RX11 40 "JoinBench" "choices" "LJoinBench$Choices;") (by decide +kernel)) (fun _ h9 => h9) rfl dX11_undo_1 ?_
  refine lv_aload_n hx hb dX11_undo_4 rfl (lv_at hl 0 rfl) ?_
  refine va_get (D := (dC, dI)) (ci := 11) (v := .ref tg) (C := RX11) (T := TX11) (N := 7) hx hb hts (by decide +kernel) hown hK hP 0 rfl rfl 1 (by decide) (hts (.fieldLink RX11 19 "JoinBench" "tongue" "LJoinBench$Tongue;") (by decide +kernel)) (fun _ h9 => h9) rfl dX11_undo_5 ?_
  have hPc := hP.sub (ws' := [(ch, .inr (1, [.ref cu, .int 0, .ref c2, .ref c3, .ref c4, .int 0]))]) [1] rfl
  have hKc := hK.sub (tys' := []) [] rfl
  refine vp_callSi (va_Run.run (va_runV (As := [.ref tg]) (rest := []) ⟨hx, hb, hml, hown, hts⟩ (k_restore0 l dC dI ch cu c2 c3 c4 tg) (cwV 1 hts gX11_undo_X1_restore rfl rfl rfl (by decide +kernel) ⟨Nat.le_of_ble_eq_true rfl, Nat.le_of_ble_eq_true rfl⟩) ⟨fun a U g mk q => by obtain ⟨q0, qP, qK⟩ := q; exact ⟨q0, qP, va_K.moved (u := U) (U := U.calling g mk a) (Vm.Alike.refl U.vm) qK⟩, va_recv hKc hPc (ci := 1) (q0 := 0) rfl rfl, fun U hU hW => ⟨rfl, by rw [hU]; exact hPc, va_K.moved hW.alike hKc⟩⟩ rfl rfl hl.1 rfl (lv_room (Nat.le_of_ble_eq_true rfl)) dX11_undo_8 ⟨Nat.le_of_ble_eq_true rfl, Nat.le_of_ble_eq_true rfl⟩)) (fun r_2 hw_1 => ?_)
  obtain rfl : r_2 = 0 := hw_1
  exact W.zret (v := 0) hx hb hr rfl (fun t ht hW => ⟨0, rfl, rfl, ht⟩) (fun q h => absurd h List.not_mem_nil) dX11_undo_11
set_option maxHeartbeats 4000000 in
set_option maxRecDepth 100000 in
/-- X11_step -/
theorem k_step0 (l : Launch) (dC : Nat → ClassId) (dI : Nat → Nat → Nat) (sz : Nat) (x : Nat) (tp : Nat) (tg : Nat) (rw : Nat) (tr : Nat) (ch : Nat) (n : Int32) : Met l yX11_step wsX11_step ({ frames := 1, cells := 0, slots := 0, locals := 22 }) (va_Pc [.ref x, .int n] (fun U => U.heap.size = sz ∧ va_P (dC, dI) vwCl [(x, .inr (11, [.ref tp, .ref tg, .ref rw, .ref tr, .ref ch, .null, .int 1]))] U.heap ∧ va_K (dC, dI) vwCl [] U ∧ va_D (fun _ => True) [(x, .inr (11, [.ref tp, .ref tg, .ref rw, .ref tr, .ref ch, .null, .int 1]))])) (va_Qi (fun (r : Int32) (_ : Unit) => vP r (inR n 0 20) 1 (-1)) (fun (_ : Unit) (_ : State) => True) (va_A [(x, .inr (11, [.ref tp, .ref tg, .ref rw, .ref tr, .ref ch, .null, .int 1]))] sz)) 0 0 (va_A [(x, .inr (11, [.ref tp, .ref tg, .ref rw, .ref tr, .ref ch, .null, .int 1]))] sz) := by
  refine Met.ofW (cc := cX11_step) (maxL := 3) (ret := (some .int)) (by decide) rfl ?_
  intro p e s m args below meth c s₁ B hml hv
  obtain ⟨rfl, hsz, hP, hK, hD0⟩ := hv
  have hx := B.exec
  have hb := B.bytes
  have hr := B.returns
  have hts := atoms_spec (ws := wsX11_step) B.pre
  have hown : s.vm.findClass RX11 = some m.cls := findClass_of_methodNamed B.named
  have hlocks := B.notSynchronized
  subst hsz
  have hD := hD0.self (sz := s.heap.size)
  generalize hAe : va_A [(x, .inr (11, [.ref tp, .ref tg, .ref rw, .ref tr, .ref ch, .null, .int 1]))] s.heap.size = A at hD ⊢
  have hA : ∀ q : Nat, s.heap.size ≤ q → A q := fun q h => by rw [← hAe]; exact Or.inr h
  obtain ⟨H, hH⟩ : ∃ H : Heap, H = s.heap := ⟨_, rfl⟩
  have hS : va_S A s.heap H [] := by rw [hH]; exact va_S.rf
  rw [← hH] at hP ⊢
  have hP : va_P (dC, dI) vwCl [(x, .inr (11, [.ref tp, .ref tg, .ref rw, .ref tr, .ref ch, .null, .int 1]))] H := hP
  have hl := lv_entry ([.ref x, .int n]) (n := 3) (Nat.le_of_ble_eq_true rfl)
  rw [lg_entry_eq]
  generalize (lg_sl ([.ref x, .int n]) ++ List.replicate (3 - (lg_sl ([.ref x, .int n])).length) Slot.unset).toArray = ls at hl ⊢
  have hl : lv_has ls 3 [(0, .ref x), (1, .int n)] := hl
  refine lv_iload_n hx hb dX11_step_0 rfl (lv_at hl 1 rfl) ?_
  refine lv_iconst (v := 0) hx hb dX11_step_1 (by decide) ?_
  refine lv_bipush (v := 20) hx hb dX11_step_2 (by decide) ?_
  have hPc := hP.sub (ws' := []) [] rfl
  have hKc := hK.sub (tys' := []) [] rfl
  refine vp_callSi (va_Run.run (va_runS (As := [.int n, .int 0, .int 20]) (rest := []) ⟨hx, hb, hml, hown, hts⟩ (k_within l dC dI n 0 20) (va_cwS 3 hts gX11_step_X11_within rfl rfl rfl (by decide +kernel) ⟨Nat.le_of_ble_eq_true rfl, Nat.le_of_ble_eq_true rfl⟩) ⟨fun a U g mk q => by obtain ⟨q0, qP, qK⟩ := q; exact ⟨q0, qP, va_K.moved (u := U) (U := U.calling g mk a) (Vm.Alike.refl U.vm) qK⟩, fun U hU hW => ⟨rfl, by rw [hU]; exact hPc, va_K.moved hW.alike hKc⟩⟩ rfl rfl hl.1 rfl (lv_room (Nat.le_of_ble_eq_true rfl)) dX11_step_4 ⟨Nat.le_of_ble_eq_true rfl, Nat.le_of_ble_eq_true rfl⟩)) (fun r_2 hw_1 => ?_)
  rcases hw_1 with ⟨rfl, hw_1⟩ | ⟨rfl, hw_1⟩
  · refine lv_if_ne (tgt := 12) hx hb dX11_step_7 (by decide) (fun c_3 => ?_) (fun c_3 => ?_)
    rotate_left
    · exact absurd c_3 (by decide)
    refine lv_aload_n hx hb dX11_step_12 rfl (lv_at hl 0 rfl) ?_
    refine va_get (D := (dC, dI)) (ci := 11) (v := .int 1) (C := RX11) (T := TX11) (N := 7) hx hb hts (by decide +kernel) hown hK hP 0 rfl rfl 6 (by decide) (hts (.fieldLink RX11 48 "JoinBench" "step" "I") (by decide +kernel)) (fun _ h9 => h9) rfl dX11_step_13 ?_
    refine lv_istore_n (lv' := [(2, .int 1), (0, .ref x), (1, .int n)]) hx hb dX11_step_16 rfl hl (by decide) rfl (fun ls hl => ?_)
    refine lv_aload_n hx hb dX11_step_17 rfl (lv_at hl 1 rfl) ?_
    refine lv_iload_n hx hb dX11_step_18 rfl (lv_at hl 2 rfl) ?_
    refine va_put (D := (dC, dI)) (ci := 11) (v := .int n) (ty := .int) (C := RX11) (T := TX11) (N := 7) hx hb hts (by decide +kernel) tyX11 tyX11_ok nmX11 hown hK hP hD hS 0 rfl rfl 6 (by decide) (hts (.fieldLink RX11 48 "JoinBench" "step" "I") (by decide +kernel)) (fun _ h9 => h9) rfl (by decide +kernel) rfl rfl (Nat.le_of_ble_eq_true rfl) dX11_step_19 (fun H locs hP hD hS => ?_)
    have hP : va_P (dC, dI) vwCl [(x, .inr (11, [.ref tp, .ref tg, .ref rw, .ref tr, .ref ch, .null, .int n]))] H := hP
    have hD : va_D A [(x, .inr (11, [.ref tp, .ref tg, .ref rw, .ref tr, .ref ch, .null, .int n]))] := hD
    refine lv_iload_n hx hb dX11_step_22 rfl (lv_at hl 0 rfl) ?_
    refine W.widen (k := 0) (n := 0) (Nat.le_of_ble_eq_true rfl) (Nat.le_of_ble_eq_true rfl) ?_
    exact W.iret (v := 1) hx hb hr (fun t ht hW => ⟨⟨1, (), rfl, vP_t (by simp [hw_1]), trivial⟩, hS.F ht⟩) hS.2.2 dX11_step_23
  · refine lv_if_ne (tgt := 12) hx hb dX11_step_7 (by decide) (fun c_4 => ?_) (fun c_4 => ?_)
    · exact absurd (by decide) c_4
    refine lv_iconst (v := (-1)) hx hb dX11_step_10 (by decide) ?_
    refine W.widen (k := 0) (n := 0) (Nat.le_of_ble_eq_true rfl) (Nat.le_of_ble_eq_true rfl) ?_
    exact W.iret (v := (-1)) hx hb hr (fun t ht hW => ⟨⟨(-1), (), rfl, vP_f (by simp [hw_1]), trivial⟩, hS.F ht⟩) hS.2.2 dX11_step_11
set_option maxHeartbeats 4000000 in
set_option maxRecDepth 100000 in
/-- X11_uses -/
theorem k_uses0 (l : Launch) (dC : Nat → ClassId) (dI : Nat → Nat → Nat) (x : Nat) (tp : Nat) (tg : Nat) (rw : Nat) (tr : Nat) (ch : Nat) (cu : Nat) (c2 : Nat) (c3 : Nat) (c4 : Nat) (cU : ClassId) (t0 : Int32) : Met l yX11_uses wsX11_uses ({ frames := 2, cells := 0, slots := 0, locals := 42 }) (va_Pc [.ref x, .int t0] (fun U => va_P (dC, dI) vwCl [(x, .inr (11, [.ref tp, .ref tg, .ref rw, .ref tr, .ref ch, .null, .int 1])), (ch, .inr (1, [.ref cu, .int 0, .ref c2, .ref c3, .ref c4, .int 0])), (cu, .inl (cU, 20, .inl (fun _ => 0)))] U.heap ∧ va_K (dC, dI) vwCl [(cU, .int)] U)) (vp_Si (fun r => vP r (inR t0 0 19) 0 (-1))) 0 0 (fun _ => False) := by
  refine Met.ofW (cc := cX11_uses) (maxL := 2) (ret := (some .int)) (by decide) rfl ?_
  intro p e s m args below meth c s₁ B hml hv
  obtain ⟨rfl, hP, hK⟩ := hv
  have hx := B.exec
  have hb := B.bytes
  have hr := B.returns
  have hts := atoms_spec (ws := wsX11_uses) B.pre
  have hown : s.vm.findClass RX11 = some m.cls := findClass_of_methodNamed B.named
  have hlocks := B.notSynchronized
  have hP : va_P (dC, dI) vwCl [(x, .inr (11, [.ref tp, .ref tg, .ref rw, .ref tr, .ref ch, .null, .int 1])), (ch, .inr (1, [.ref cu, .int 0, .ref c2, .ref c3, .ref c4, .int 0])), (cu, .inl (cU, 20, .inl (fun _ => 0)))] s.heap := hP
  have hl := lv_entry ([.ref x, .int t0]) (n := 2) (Nat.le_of_ble_eq_true rfl)
  rw [lg_entry_eq]
  generalize (lg_sl ([.ref x, .int t0]) ++ List.replicate (2 - (lg_sl ([.ref x, .int t0])).length) Slot.unset).toArray = ls at hl ⊢
  have hl : lv_has ls 2 [(0, .ref x), (1, .int t0)] := hl
  refine lv_iload_n hx hb dX11_uses_0 rfl (lv_at hl 1 rfl) ?_
  have hPc := hP.sub (ws' := []) [] rfl
  have hKc := hK.sub (tys' := []) [] rfl
  refine vp_callSi (va_Run.run (va_runS (As := [.int t0]) (rest := []) ⟨hx, hb, hml, hown, hts⟩ (k_isStem l dC dI t0) (va_cwS 1 hts gX11_uses_X11_isStem rfl rfl rfl (by decide +kernel) ⟨Nat.le_of_ble_eq_true rfl, Nat.le_of_ble_eq_true rfl⟩) ⟨fun a U g mk q => by obtain ⟨q0, qP, qK⟩ := q; exact ⟨q0, qP, va_K.moved (u := U) (U := U.calling g mk a) (Vm.Alike.refl U.vm) qK⟩, fun U hU hW => ⟨rfl, by rw [hU]; exact hPc, va_K.moved hW.alike hKc⟩⟩ rfl rfl hl.1 rfl (lv_room (Nat.le_of_ble_eq_true rfl)) dX11_uses_1 ⟨Nat.le_of_ble_eq_true rfl, Nat.le_of_ble_eq_true rfl⟩)) (fun r_2 hw_1 => ?_)
  rcases hw_1 with ⟨rfl, hw_1⟩ | ⟨rfl, hw_1⟩
  · refine lv_if_eq (tgt := 19) hx hb dX11_uses_4 (by decide) (fun c_3 => ?_) (fun c_3 => ?_)
    · exact absurd c_3 (by decide)
    refine lv_aload_n hx hb dX11_uses_7 rfl (lv_at hl 0 rfl) ?_
    refine va_get (D := (dC, dI)) (ci := 11) (v := .ref ch) (C := RX11) (T := TX11) (N := 7) hx hb hts (by decide +kernel) hown hK hP 0 rfl rfl 4 (by decide) (hts (.fieldLink RX11 40 "JoinBench" "choices" "LJoinBench$Choices;") (by decide +kernel)) (fun _ h9 => h9) rfl dX11_uses_8 ?_
    refine va_get (D := (dC, dI)) (ci := 1) (v := .ref cu) (C := RX1) (T := TX1) (N := 6) hx hb hts (by decide +kernel) hown hK hP 1 rfl rfl 0 (by decide) (hts (.fieldLink RX11 237 "JoinBench$Choices" "uses" "[I") (by decide +kernel)) (fun _ h9 => h9) rfl dX11_uses_11 ?_
    refine lv_iload_n hx hb dX11_uses_14 rfl (lv_at hl 1 rfl) ?_
    refine va_iald hx hb hK hP 2 0 rfl rfl (by obtain ⟨j, hj, rfl⟩ := inR_n (n := 19) (by decide) hw_1; exact vp_in_nI (by omega) (by decide)) dX11_uses_15 ?_
    refine lv_topi (fun y_4 ey_4 => ?_)
    obtain rfl : y_4 = 0 := ey_4
    refine lv_goto (tgt := 20) hx hb dX11_uses_16 (by decide) ?_
    exact W.iret (v := 0) hx hb hr (fun t ht hW => ⟨0, rfl, vP_t (by simp [hw_1]), ht⟩) (fun q h => absurd h List.not_mem_nil) dX11_uses_20
  · refine lv_if_eq (tgt := 19) hx hb dX11_uses_4 (by decide) (fun c_5 => ?_) (fun c_5 => ?_)
    rotate_left
    · exact absurd (by decide) c_5
    refine lv_iconst (v := (-1)) hx hb dX11_uses_19 (by decide) ?_
    exact W.iret (v := (-1)) hx hb hr (fun t ht hW => ⟨(-1), rfl, vP_f (by simp [hw_1]), ht⟩) (fun q h => absurd h List.not_mem_nil) dX11_uses_20
set_option maxHeartbeats 4000000 in
set_option maxRecDepth 100000 in
/-- X11_about -/
theorem k_about0 (l : Launch) (dC : Nat → ClassId) (dI : Nat → Nat → Nat) (x : Nat) (tp : Nat) (tg : Nat) (rw : Nat) (tr : Nat) (ch : Nat) (gf : Nat) (gr : Nat) (gz : Nat) (f0 : Int32) (w0 : Int32) : Met l yX11_about wsX11_about ({ frames := 1, cells := 0, slots := 0, locals := 21 }) (va_Pc [.ref x, .int f0, .int w0] (fun U => va_P (dC, dI) vwCl [(x, .inr (11, [.ref tp, .ref tg, .ref rw, .ref tr, .ref ch, .null, .int 1])), (tg, .inr (9, [.ref gf, .ref gr, .int 0, .int 0, .ref gz]))] U.heap ∧ va_K (dC, dI) vwCl [] U)) (vp_Si (fun r => r = -1)) 0 0 (fun _ => False) := by
  refine Met.ofW (cc := cX11_about) (maxL := 4) (ret := (some .int)) (by decide) rfl ?_
  intro p e s m args below meth c s₁ B hml hv
  obtain ⟨rfl, hP, hK⟩ := hv
  have hx := B.exec
  have hb := B.bytes
  have hr := B.returns
  have hts := atoms_spec (ws := wsX11_about) B.pre
  have hown : s.vm.findClass RX11 = some m.cls := findClass_of_methodNamed B.named
  have hlocks := B.notSynchronized
  have hP : va_P (dC, dI) vwCl [(x, .inr (11, [.ref tp, .ref tg, .ref rw, .ref tr, .ref ch, .null, .int 1])), (tg, .inr (9, [.ref gf, .ref gr, .int 0, .int 0, .ref gz]))] s.heap := hP
  have hl := lv_entry ([.ref x, .int f0, .int w0]) (n := 4) (Nat.le_of_ble_eq_true rfl)
  rw [lg_entry_eq]
  generalize (lg_sl ([.ref x, .int f0, .int w0]) ++ List.replicate (4 - (lg_sl ([.ref x, .int f0, .int w0])).length) Slot.unset).toArray = ls at hl ⊢
  have hl : lv_has ls 4 [(0, .ref x), (1, .int f0), (2, .int w0)] := hl
  refine lv_aload_n hx hb dX11_about_0 rfl (lv_at hl 0 rfl) ?_
  refine va_get (D := (dC, dI)) (ci := 11) (v := .ref tg) (C := RX11) (T := TX11) (N := 7) hx hb hts (by decide +kernel) hown hK hP 0 rfl rfl 1 (by decide) (hts (.fieldLink RX11 19 "JoinBench" "tongue" "LJoinBench$Tongue;") (by decide +kernel)) (fun _ h9 => h9) rfl dX11_about_1 ?_
  refine lv_iload_n hx hb dX11_about_4 rfl (lv_at hl 1 rfl) ?_
  have hPc := hP.sub (ws' := [(tg, .inr (9, [.ref gf, .ref gr, .int 0, .int 0, .ref gz]))]) [1] rfl
  have hKc := hK.sub (tys' := []) [] rfl
  refine va_csq (va_Run.run (va_runV (As := [.int f0]) (rest := []) ⟨hx, hb, hml, hown, hts⟩ (k_formAt0 l dC dI tg gf gr gz f0) (cwV 1 hts gX11_about_X9_formAt rfl rfl rfl (by decide +kernel) ⟨Nat.le_of_ble_eq_true rfl, Nat.le_of_ble_eq_true rfl⟩) ⟨fun a U g mk q => by obtain ⟨q0, qP, qK⟩ := q; exact ⟨q0, qP, va_K.moved (u := U) (U := U.calling g mk a) (Vm.Alike.refl U.vm) qK⟩, va_recv hKc hPc (ci := 9) (q0 := 0) rfl rfl, fun U hU hW => ⟨rfl, by rw [hU]; exact hPc, va_K.moved hW.alike hKc⟩⟩ rfl rfl hl.1 rfl (lv_room (Nat.le_of_ble_eq_true rfl)) dX11_about_5 ⟨Nat.le_of_ble_eq_true rfl, Nat.le_of_ble_eq_true rfl⟩)) (fun r hw_1 => ?_)
  obtain rfl : r = none := hw_1
  refine W.eq (g2 := F0 m 8 ls [.null]) rfl ?_
  refine lv_astore_nN (lv' := [(3, .null), (0, .ref x), (1, .int f0), (2, .int w0)]) hx hb dX11_about_8 rfl hl (by decide) rfl (fun ls hl => ?_)
  refine lv_aload_nN hx hb dX11_about_9 rfl (lv_at hl 0 rfl) ?_
  refine lv_ifnonnullN hx hb dX11_about_10 ?_
  refine lv_iconst (v := (-1)) hx hb dX11_about_13 (by decide) ?_
  exact W.iret (v := (-1)) hx hb hr (fun t ht hW => ⟨(-1), rfl, rfl, ht⟩) (fun q h => absurd h List.not_mem_nil) dX11_about_14
set_option maxHeartbeats 4000000 in
set_option maxRecDepth 100000 in
/-- X0_price -/
theorem k_price0 (l : Launch) (dC : Nat → ClassId) (dI : Nat → Nat → Nat) (rc : Nat) (cf : Nat) (cr : Nat) : Met l yX0_price wsX0_price ({ frames := 0, cells := 0, slots := 0, locals := 0 }) (va_Pc [.ref rc] (fun U => va_P (dC, dI) vwCl [(rc, .inr (0, [.ref cf, .ref cr, .int 0]))] U.heap ∧ va_K (dC, dI) vwCl [] U)) (vp_Si (fun r => r = 0)) 0 0 (fun _ => False) := by
  refine Met.ofW (cc := cX0_price) (maxL := 3) (ret := (some .int)) (by decide) rfl ?_
  intro p e s m args below meth c s₁ B hml hv
  obtain ⟨rfl, hP, hK⟩ := hv
  have hx := B.exec
  have hb := B.bytes
  have hr := B.returns
  have hts := atoms_spec (ws := wsX0_price) B.pre
  have hown : s.vm.findClass RX0 = some m.cls := findClass_of_methodNamed B.named
  have hlocks := B.notSynchronized
  have hP : va_P (dC, dI) vwCl [(rc, .inr (0, [.ref cf, .ref cr, .int 0]))] s.heap := hP
  have hl := lv_entry ([.ref rc]) (n := 3) (Nat.le_of_ble_eq_true rfl)
  rw [lg_entry_eq]
  generalize (lg_sl ([.ref rc]) ++ List.replicate (3 - (lg_sl ([.ref rc])).length) Slot.unset).toArray = ls at hl ⊢
  have hl : lv_has ls 3 [(0, .ref rc)] := hl
  refine lv_iconst (v := 0) hx hb dX0_price_0 (by decide) ?_
  refine lv_istore_n (lv' := [(1, .int 0), (0, .ref rc)]) hx hb dX0_price_1 rfl hl (by decide) rfl (fun ls hl => ?_)
  refine lv_iconst (v := 0) hx hb dX0_price_2 (by decide) ?_
  refine lv_istore_n (lv' := [(2, .int 0), (1, .int 0), (0, .ref rc)]) hx hb dX0_price_3 rfl hl (by decide) rfl (fun ls hl => ?_)
  refine lv_iload_n hx hb dX0_price_4 rfl (lv_at hl 0 rfl) ?_
  refine lv_aload_n hx hb dX0_price_5 rfl (lv_at hl 2 rfl) ?_
  refine va_get (D := (dC, dI)) (ci := 0) (v := .int 0) (C := RX0) (T := TX0) (N := 3) hx hb hts (by decide +kernel) hown hK hP 0 rfl rfl 2 (by decide) (hts (.fieldLink RX0 23 "JoinBench$Chain" "size" "I") (by decide +kernel)) (fun _ h9 => h9) rfl dX0_price_6 ?_
  refine lv_icmp_ge (tgt := 51) hx hb dX0_price_9 (by decide) (fun c_1 => ?_) (fun c_1 => ?_)
  rotate_left
  · exact absurd (by decide) c_1
  refine lv_iload_n hx hb dX0_price_51 rfl (lv_at hl 1 rfl) ?_
  exact W.iret (v := 0) hx hb hr (fun t ht hW => ⟨0, rfl, rfl, ht⟩) (fun q h => absurd h List.not_mem_nil) dX0_price_52
set_option maxHeartbeats 4000000 in
set_option maxRecDepth 100000 in
/-- X11_count -/
theorem k_count0 (l : Launch) (dC : Nat → ClassId) (dI : Nat → Nat → Nat) (x : Nat) (tp : Nat) (tg : Nat) (rw : Nat) (tr : Nat) (ch : Nat) (gf : Nat) (gr : Nat) (gz : Nat) (tb : Nat) (rc : Nat) (ro : Nat) (cf : Nat) (cr : Nat) (cu : Nat) (c2 : Nat) (c3 : Nat) (c4 : Nat) (w0 : Int32) : Met l yX11_count wsX11_count ({ frames := 1, cells := 0, slots := 0, locals := 22 }) (va_Pc [.ref x, .int w0] (fun U => va_P (dC, dI) vwCl [(x, .inr (11, [.ref tp, .ref tg, .ref rw, .ref tr, .ref ch, .null, .int 1])), (tg, .inr (9, [.ref gf, .ref gr, .int 0, .int 0, .ref gz])), (tp, .inr (8, [.ref tb, .int 0])), (rw, .inr (6, [.ref rc, .ref ro, .int 0, .int 0])), (rc, .inr (0, [.ref cf, .ref cr, .int 0])), (ch, .inr (1, [.ref cu, .int 0, .ref c2, .ref c3, .ref c4, .int 0]))] U.heap ∧ va_K (dC, dI) vwCl [] U)) (vp_Si (fun r => r = cntV w0)) 0 0 (fun _ => False) := by
  refine Met.ofW (cc := cX11_count) (maxL := 2) (ret := (some .int)) (by decide) rfl ?_
  intro p e s m args below meth c s₁ B hml hv
  obtain ⟨rfl, hP, hK⟩ := hv
  have hx := B.exec
  have hb := B.bytes
  have hr := B.returns
  have hts := atoms_spec (ws := wsX11_count) B.pre
  have hown : s.vm.findClass RX11 = some m.cls := findClass_of_methodNamed B.named
  have hlocks := B.notSynchronized
  have hP : va_P (dC, dI) vwCl [(x, .inr (11, [.ref tp, .ref tg, .ref rw, .ref tr, .ref ch, .null, .int 1])), (tg, .inr (9, [.ref gf, .ref gr, .int 0, .int 0, .ref gz])), (tp, .inr (8, [.ref tb, .int 0])), (rw, .inr (6, [.ref rc, .ref ro, .int 0, .int 0])), (rc, .inr (0, [.ref cf, .ref cr, .int 0])), (ch, .inr (1, [.ref cu, .int 0, .ref c2, .ref c3, .ref c4, .int 0]))] s.heap := hP
  have hl := lv_entry ([.ref x, .int w0]) (n := 2) (Nat.le_of_ble_eq_true rfl)
  rw [lg_entry_eq]
  generalize (lg_sl ([.ref x, .int w0]) ++ List.replicate (2 - (lg_sl ([.ref x, .int w0])).length) Slot.unset).toArray = ls at hl ⊢
  have hl : lv_has ls 2 [(0, .ref x), (1, .int w0)] := hl
  refine lv_iload_n hx hb dX11_count_0 rfl (lv_at hl 1 rfl) ?_
  rcases sw_8 w0 with hw_1 | rfl | rfl | rfl | rfl | rfl | rfl | rfl | rfl
  · refine lv_tableOut (tgt := 115) hx hb dX11_count_1 hw_1 (by decide) ?_
    refine lv_iconst (v := (-1)) hx hb dX11_count_115 (by decide) ?_
    exact W.iret (v := (-1)) hx hb hr (fun t ht hW => ⟨(-1), rfl, cnt_out hw_1, ht⟩) (fun q h => absurd h List.not_mem_nil) dX11_count_116
  · refine lv_tableIn (off := 47) (tgt := 48) hx hb dX11_count_1 (by decide) (by decide) rfl (by decide) ?_
    refine lv_aload_n hx hb dX11_count_48 rfl (lv_at hl 0 rfl) ?_
    refine va_get (D := (dC, dI)) (ci := 11) (v := .ref tg) (C := RX11) (T := TX11) (N := 7) hx hb hts (by decide +kernel) hown hK hP 0 rfl rfl 1 (by decide) (hts (.fieldLink RX11 19 "JoinBench" "tongue" "LJoinBench$Tongue;") (by decide +kernel)) (fun _ h9 => h9) rfl dX11_count_49 ?_
    refine va_get (D := (dC, dI)) (ci := 9) (v := .int 0) (C := RX9) (T := TX9) (N := 5) hx hb hts (by decide +kernel) hown hK hP 1 rfl rfl 2 (by decide) (hts (.fieldLink RX11 67 "JoinBench$Tongue" "formCount" "I") (by decide +kernel)) (fun _ h9 => h9) rfl dX11_count_52 ?_
    exact W.iret (v := 0) hx hb hr (fun t ht hW => ⟨0, rfl, (by decide), ht⟩) (fun q h => absurd h List.not_mem_nil) dX11_count_55
  · refine lv_tableIn (off := 55) (tgt := 56) hx hb dX11_count_1 (by decide) (by decide) rfl (by decide) ?_
    refine lv_aload_n hx hb dX11_count_56 rfl (lv_at hl 0 rfl) ?_
    refine va_get (D := (dC, dI)) (ci := 11) (v := .ref tg) (C := RX11) (T := TX11) (N := 7) hx hb hts (by decide +kernel) hown hK hP 0 rfl rfl 1 (by decide) (hts (.fieldLink RX11 19 "JoinBench" "tongue" "LJoinBench$Tongue;") (by decide +kernel)) (fun _ h9 => h9) rfl dX11_count_57 ?_
    refine va_get (D := (dC, dI)) (ci := 9) (v := .int 0) (C := RX9) (T := TX9) (N := 5) hx hb hts (by decide +kernel) hown hK hP 1 rfl rfl 3 (by decide) (hts (.fieldLink RX11 92 "JoinBench$Tongue" "ruleCount" "I") (by decide +kernel)) (fun _ h9 => h9) rfl dX11_count_60 ?_
    exact W.iret (v := 0) hx hb hr (fun t ht hW => ⟨0, rfl, (by decide), ht⟩) (fun q h => absurd h List.not_mem_nil) dX11_count_63
  · refine lv_tableIn (off := 63) (tgt := 64) hx hb dX11_count_1 (by decide) (by decide) rfl (by decide) ?_
    refine lv_aload_n hx hb dX11_count_64 rfl (lv_at hl 0 rfl) ?_
    refine va_get (D := (dC, dI)) (ci := 11) (v := .ref tp) (C := RX11) (T := TX11) (N := 7) hx hb hts (by decide +kernel) hown hK hP 0 rfl rfl 0 (by decide) (hts (.fieldLink RX11 12 "JoinBench" "tape" "LJoinBench$Tape;") (by decide +kernel)) (fun _ h9 => h9) rfl dX11_count_65 ?_
    refine va_get (D := (dC, dI)) (ci := 8) (v := .int 0) (C := RX8) (T := TX8) (N := 2) hx hb hts (by decide +kernel) hown hK hP 2 rfl rfl 1 (by decide) (hts (.fieldLink RX11 60 "JoinBench$Tape" "size" "I") (by decide +kernel)) (fun _ h9 => h9) rfl dX11_count_68 ?_
    exact W.iret (v := 0) hx hb hr (fun t ht hW => ⟨0, rfl, (by decide), ht⟩) (fun q h => absurd h List.not_mem_nil) dX11_count_71
  · refine lv_tableIn (off := 71) (tgt := 72) hx hb dX11_count_1 (by decide) (by decide) rfl (by decide) ?_
    refine lv_aload_n hx hb dX11_count_72 rfl (lv_at hl 0 rfl) ?_
    refine va_get (D := (dC, dI)) (ci := 11) (v := .ref rw) (C := RX11) (T := TX11) (N := 7) hx hb hts (by decide +kernel) hown hK hP 0 rfl rfl 2 (by decide) (hts (.fieldLink RX11 26 "JoinBench" "row" "LJoinBench$Row;") (by decide +kernel)) (fun _ h9 => h9) rfl dX11_count_73 ?_
    refine va_get (D := (dC, dI)) (ci := 6) (v := .int 0) (C := RX6) (T := TX6) (N := 4) hx hb hts (by decide +kernel) hown hK hP 3 rfl rfl 3 (by decide) (hts (.fieldLink RX11 164 "JoinBench$Row" "outSize" "I") (by decide +kernel)) (fun _ h9 => h9) rfl dX11_count_76 ?_
    exact W.iret (v := 0) hx hb hr (fun t ht hW => ⟨0, rfl, (by decide), ht⟩) (fun q h => absurd h List.not_mem_nil) dX11_count_79
  · refine lv_tableIn (off := 79) (tgt := 80) hx hb dX11_count_1 (by decide) (by decide) rfl (by decide) ?_
    refine lv_aload_n hx hb dX11_count_80 rfl (lv_at hl 0 rfl) ?_
    refine va_get (D := (dC, dI)) (ci := 11) (v := .ref rw) (C := RX11) (T := TX11) (N := 7) hx hb hts (by decide +kernel) hown hK hP 0 rfl rfl 2 (by decide) (hts (.fieldLink RX11 26 "JoinBench" "row" "LJoinBench$Row;") (by decide +kernel)) (fun _ h9 => h9) rfl dX11_count_81 ?_
    refine va_get (D := (dC, dI)) (ci := 6) (v := .ref rc) (C := RX6) (T := TX6) (N := 4) hx hb hts (by decide +kernel) hown hK hP 3 rfl rfl 0 (by decide) (hts (.fieldLink RX11 135 "JoinBench$Row" "chain" "LJoinBench$Chain;") (by decide +kernel)) (fun _ h9 => h9) rfl dX11_count_84 ?_
    refine va_get (D := (dC, dI)) (ci := 0) (v := .int 0) (C := RX0) (T := TX0) (N := 3) hx hb hts (by decide +kernel) hown hK hP 4 rfl rfl 2 (by decide) (hts (.fieldLink RX11 139 "JoinBench$Chain" "size" "I") (by decide +kernel)) (fun _ h9 => h9) rfl dX11_count_87 ?_
    exact W.iret (v := 0) hx hb hr (fun t ht hW => ⟨0, rfl, (by decide), ht⟩) (fun q h => absurd h List.not_mem_nil) dX11_count_90
  · refine lv_tableIn (off := 90) (tgt := 91) hx hb dX11_count_1 (by decide) (by decide) rfl (by decide) ?_
    refine lv_aload_n hx hb dX11_count_91 rfl (lv_at hl 0 rfl) ?_
    refine va_get (D := (dC, dI)) (ci := 11) (v := .ref ch) (C := RX11) (T := TX11) (N := 7) hx hb hts (by decide +kernel) hown hK hP 0 rfl rfl 4 (by decide) (hts (.fieldLink RX11 40 "JoinBench" "choices" "LJoinBench$Choices;") (by decide +kernel)) (fun _ h9 => h9) rfl dX11_count_92 ?_
    refine va_get (D := (dC, dI)) (ci := 1) (v := .int 0) (C := RX1) (T := TX1) (N := 6) hx hb hts (by decide +kernel) hown hK hP 5 rfl rfl 1 (by decide) (hts (.fieldLink RX11 232 "JoinBench$Choices" "size" "I") (by decide +kernel)) (fun _ h9 => h9) rfl dX11_count_95 ?_
    exact W.iret (v := 0) hx hb hr (fun t ht hW => ⟨0, rfl, (by decide), ht⟩) (fun q h => absurd h List.not_mem_nil) dX11_count_98
  · refine lv_tableIn (off := 98) (tgt := 99) hx hb dX11_count_1 (by decide) (by decide) rfl (by decide) ?_
    refine lv_aload_n hx hb dX11_count_99 rfl (lv_at hl 0 rfl) ?_
    refine va_get (D := (dC, dI)) (ci := 11) (v := .int 1) (C := RX11) (T := TX11) (N := 7) hx hb hts (by decide +kernel) hown hK hP 0 rfl rfl 6 (by decide) (hts (.fieldLink RX11 48 "JoinBench" "step" "I") (by decide +kernel)) (fun _ h9 => h9) rfl dX11_count_100 ?_
    exact W.iret (v := 1) hx hb hr (fun t ht hW => ⟨1, rfl, (by decide), ht⟩) (fun q h => absurd h List.not_mem_nil) dX11_count_103
  · refine lv_tableIn (off := 103) (tgt := 104) hx hb dX11_count_1 (by decide) (by decide) rfl (by decide) ?_
    refine lv_aload_n hx hb dX11_count_104 rfl (lv_at hl 0 rfl) ?_
    refine va_get (D := (dC, dI)) (ci := 11) (v := .ref rw) (C := RX11) (T := TX11) (N := 7) hx hb hts (by decide +kernel) hown hK hP 0 rfl rfl 2 (by decide) (hts (.fieldLink RX11 26 "JoinBench" "row" "LJoinBench$Row;") (by decide +kernel)) (fun _ h9 => h9) rfl dX11_count_105 ?_
    refine va_get (D := (dC, dI)) (ci := 6) (v := .ref rc) (C := RX6) (T := TX6) (N := 4) hx hb hts (by decide +kernel) hown hK hP 3 rfl rfl 0 (by decide) (hts (.fieldLink RX11 135 "JoinBench$Row" "chain" "LJoinBench$Chain;") (by decide +kernel)) (fun _ h9 => h9) rfl dX11_count_108 ?_
    have hPc := hP.sub (ws' := [(rc, .inr (0, [.ref cf, .ref cr, .int 0]))]) [4] rfl
    have hKc := hK.sub (tys' := []) [] rfl
    refine vp_callSi (va_Run.run (va_runV (As := []) (rest := []) ⟨hx, hb, hml, hown, hts⟩ (k_price0 l dC dI rc cf cr) (cwV 0 hts gX11_count_X0_price rfl rfl rfl (by decide +kernel) ⟨Nat.le_of_ble_eq_true rfl, Nat.le_of_ble_eq_true rfl⟩) ⟨fun a U g mk q => by obtain ⟨q0, qP, qK⟩ := q; exact ⟨q0, qP, va_K.moved (u := U) (U := U.calling g mk a) (Vm.Alike.refl U.vm) qK⟩, va_recv hKc hPc (ci := 0) (q0 := 0) rfl rfl, fun U hU hW => ⟨rfl, by rw [hU]; exact hPc, va_K.moved hW.alike hKc⟩⟩ rfl rfl hl.1 rfl (lv_room (Nat.le_of_ble_eq_true rfl)) dX11_count_111 ⟨Nat.le_of_ble_eq_true rfl, Nat.le_of_ble_eq_true rfl⟩)) (fun r_3 hw_2 => ?_)
    obtain rfl : r_3 = 0 := hw_2
    exact W.iret (v := 0) hx hb hr (fun t ht hW => ⟨0, rfl, (by decide), ht⟩) (fun q h => absurd h List.not_mem_nil) dX11_count_114
