set_option maxHeartbeats 4000000 in
set_option maxRecDepth 100000 in
/-- X12_four -/
theorem m_four (l : Launch) (dC : Nat → ClassId) (dI : Nat → Nat → Nat) (sz : Nat) (m0 : Nat) (rr : Nat → Nat) (cB : ClassId) (n : Nat) (f : Nat → Int32) (v : Int32) (hn : n + 3 < 60) : Met l yX12_four wsX12_four ({ frames := 0, cells := 0, slots := 0, locals := 0 }) (va_Pc [.ref m0, .int v] (fun U => U.heap.size = sz ∧ va_P (dC, dI) vwCl [(m0, .inr (12, [.ref (rr 0), .int (nI n), .int 0, .ref (rr 3), .ref (rr 4), .ref (rr 5), .ref (rr 6), .ref (rr 7), .ref (rr 8), .int 0, .ref (rr 10), .ref (rr 11), .ref (rr 12), .ref (rr 13), .ref (rr 14), .ref (rr 15), .ref (rr 16), .ref (rr 17), .ref (rr 18), .ref (rr 19), .int 1, .int 0, .int 0, .ref (rr 23), .ref (rr 24), .ref (rr 25), .int 0, .ref (rr 27), .int 0, .ref (rr 29), .ref (rr 30), .ref (rr 31), .ref (rr 32), .ref (rr 33), .int 0, .int 0, .long 0, .long 0, .int 0, .int 0, .ref (rr 40), .ref (rr 41), .ref (rr 42), .ref (rr 43), .ref (rr 44), .ref (rr 45), .int 0, .ref (rr 47), .ref (rr 48)])), ((rr 0), .inl (cB, 60, .inl f))] U.heap ∧ va_K (dC, dI) vwCl [(cB, .byte)] U ∧ va_D (fun _ => True) [(m0, .inr (12, [.ref (rr 0), .int (nI n), .int 0, .ref (rr 3), .ref (rr 4), .ref (rr 5), .ref (rr 6), .ref (rr 7), .ref (rr 8), .int 0, .ref (rr 10), .ref (rr 11), .ref (rr 12), .ref (rr 13), .ref (rr 14), .ref (rr 15), .ref (rr 16), .ref (rr 17), .ref (rr 18), .ref (rr 19), .int 1, .int 0, .int 0, .ref (rr 23), .ref (rr 24), .ref (rr 25), .int 0, .ref (rr 27), .int 0, .ref (rr 29), .ref (rr 30), .ref (rr 31), .ref (rr 32), .ref (rr 33), .int 0, .int 0, .long 0, .long 0, .int 0, .int 0, .ref (rr 40), .ref (rr 41), .ref (rr 42), .ref (rr 43), .ref (rr 44), .ref (rr 45), .int 0, .ref (rr 47), .ref (rr 48)])), ((rr 0), .inl (cB, 60, .inl f))])) (va_Qv (fun (u : Nat → Int32) => True) (fun (u : Nat → Int32) (t : State) => va_P (dC, dI) vwCl [(m0, .inr (12, [.ref (rr 0), .int (nI (n + 4)), .int 0, .ref (rr 3), .ref (rr 4), .ref (rr 5), .ref (rr 6), .ref (rr 7), .ref (rr 8), .int 0, .ref (rr 10), .ref (rr 11), .ref (rr 12), .ref (rr 13), .ref (rr 14), .ref (rr 15), .ref (rr 16), .ref (rr 17), .ref (rr 18), .ref (rr 19), .int 1, .int 0, .int 0, .ref (rr 23), .ref (rr 24), .ref (rr 25), .int 0, .ref (rr 27), .int 0, .ref (rr 29), .ref (rr 30), .ref (rr 31), .ref (rr 32), .ref (rr 33), .int 0, .int 0, .long 0, .long 0, .int 0, .int 0, .ref (rr 40), .ref (rr 41), .ref (rr 42), .ref (rr 43), .ref (rr 44), .ref (rr 45), .int 0, .ref (rr 47), .ref (rr 48)])), ((rr 0), .inl (cB, 60, .inl u))] t.heap ∧ va_K (dC, dI) vwCl [(cB, .byte)] t ∧ va_D (va_A [(m0, .inr (12, [.ref (rr 0), .int (nI n), .int 0, .ref (rr 3), .ref (rr 4), .ref (rr 5), .ref (rr 6), .ref (rr 7), .ref (rr 8), .int 0, .ref (rr 10), .ref (rr 11), .ref (rr 12), .ref (rr 13), .ref (rr 14), .ref (rr 15), .ref (rr 16), .ref (rr 17), .ref (rr 18), .ref (rr 19), .int 1, .int 0, .int 0, .ref (rr 23), .ref (rr 24), .ref (rr 25), .int 0, .ref (rr 27), .int 0, .ref (rr 29), .ref (rr 30), .ref (rr 31), .ref (rr 32), .ref (rr 33), .int 0, .int 0, .long 0, .long 0, .int 0, .int 0, .ref (rr 40), .ref (rr 41), .ref (rr 42), .ref (rr 43), .ref (rr 44), .ref (rr 45), .int 0, .ref (rr 47), .ref (rr 48)])), ((rr 0), .inl (cB, 60, .inl f))] sz) [(m0, .inr (12, [.ref (rr 0), .int (nI (n + 4)), .int 0, .ref (rr 3), .ref (rr 4), .ref (rr 5), .ref (rr 6), .ref (rr 7), .ref (rr 8), .int 0, .ref (rr 10), .ref (rr 11), .ref (rr 12), .ref (rr 13), .ref (rr 14), .ref (rr 15), .ref (rr 16), .ref (rr 17), .ref (rr 18), .ref (rr 19), .int 1, .int 0, .int 0, .ref (rr 23), .ref (rr 24), .ref (rr 25), .int 0, .ref (rr 27), .int 0, .ref (rr 29), .ref (rr 30), .ref (rr 31), .ref (rr 32), .ref (rr 33), .int 0, .int 0, .long 0, .long 0, .int 0, .int 0, .ref (rr 40), .ref (rr 41), .ref (rr 42), .ref (rr 43), .ref (rr 44), .ref (rr 45), .int 0, .ref (rr 47), .ref (rr 48)])), ((rr 0), .inl (cB, 60, .inl u))]) (va_A [(m0, .inr (12, [.ref (rr 0), .int (nI n), .int 0, .ref (rr 3), .ref (rr 4), .ref (rr 5), .ref (rr 6), .ref (rr 7), .ref (rr 8), .int 0, .ref (rr 10), .ref (rr 11), .ref (rr 12), .ref (rr 13), .ref (rr 14), .ref (rr 15), .ref (rr 16), .ref (rr 17), .ref (rr 18), .ref (rr 19), .int 1, .int 0, .int 0, .ref (rr 23), .ref (rr 24), .ref (rr 25), .int 0, .ref (rr 27), .int 0, .ref (rr 29), .ref (rr 30), .ref (rr 31), .ref (rr 32), .ref (rr 33), .int 0, .int 0, .long 0, .long 0, .int 0, .int 0, .ref (rr 40), .ref (rr 41), .ref (rr 42), .ref (rr 43), .ref (rr 44), .ref (rr 45), .int 0, .ref (rr 47), .ref (rr 48)])), ((rr 0), .inl (cB, 60, .inl f))] sz)) 0 0 (va_A [(m0, .inr (12, [.ref (rr 0), .int (nI n), .int 0, .ref (rr 3), .ref (rr 4), .ref (rr 5), .ref (rr 6), .ref (rr 7), .ref (rr 8), .int 0, .ref (rr 10), .ref (rr 11), .ref (rr 12), .ref (rr 13), .ref (rr 14), .ref (rr 15), .ref (rr 16), .ref (rr 17), .ref (rr 18), .ref (rr 19), .int 1, .int 0, .int 0, .ref (rr 23), .ref (rr 24), .ref (rr 25), .int 0, .ref (rr 27), .int 0, .ref (rr 29), .ref (rr 30), .ref (rr 31), .ref (rr 32), .ref (rr 33), .int 0, .int 0, .long 0, .long 0, .int 0, .int 0, .ref (rr 40), .ref (rr 41), .ref (rr 42), .ref (rr 43), .ref (rr 44), .ref (rr 45), .int 0, .ref (rr 47), .ref (rr 48)])), ((rr 0), .inl (cB, 60, .inl f))] sz) := by
  refine Met.ofW (cc := cX12_four) (maxL := 3) (ret := none) (by decide) rfl ?_
  intro p e s m args below meth c s₁ B hml hv
  obtain ⟨rfl, hsz, hP, hK, hD0⟩ := hv
  have hx := B.exec
  have hb := B.bytes
  have hr := B.returns
  have hts := atoms_spec (ws := wsX12_four) B.pre
  have hown : s.vm.findClass RX12 = some m.cls := findClass_of_methodNamed B.named
  have hlocks := B.notSynchronized
  subst hsz
  have hD := hD0.self (sz := s.heap.size)
  generalize hAe : va_A [(m0, .inr (12, [.ref (rr 0), .int (nI n), .int 0, .ref (rr 3), .ref (rr 4), .ref (rr 5), .ref (rr 6), .ref (rr 7), .ref (rr 8), .int 0, .ref (rr 10), .ref (rr 11), .ref (rr 12), .ref (rr 13), .ref (rr 14), .ref (rr 15), .ref (rr 16), .ref (rr 17), .ref (rr 18), .ref (rr 19), .int 1, .int 0, .int 0, .ref (rr 23), .ref (rr 24), .ref (rr 25), .int 0, .ref (rr 27), .int 0, .ref (rr 29), .ref (rr 30), .ref (rr 31), .ref (rr 32), .ref (rr 33), .int 0, .int 0, .long 0, .long 0, .int 0, .int 0, .ref (rr 40), .ref (rr 41), .ref (rr 42), .ref (rr 43), .ref (rr 44), .ref (rr 45), .int 0, .ref (rr 47), .ref (rr 48)])), ((rr 0), .inl (cB, 60, .inl f))] s.heap.size = A at hD ⊢
  have hA : ∀ q : Nat, s.heap.size ≤ q → A q := fun q h => by rw [← hAe]; exact Or.inr h
  obtain ⟨H, hH⟩ : ∃ H : Heap, H = s.heap := ⟨_, rfl⟩
  have hS : va_S A s.heap H [] := by rw [hH]; exact va_S.rf
  rw [← hH] at hP ⊢
  have hP : va_P (dC, dI) vwCl [(m0, .inr (12, [.ref (rr 0), .int (nI n), .int 0, .ref (rr 3), .ref (rr 4), .ref (rr 5), .ref (rr 6), .ref (rr 7), .ref (rr 8), .int 0, .ref (rr 10), .ref (rr 11), .ref (rr 12), .ref (rr 13), .ref (rr 14), .ref (rr 15), .ref (rr 16), .ref (rr 17), .ref (rr 18), .ref (rr 19), .int 1, .int 0, .int 0, .ref (rr 23), .ref (rr 24), .ref (rr 25), .int 0, .ref (rr 27), .int 0, .ref (rr 29), .ref (rr 30), .ref (rr 31), .ref (rr 32), .ref (rr 33), .int 0, .int 0, .long 0, .long 0, .int 0, .int 0, .ref (rr 40), .ref (rr 41), .ref (rr 42), .ref (rr 43), .ref (rr 44), .ref (rr 45), .int 0, .ref (rr 47), .ref (rr 48)])), ((rr 0), .inl (cB, 60, .inl f))] H := hP
  have hl := lv_entry ([.ref m0, .int v]) (n := 3) (Nat.le_of_ble_eq_true rfl)
  rw [lg_entry_eq]
  generalize (lg_sl ([.ref m0, .int v]) ++ List.replicate (3 - (lg_sl ([.ref m0, .int v])).length) Slot.unset).toArray = ls at hl ⊢
  have hl : lv_has ls 3 [(0, .ref m0), (1, .int v)] := hl
  refine lv_bipush (v := 24) hx hb dX12_four_0 (by decide) ?_
  refine lv_istore_n (lv' := [(2, .int 24), (0, .ref m0), (1, .int v)]) hx hb dX12_four_2 rfl hl (by decide) rfl (fun ls hl => ?_)
  refine lv_iload_n hx hb dX12_four_3 rfl (lv_at hl 0 rfl) ?_
  refine lv_if_lt (tgt := 36) hx hb dX12_four_4 (by decide) (fun c_1 => ?_) (fun c_1 => ?_)
  · exact absurd c_1 (by decide)
  refine lv_aload_n hx hb dX12_four_7 rfl (lv_at hl 1 rfl) ?_
  refine va_get (D := (dC, dI)) (ci := 12) (v := .ref (rr 0)) (C := RX12) (T := TX12) (N := 49) hx hb hts (by decide +kernel) hown hK hP 0 rfl rfl 0 (by decide) (hts (.fieldLink RX12 7 "JoinBenchModel" "tape" "[B") (by decide +kernel)) (fun _ h9 => h9) rfl dX12_four_8 ?_
  refine lv_aload_n hx hb dX12_four_11 rfl (lv_at hl 1 rfl) ?_
  refine va_get (D := (dC, dI)) (ci := 12) (v := .int (nI n)) (C := RX12) (T := TX12) (N := 49) hx hb hts (by decide +kernel) hown hK hP 0 rfl rfl 1 (by decide) (hts (.fieldLink RX12 120 "JoinBenchModel" "taped" "I") (by decide +kernel)) (fun _ h9 => h9) rfl dX12_four_12 ?_
  refine lv_iload_n hx hb dX12_four_15 rfl (lv_at hl 2 rfl) ?_
  refine lv_iload_n hx hb dX12_four_16 rfl (lv_at hl 0 rfl) ?_
  refine lv_ishr hx hb dX12_four_17 ?_
  refine lv_topi (fun y_2 ey_2 => ?_)
  refine lv_i2b (v := (y_2 : Int32).toInt8.toInt32) hx hb dX12_four_18 rfl ?_
  refine va_bast hx hb hK hP hD hS 1 0 rfl rfl (vp_in_nI (show n < 60 from by omega) (by decide)) dX12_four_19 (fun H locs hP hD hS => ?_)
  have hP : va_P (dC, dI) vwCl [(m0, .inr (12, [.ref (rr 0), .int (nI n), .int 0, .ref (rr 3), .ref (rr 4), .ref (rr 5), .ref (rr 6), .ref (rr 7), .ref (rr 8), .int 0, .ref (rr 10), .ref (rr 11), .ref (rr 12), .ref (rr 13), .ref (rr 14), .ref (rr 15), .ref (rr 16), .ref (rr 17), .ref (rr 18), .ref (rr 19), .int 1, .int 0, .int 0, .ref (rr 23), .ref (rr 24), .ref (rr 25), .int 0, .ref (rr 27), .int 0, .ref (rr 29), .ref (rr 30), .ref (rr 31), .ref (rr 32), .ref (rr 33), .int 0, .int 0, .long 0, .long 0, .int 0, .int 0, .ref (rr 40), .ref (rr 41), .ref (rr 42), .ref (rr 43), .ref (rr 44), .ref (rr 45), .int 0, .ref (rr 47), .ref (rr 48)])), ((rr 0), .inl (cB, 60, .inl (upd f (nI n : Int32).toNatClampNeg (vp_nar .byte ((y_2 : Int32).toInt8.toInt32)))))] H := hP
  have hD : va_D A [(m0, .inr (12, [.ref (rr 0), .int (nI n), .int 0, .ref (rr 3), .ref (rr 4), .ref (rr 5), .ref (rr 6), .ref (rr 7), .ref (rr 8), .int 0, .ref (rr 10), .ref (rr 11), .ref (rr 12), .ref (rr 13), .ref (rr 14), .ref (rr 15), .ref (rr 16), .ref (rr 17), .ref (rr 18), .ref (rr 19), .int 1, .int 0, .int 0, .ref (rr 23), .ref (rr 24), .ref (rr 25), .int 0, .ref (rr 27), .int 0, .ref (rr 29), .ref (rr 30), .ref (rr 31), .ref (rr 32), .ref (rr 33), .int 0, .int 0, .long 0, .long 0, .int 0, .int 0, .ref (rr 40), .ref (rr 41), .ref (rr 42), .ref (rr 43), .ref (rr 44), .ref (rr 45), .int 0, .ref (rr 47), .ref (rr 48)])), ((rr 0), .inl (cB, 60, .inl (upd f (nI n : Int32).toNatClampNeg (vp_nar .byte ((y_2 : Int32).toInt8.toInt32)))))] := hD
  generalize (upd f (nI n : Int32).toNatClampNeg (vp_nar .byte ((y_2 : Int32).toInt8.toInt32))) = f_3 at hP hD
  refine lv_aload_n hx hb dX12_four_20 rfl (lv_at hl 1 rfl) ?_
  refine lv_dup hx hb dX12_four_21 rfl ?_
  refine va_get (D := (dC, dI)) (ci := 12) (v := .int (nI n)) (C := RX12) (T := TX12) (N := 49) hx hb hts (by decide +kernel) hown hK hP 0 rfl rfl 1 (by decide) (hts (.fieldLink RX12 120 "JoinBenchModel" "taped" "I") (by decide +kernel)) (fun _ h9 => h9) rfl dX12_four_22 ?_
  refine lv_iconst (v := 1) hx hb dX12_four_25 (by decide) ?_
  refine lv_iadd hx hb dX12_four_26 ?_
  refine lv_topi (fun y_4 ey_4 => ?_)
  obtain rfl : y_4 = nI (n + 1) := ey_4.trans (nI_1 n)
  refine va_put (D := (dC, dI)) (ci := 12) (v := .int (nI (n + 1))) (ty := .int) (C := RX12) (T := TX12) (N := 49) hx hb hts (by decide +kernel) tyX12 tyX12_ok nmX12 hown hK hP hD hS 0 rfl rfl 1 (by decide) (hts (.fieldLink RX12 120 "JoinBenchModel" "taped" "I") (by decide +kernel)) (fun _ h9 => h9) rfl (by decide +kernel) rfl rfl (Nat.le_of_ble_eq_true rfl) dX12_four_27 (fun H locs hP hD hS => ?_)
  have hP : va_P (dC, dI) vwCl [(m0, .inr (12, [.ref (rr 0), .int (nI (n + 1)), .int 0, .ref (rr 3), .ref (rr 4), .ref (rr 5), .ref (rr 6), .ref (rr 7), .ref (rr 8), .int 0, .ref (rr 10), .ref (rr 11), .ref (rr 12), .ref (rr 13), .ref (rr 14), .ref (rr 15), .ref (rr 16), .ref (rr 17), .ref (rr 18), .ref (rr 19), .int 1, .int 0, .int 0, .ref (rr 23), .ref (rr 24), .ref (rr 25), .int 0, .ref (rr 27), .int 0, .ref (rr 29), .ref (rr 30), .ref (rr 31), .ref (rr 32), .ref (rr 33), .int 0, .int 0, .long 0, .long 0, .int 0, .int 0, .ref (rr 40), .ref (rr 41), .ref (rr 42), .ref (rr 43), .ref (rr 44), .ref (rr 45), .int 0, .ref (rr 47), .ref (rr 48)])), ((rr 0), .inl (cB, 60, .inl f_3))] H := hP
  have hD : va_D A [(m0, .inr (12, [.ref (rr 0), .int (nI (n + 1)), .int 0, .ref (rr 3), .ref (rr 4), .ref (rr 5), .ref (rr 6), .ref (rr 7), .ref (rr 8), .int 0, .ref (rr 10), .ref (rr 11), .ref (rr 12), .ref (rr 13), .ref (rr 14), .ref (rr 15), .ref (rr 16), .ref (rr 17), .ref (rr 18), .ref (rr 19), .int 1, .int 0, .int 0, .ref (rr 23), .ref (rr 24), .ref (rr 25), .int 0, .ref (rr 27), .int 0, .ref (rr 29), .ref (rr 30), .ref (rr 31), .ref (rr 32), .ref (rr 33), .int 0, .int 0, .long 0, .long 0, .int 0, .int 0, .ref (rr 40), .ref (rr 41), .ref (rr 42), .ref (rr 43), .ref (rr 44), .ref (rr 45), .int 0, .ref (rr 47), .ref (rr 48)])), ((rr 0), .inl (cB, 60, .inl f_3))] := hD
  refine lv_iinc (v := 16) (lv' := [(2, .int 16), (0, .ref m0), (1, .int v)]) hx hb dX12_four_30 hl (k := 0) rfl (by decide) (by decide) rfl (fun ls hl => ?_)
  refine lv_goto (tgt := 3) hx hb dX12_four_33 (by decide) ?_
  refine lv_iload_n hx hb dX12_four_3 rfl (lv_at hl 0 rfl) ?_
  refine lv_if_lt (tgt := 36) hx hb dX12_four_4 (by decide) (fun c_5 => ?_) (fun c_5 => ?_)
  · exact absurd c_5 (by decide)
  refine lv_aload_n hx hb dX12_four_7 rfl (lv_at hl 1 rfl) ?_
  refine va_get (D := (dC, dI)) (ci := 12) (v := .ref (rr 0)) (C := RX12) (T := TX12) (N := 49) hx hb hts (by decide +kernel) hown hK hP 0 rfl rfl 0 (by decide) (hts (.fieldLink RX12 7 "JoinBenchModel" "tape" "[B") (by decide +kernel)) (fun _ h9 => h9) rfl dX12_four_8 ?_
  refine lv_aload_n hx hb dX12_four_11 rfl (lv_at hl 1 rfl) ?_
  refine va_get (D := (dC, dI)) (ci := 12) (v := .int (nI (n + 1))) (C := RX12) (T := TX12) (N := 49) hx hb hts (by decide +kernel) hown hK hP 0 rfl rfl 1 (by decide) (hts (.fieldLink RX12 120 "JoinBenchModel" "taped" "I") (by decide +kernel)) (fun _ h9 => h9) rfl dX12_four_12 ?_
  refine lv_iload_n hx hb dX12_four_15 rfl (lv_at hl 2 rfl) ?_
  refine lv_iload_n hx hb dX12_four_16 rfl (lv_at hl 0 rfl) ?_
  refine lv_ishr hx hb dX12_four_17 ?_
  refine lv_topi (fun y_6 ey_6 => ?_)
  refine lv_i2b (v := (y_6 : Int32).toInt8.toInt32) hx hb dX12_four_18 rfl ?_
  refine va_bast hx hb hK hP hD hS 1 0 rfl rfl (vp_in_nI (show (n + 1) < 60 from by omega) (by decide)) dX12_four_19 (fun H locs hP hD hS => ?_)
  have hP : va_P (dC, dI) vwCl [(m0, .inr (12, [.ref (rr 0), .int (nI (n + 1)), .int 0, .ref (rr 3), .ref (rr 4), .ref (rr 5), .ref (rr 6), .ref (rr 7), .ref (rr 8), .int 0, .ref (rr 10), .ref (rr 11), .ref (rr 12), .ref (rr 13), .ref (rr 14), .ref (rr 15), .ref (rr 16), .ref (rr 17), .ref (rr 18), .ref (rr 19), .int 1, .int 0, .int 0, .ref (rr 23), .ref (rr 24), .ref (rr 25), .int 0, .ref (rr 27), .int 0, .ref (rr 29), .ref (rr 30), .ref (rr 31), .ref (rr 32), .ref (rr 33), .int 0, .int 0, .long 0, .long 0, .int 0, .int 0, .ref (rr 40), .ref (rr 41), .ref (rr 42), .ref (rr 43), .ref (rr 44), .ref (rr 45), .int 0, .ref (rr 47), .ref (rr 48)])), ((rr 0), .inl (cB, 60, .inl (upd f_3 (nI (n + 1) : Int32).toNatClampNeg (vp_nar .byte ((y_6 : Int32).toInt8.toInt32)))))] H := hP
  have hD : va_D A [(m0, .inr (12, [.ref (rr 0), .int (nI (n + 1)), .int 0, .ref (rr 3), .ref (rr 4), .ref (rr 5), .ref (rr 6), .ref (rr 7), .ref (rr 8), .int 0, .ref (rr 10), .ref (rr 11), .ref (rr 12), .ref (rr 13), .ref (rr 14), .ref (rr 15), .ref (rr 16), .ref (rr 17), .ref (rr 18), .ref (rr 19), .int 1, .int 0, .int 0, .ref (rr 23), .ref (rr 24), .ref (rr 25), .int 0, .ref (rr 27), .int 0, .ref (rr 29), .ref (rr 30), .ref (rr 31), .ref (rr 32), .ref (rr 33), .int 0, .int 0, .long 0, .long 0, .int 0, .int 0, .ref (rr 40), .ref (rr 41), .ref (rr 42), .ref (rr 43), .ref (rr 44), .ref (rr 45), .int 0, .ref (rr 47), .ref (rr 48)])), ((rr 0), .inl (cB, 60, .inl (upd f_3 (nI (n + 1) : Int32).toNatClampNeg (vp_nar .byte ((y_6 : Int32).toInt8.toInt32)))))] := hD
  generalize (upd f_3 (nI (n + 1) : Int32).toNatClampNeg (vp_nar .byte ((y_6 : Int32).toInt8.toInt32))) = f_7 at hP hD
  refine lv_aload_n hx hb dX12_four_20 rfl (lv_at hl 1 rfl) ?_
  refine lv_dup hx hb dX12_four_21 rfl ?_
  refine va_get (D := (dC, dI)) (ci := 12) (v := .int (nI (n + 1))) (C := RX12) (T := TX12) (N := 49) hx hb hts (by decide +kernel) hown hK hP 0 rfl rfl 1 (by decide) (hts (.fieldLink RX12 120 "JoinBenchModel" "taped" "I") (by decide +kernel)) (fun _ h9 => h9) rfl dX12_four_22 ?_
  refine lv_iconst (v := 1) hx hb dX12_four_25 (by decide) ?_
  refine lv_iadd hx hb dX12_four_26 ?_
  refine lv_topi (fun y_8 ey_8 => ?_)
  obtain rfl : y_8 = nI ((n + 1) + 1) := ey_8.trans (nI_1 (n + 1))
  refine va_put (D := (dC, dI)) (ci := 12) (v := .int (nI ((n + 1) + 1))) (ty := .int) (C := RX12) (T := TX12) (N := 49) hx hb hts (by decide +kernel) tyX12 tyX12_ok nmX12 hown hK hP hD hS 0 rfl rfl 1 (by decide) (hts (.fieldLink RX12 120 "JoinBenchModel" "taped" "I") (by decide +kernel)) (fun _ h9 => h9) rfl (by decide +kernel) rfl rfl (Nat.le_of_ble_eq_true rfl) dX12_four_27 (fun H locs hP hD hS => ?_)
  have hP : va_P (dC, dI) vwCl [(m0, .inr (12, [.ref (rr 0), .int (nI ((n + 1) + 1)), .int 0, .ref (rr 3), .ref (rr 4), .ref (rr 5), .ref (rr 6), .ref (rr 7), .ref (rr 8), .int 0, .ref (rr 10), .ref (rr 11), .ref (rr 12), .ref (rr 13), .ref (rr 14), .ref (rr 15), .ref (rr 16), .ref (rr 17), .ref (rr 18), .ref (rr 19), .int 1, .int 0, .int 0, .ref (rr 23), .ref (rr 24), .ref (rr 25), .int 0, .ref (rr 27), .int 0, .ref (rr 29), .ref (rr 30), .ref (rr 31), .ref (rr 32), .ref (rr 33), .int 0, .int 0, .long 0, .long 0, .int 0, .int 0, .ref (rr 40), .ref (rr 41), .ref (rr 42), .ref (rr 43), .ref (rr 44), .ref (rr 45), .int 0, .ref (rr 47), .ref (rr 48)])), ((rr 0), .inl (cB, 60, .inl f_7))] H := hP
  have hD : va_D A [(m0, .inr (12, [.ref (rr 0), .int (nI ((n + 1) + 1)), .int 0, .ref (rr 3), .ref (rr 4), .ref (rr 5), .ref (rr 6), .ref (rr 7), .ref (rr 8), .int 0, .ref (rr 10), .ref (rr 11), .ref (rr 12), .ref (rr 13), .ref (rr 14), .ref (rr 15), .ref (rr 16), .ref (rr 17), .ref (rr 18), .ref (rr 19), .int 1, .int 0, .int 0, .ref (rr 23), .ref (rr 24), .ref (rr 25), .int 0, .ref (rr 27), .int 0, .ref (rr 29), .ref (rr 30), .ref (rr 31), .ref (rr 32), .ref (rr 33), .int 0, .int 0, .long 0, .long 0, .int 0, .int 0, .ref (rr 40), .ref (rr 41), .ref (rr 42), .ref (rr 43), .ref (rr 44), .ref (rr 45), .int 0, .ref (rr 47), .ref (rr 48)])), ((rr 0), .inl (cB, 60, .inl f_7))] := hD
  refine lv_iinc (v := 8) (lv' := [(2, .int 8), (0, .ref m0), (1, .int v)]) hx hb dX12_four_30 hl (k := 0) rfl (by decide) (by decide) rfl (fun ls hl => ?_)
  refine lv_goto (tgt := 3) hx hb dX12_four_33 (by decide) ?_
  refine lv_iload_n hx hb dX12_four_3 rfl (lv_at hl 0 rfl) ?_
  refine lv_if_lt (tgt := 36) hx hb dX12_four_4 (by decide) (fun c_9 => ?_) (fun c_9 => ?_)
  · exact absurd c_9 (by decide)
  refine lv_aload_n hx hb dX12_four_7 rfl (lv_at hl 1 rfl) ?_
  refine va_get (D := (dC, dI)) (ci := 12) (v := .ref (rr 0)) (C := RX12) (T := TX12) (N := 49) hx hb hts (by decide +kernel) hown hK hP 0 rfl rfl 0 (by decide) (hts (.fieldLink RX12 7 "JoinBenchModel" "tape" "[B") (by decide +kernel)) (fun _ h9 => h9) rfl dX12_four_8 ?_
  refine lv_aload_n hx hb dX12_four_11 rfl (lv_at hl 1 rfl) ?_
  refine va_get (D := (dC, dI)) (ci := 12) (v := .int (nI ((n + 1) + 1))) (C := RX12) (T := TX12) (N := 49) hx hb hts (by decide +kernel) hown hK hP 0 rfl rfl 1 (by decide) (hts (.fieldLink RX12 120 "JoinBenchModel" "taped" "I") (by decide +kernel)) (fun _ h9 => h9) rfl dX12_four_12 ?_
  refine lv_iload_n hx hb dX12_four_15 rfl (lv_at hl 2 rfl) ?_
  refine lv_iload_n hx hb dX12_four_16 rfl (lv_at hl 0 rfl) ?_
  refine lv_ishr hx hb dX12_four_17 ?_
  refine lv_topi (fun y_10 ey_10 => ?_)
  refine lv_i2b (v := (y_10 : Int32).toInt8.toInt32) hx hb dX12_four_18 rfl ?_
  refine va_bast hx hb hK hP hD hS 1 0 rfl rfl (vp_in_nI (show ((n + 1) + 1) < 60 from by omega) (by decide)) dX12_four_19 (fun H locs hP hD hS => ?_)
  have hP : va_P (dC, dI) vwCl [(m0, .inr (12, [.ref (rr 0), .int (nI ((n + 1) + 1)), .int 0, .ref (rr 3), .ref (rr 4), .ref (rr 5), .ref (rr 6), .ref (rr 7), .ref (rr 8), .int 0, .ref (rr 10), .ref (rr 11), .ref (rr 12), .ref (rr 13), .ref (rr 14), .ref (rr 15), .ref (rr 16), .ref (rr 17), .ref (rr 18), .ref (rr 19), .int 1, .int 0, .int 0, .ref (rr 23), .ref (rr 24), .ref (rr 25), .int 0, .ref (rr 27), .int 0, .ref (rr 29), .ref (rr 30), .ref (rr 31), .ref (rr 32), .ref (rr 33), .int 0, .int 0, .long 0, .long 0, .int 0, .int 0, .ref (rr 40), .ref (rr 41), .ref (rr 42), .ref (rr 43), .ref (rr 44), .ref (rr 45), .int 0, .ref (rr 47), .ref (rr 48)])), ((rr 0), .inl (cB, 60, .inl (upd f_7 (nI ((n + 1) + 1) : Int32).toNatClampNeg (vp_nar .byte ((y_10 : Int32).toInt8.toInt32)))))] H := hP
  have hD : va_D A [(m0, .inr (12, [.ref (rr 0), .int (nI ((n + 1) + 1)), .int 0, .ref (rr 3), .ref (rr 4), .ref (rr 5), .ref (rr 6), .ref (rr 7), .ref (rr 8), .int 0, .ref (rr 10), .ref (rr 11), .ref (rr 12), .ref (rr 13), .ref (rr 14), .ref (rr 15), .ref (rr 16), .ref (rr 17), .ref (rr 18), .ref (rr 19), .int 1, .int 0, .int 0, .ref (rr 23), .ref (rr 24), .ref (rr 25), .int 0, .ref (rr 27), .int 0, .ref (rr 29), .ref (rr 30), .ref (rr 31), .ref (rr 32), .ref (rr 33), .int 0, .int 0, .long 0, .long 0, .int 0, .int 0, .ref (rr 40), .ref (rr 41), .ref (rr 42), .ref (rr 43), .ref (rr 44), .ref (rr 45), .int 0, .ref (rr 47), .ref (rr 48)])), ((rr 0), .inl (cB, 60, .inl (upd f_7 (nI ((n + 1) + 1) : Int32).toNatClampNeg (vp_nar .byte ((y_10 : Int32).toInt8.toInt32)))))] := hD
  generalize (upd f_7 (nI ((n + 1) + 1) : Int32).toNatClampNeg (vp_nar .byte ((y_10 : Int32).toInt8.toInt32))) = f_11 at hP hD
  refine lv_aload_n hx hb dX12_four_20 rfl (lv_at hl 1 rfl) ?_
  refine lv_dup hx hb dX12_four_21 rfl ?_
  refine va_get (D := (dC, dI)) (ci := 12) (v := .int (nI ((n + 1) + 1))) (C := RX12) (T := TX12) (N := 49) hx hb hts (by decide +kernel) hown hK hP 0 rfl rfl 1 (by decide) (hts (.fieldLink RX12 120 "JoinBenchModel" "taped" "I") (by decide +kernel)) (fun _ h9 => h9) rfl dX12_four_22 ?_
  refine lv_iconst (v := 1) hx hb dX12_four_25 (by decide) ?_
  refine lv_iadd hx hb dX12_four_26 ?_
  refine lv_topi (fun y_12 ey_12 => ?_)
  obtain rfl : y_12 = nI (((n + 1) + 1) + 1) := ey_12.trans (nI_1 ((n + 1) + 1))
  refine va_put (D := (dC, dI)) (ci := 12) (v := .int (nI (((n + 1) + 1) + 1))) (ty := .int) (C := RX12) (T := TX12) (N := 49) hx hb hts (by decide +kernel) tyX12 tyX12_ok nmX12 hown hK hP hD hS 0 rfl rfl 1 (by decide) (hts (.fieldLink RX12 120 "JoinBenchModel" "taped" "I") (by decide +kernel)) (fun _ h9 => h9) rfl (by decide +kernel) rfl rfl (Nat.le_of_ble_eq_true rfl) dX12_four_27 (fun H locs hP hD hS => ?_)
  have hP : va_P (dC, dI) vwCl [(m0, .inr (12, [.ref (rr 0), .int (nI (((n + 1) + 1) + 1)), .int 0, .ref (rr 3), .ref (rr 4), .ref (rr 5), .ref (rr 6), .ref (rr 7), .ref (rr 8), .int 0, .ref (rr 10), .ref (rr 11), .ref (rr 12), .ref (rr 13), .ref (rr 14), .ref (rr 15), .ref (rr 16), .ref (rr 17), .ref (rr 18), .ref (rr 19), .int 1, .int 0, .int 0, .ref (rr 23), .ref (rr 24), .ref (rr 25), .int 0, .ref (rr 27), .int 0, .ref (rr 29), .ref (rr 30), .ref (rr 31), .ref (rr 32), .ref (rr 33), .int 0, .int 0, .long 0, .long 0, .int 0, .int 0, .ref (rr 40), .ref (rr 41), .ref (rr 42), .ref (rr 43), .ref (rr 44), .ref (rr 45), .int 0, .ref (rr 47), .ref (rr 48)])), ((rr 0), .inl (cB, 60, .inl f_11))] H := hP
  have hD : va_D A [(m0, .inr (12, [.ref (rr 0), .int (nI (((n + 1) + 1) + 1)), .int 0, .ref (rr 3), .ref (rr 4), .ref (rr 5), .ref (rr 6), .ref (rr 7), .ref (rr 8), .int 0, .ref (rr 10), .ref (rr 11), .ref (rr 12), .ref (rr 13), .ref (rr 14), .ref (rr 15), .ref (rr 16), .ref (rr 17), .ref (rr 18), .ref (rr 19), .int 1, .int 0, .int 0, .ref (rr 23), .ref (rr 24), .ref (rr 25), .int 0, .ref (rr 27), .int 0, .ref (rr 29), .ref (rr 30), .ref (rr 31), .ref (rr 32), .ref (rr 33), .int 0, .int 0, .long 0, .long 0, .int 0, .int 0, .ref (rr 40), .ref (rr 41), .ref (rr 42), .ref (rr 43), .ref (rr 44), .ref (rr 45), .int 0, .ref (rr 47), .ref (rr 48)])), ((rr 0), .inl (cB, 60, .inl f_11))] := hD
  refine lv_iinc (v := 0) (lv' := [(2, .int 0), (0, .ref m0), (1, .int v)]) hx hb dX12_four_30 hl (k := 0) rfl (by decide) (by decide) rfl (fun ls hl => ?_)
  refine lv_goto (tgt := 3) hx hb dX12_four_33 (by decide) ?_
  refine lv_iload_n hx hb dX12_four_3 rfl (lv_at hl 0 rfl) ?_
  refine lv_if_lt (tgt := 36) hx hb dX12_four_4 (by decide) (fun c_13 => ?_) (fun c_13 => ?_)
  · exact absurd c_13 (by decide)
  refine lv_aload_n hx hb dX12_four_7 rfl (lv_at hl 1 rfl) ?_
  refine va_get (D := (dC, dI)) (ci := 12) (v := .ref (rr 0)) (C := RX12) (T := TX12) (N := 49) hx hb hts (by decide +kernel) hown hK hP 0 rfl rfl 0 (by decide) (hts (.fieldLink RX12 7 "JoinBenchModel" "tape" "[B") (by decide +kernel)) (fun _ h9 => h9) rfl dX12_four_8 ?_
  refine lv_aload_n hx hb dX12_four_11 rfl (lv_at hl 1 rfl) ?_
  refine va_get (D := (dC, dI)) (ci := 12) (v := .int (nI (((n + 1) + 1) + 1))) (C := RX12) (T := TX12) (N := 49) hx hb hts (by decide +kernel) hown hK hP 0 rfl rfl 1 (by decide) (hts (.fieldLink RX12 120 "JoinBenchModel" "taped" "I") (by decide +kernel)) (fun _ h9 => h9) rfl dX12_four_12 ?_
  refine lv_iload_n hx hb dX12_four_15 rfl (lv_at hl 2 rfl) ?_
  refine lv_iload_n hx hb dX12_four_16 rfl (lv_at hl 0 rfl) ?_
  refine lv_ishr hx hb dX12_four_17 ?_
  refine lv_topi (fun y_14 ey_14 => ?_)
  refine lv_i2b (v := (y_14 : Int32).toInt8.toInt32) hx hb dX12_four_18 rfl ?_
  refine va_bast hx hb hK hP hD hS 1 0 rfl rfl (vp_in_nI (show (((n + 1) + 1) + 1) < 60 from by omega) (by decide)) dX12_four_19 (fun H locs hP hD hS => ?_)
  have hP : va_P (dC, dI) vwCl [(m0, .inr (12, [.ref (rr 0), .int (nI (((n + 1) + 1) + 1)), .int 0, .ref (rr 3), .ref (rr 4), .ref (rr 5), .ref (rr 6), .ref (rr 7), .ref (rr 8), .int 0, .ref (rr 10), .ref (rr 11), .ref (rr 12), .ref (rr 13), .ref (rr 14), .ref (rr 15), .ref (rr 16), .ref (rr 17), .ref (rr 18), .ref (rr 19), .int 1, .int 0, .int 0, .ref (rr 23), .ref (rr 24), .ref (rr 25), .int 0, .ref (rr 27), .int 0, .ref (rr 29), .ref (rr 30), .ref (rr 31), .ref (rr 32), .ref (rr 33), .int 0, .int 0, .long 0, .long 0, .int 0, .int 0, .ref (rr 40), .ref (rr 41), .ref (rr 42), .ref (rr 43), .ref (rr 44), .ref (rr 45), .int 0, .ref (rr 47), .ref (rr 48)])), ((rr 0), .inl (cB, 60, .inl (upd f_11 (nI (((n + 1) + 1) + 1) : Int32).toNatClampNeg (vp_nar .byte ((y_14 : Int32).toInt8.toInt32)))))] H := hP
  have hD : va_D A [(m0, .inr (12, [.ref (rr 0), .int (nI (((n + 1) + 1) + 1)), .int 0, .ref (rr 3), .ref (rr 4), .ref (rr 5), .ref (rr 6), .ref (rr 7), .ref (rr 8), .int 0, .ref (rr 10), .ref (rr 11), .ref (rr 12), .ref (rr 13), .ref (rr 14), .ref (rr 15), .ref (rr 16), .ref (rr 17), .ref (rr 18), .ref (rr 19), .int 1, .int 0, .int 0, .ref (rr 23), .ref (rr 24), .ref (rr 25), .int 0, .ref (rr 27), .int 0, .ref (rr 29), .ref (rr 30), .ref (rr 31), .ref (rr 32), .ref (rr 33), .int 0, .int 0, .long 0, .long 0, .int 0, .int 0, .ref (rr 40), .ref (rr 41), .ref (rr 42), .ref (rr 43), .ref (rr 44), .ref (rr 45), .int 0, .ref (rr 47), .ref (rr 48)])), ((rr 0), .inl (cB, 60, .inl (upd f_11 (nI (((n + 1) + 1) + 1) : Int32).toNatClampNeg (vp_nar .byte ((y_14 : Int32).toInt8.toInt32)))))] := hD
  generalize (upd f_11 (nI (((n + 1) + 1) + 1) : Int32).toNatClampNeg (vp_nar .byte ((y_14 : Int32).toInt8.toInt32))) = f_15 at hP hD
  refine lv_aload_n hx hb dX12_four_20 rfl (lv_at hl 1 rfl) ?_
  refine lv_dup hx hb dX12_four_21 rfl ?_
  refine va_get (D := (dC, dI)) (ci := 12) (v := .int (nI (((n + 1) + 1) + 1))) (C := RX12) (T := TX12) (N := 49) hx hb hts (by decide +kernel) hown hK hP 0 rfl rfl 1 (by decide) (hts (.fieldLink RX12 120 "JoinBenchModel" "taped" "I") (by decide +kernel)) (fun _ h9 => h9) rfl dX12_four_22 ?_
  refine lv_iconst (v := 1) hx hb dX12_four_25 (by decide) ?_
  refine lv_iadd hx hb dX12_four_26 ?_
  refine lv_topi (fun y_16 ey_16 => ?_)
  obtain rfl : y_16 = nI ((((n + 1) + 1) + 1) + 1) := ey_16.trans (nI_1 (((n + 1) + 1) + 1))
  refine va_put (D := (dC, dI)) (ci := 12) (v := .int (nI ((((n + 1) + 1) + 1) + 1))) (ty := .int) (C := RX12) (T := TX12) (N := 49) hx hb hts (by decide +kernel) tyX12 tyX12_ok nmX12 hown hK hP hD hS 0 rfl rfl 1 (by decide) (hts (.fieldLink RX12 120 "JoinBenchModel" "taped" "I") (by decide +kernel)) (fun _ h9 => h9) rfl (by decide +kernel) rfl rfl (Nat.le_of_ble_eq_true rfl) dX12_four_27 (fun H locs hP hD hS => ?_)
  have hP : va_P (dC, dI) vwCl [(m0, .inr (12, [.ref (rr 0), .int (nI ((((n + 1) + 1) + 1) + 1)), .int 0, .ref (rr 3), .ref (rr 4), .ref (rr 5), .ref (rr 6), .ref (rr 7), .ref (rr 8), .int 0, .ref (rr 10), .ref (rr 11), .ref (rr 12), .ref (rr 13), .ref (rr 14), .ref (rr 15), .ref (rr 16), .ref (rr 17), .ref (rr 18), .ref (rr 19), .int 1, .int 0, .int 0, .ref (rr 23), .ref (rr 24), .ref (rr 25), .int 0, .ref (rr 27), .int 0, .ref (rr 29), .ref (rr 30), .ref (rr 31), .ref (rr 32), .ref (rr 33), .int 0, .int 0, .long 0, .long 0, .int 0, .int 0, .ref (rr 40), .ref (rr 41), .ref (rr 42), .ref (rr 43), .ref (rr 44), .ref (rr 45), .int 0, .ref (rr 47), .ref (rr 48)])), ((rr 0), .inl (cB, 60, .inl f_15))] H := hP
  have hD : va_D A [(m0, .inr (12, [.ref (rr 0), .int (nI ((((n + 1) + 1) + 1) + 1)), .int 0, .ref (rr 3), .ref (rr 4), .ref (rr 5), .ref (rr 6), .ref (rr 7), .ref (rr 8), .int 0, .ref (rr 10), .ref (rr 11), .ref (rr 12), .ref (rr 13), .ref (rr 14), .ref (rr 15), .ref (rr 16), .ref (rr 17), .ref (rr 18), .ref (rr 19), .int 1, .int 0, .int 0, .ref (rr 23), .ref (rr 24), .ref (rr 25), .int 0, .ref (rr 27), .int 0, .ref (rr 29), .ref (rr 30), .ref (rr 31), .ref (rr 32), .ref (rr 33), .int 0, .int 0, .long 0, .long 0, .int 0, .int 0, .ref (rr 40), .ref (rr 41), .ref (rr 42), .ref (rr 43), .ref (rr 44), .ref (rr 45), .int 0, .ref (rr 47), .ref (rr 48)])), ((rr 0), .inl (cB, 60, .inl f_15))] := hD
  refine lv_iinc (v := (-8)) (lv' := [(2, .int (-8)), (0, .ref m0), (1, .int v)]) hx hb dX12_four_30 hl (k := 0) rfl (by decide) (by decide) rfl (fun ls hl => ?_)
  refine lv_goto (tgt := 3) hx hb dX12_four_33 (by decide) ?_
  refine lv_iload_n hx hb dX12_four_3 rfl (lv_at hl 0 rfl) ?_
  refine lv_if_lt (tgt := 36) hx hb dX12_four_4 (by decide) (fun c_17 => ?_) (fun c_17 => ?_)
  rotate_left
  · exact absurd (by decide) c_17
  have hP9 := hP.sub (ws' := [(m0, .inr (12, [.ref (rr 0), .int (nI ((((n + 1) + 1) + 1) + 1)), .int 0, .ref (rr 3), .ref (rr 4), .ref (rr 5), .ref (rr 6), .ref (rr 7), .ref (rr 8), .int 0, .ref (rr 10), .ref (rr 11), .ref (rr 12), .ref (rr 13), .ref (rr 14), .ref (rr 15), .ref (rr 16), .ref (rr 17), .ref (rr 18), .ref (rr 19), .int 1, .int 0, .int 0, .ref (rr 23), .ref (rr 24), .ref (rr 25), .int 0, .ref (rr 27), .int 0, .ref (rr 29), .ref (rr 30), .ref (rr 31), .ref (rr 32), .ref (rr 33), .int 0, .int 0, .long 0, .long 0, .int 0, .int 0, .ref (rr 40), .ref (rr 41), .ref (rr 42), .ref (rr 43), .ref (rr 44), .ref (rr 45), .int 0, .ref (rr 47), .ref (rr 48)])), ((rr 0), .inl (cB, 60, .inl f_15))]) [0, 1] rfl
  have hD9 := hD.sub (ws' := [(m0, .inr (12, [.ref (rr 0), .int (nI ((((n + 1) + 1) + 1) + 1)), .int 0, .ref (rr 3), .ref (rr 4), .ref (rr 5), .ref (rr 6), .ref (rr 7), .ref (rr 8), .int 0, .ref (rr 10), .ref (rr 11), .ref (rr 12), .ref (rr 13), .ref (rr 14), .ref (rr 15), .ref (rr 16), .ref (rr 17), .ref (rr 18), .ref (rr 19), .int 1, .int 0, .int 0, .ref (rr 23), .ref (rr 24), .ref (rr 25), .int 0, .ref (rr 27), .int 0, .ref (rr 29), .ref (rr 30), .ref (rr 31), .ref (rr 32), .ref (rr 33), .int 0, .int 0, .long 0, .long 0, .int 0, .int 0, .ref (rr 40), .ref (rr 41), .ref (rr 42), .ref (rr 43), .ref (rr 44), .ref (rr 45), .int 0, .ref (rr 47), .ref (rr 48)])), ((rr 0), .inl (cB, 60, .inl f_15))]) [0, 1] (by decide) rfl
  have hK9 := hK.sub (tys' := [(cB, .byte)]) [0] rfl
  refine W.widen (k := 0) (n := 0) (Nat.le_of_ble_eq_true rfl) (Nat.le_of_ble_eq_true rfl) ?_
  exact W.vret hx hb hr (fun t ht hW => ⟨⟨f_15, rfl, trivial, by rw [ht]; exact hP9, va_K.moved hW.alike hK9, hD9⟩, hS.F ht⟩) hS.2.2 dX12_four_36
set_option maxHeartbeats 4000000 in
set_option maxRecDepth 100000 in
/-- X12_feed -/
theorem m_feed0 (l : Launch) (dC : Nat → ClassId) (dI : Nat → Nat → Nat) (sz : Nat) (m0 : Nat) (rr : Nat → Nat) (cB : ClassId) (f : Nat → Int32) (a0 : Int32) (a1 : Int32) (a2 : Int32) (a3 : Int32) (a4 : Int32) : Met l yX12_feed wsX12_feed ({ frames := 1, cells := 0, slots := 0, locals := 22 }) (va_Pc [.ref m0, .int a0, .int a1, .int a2, .int a3, .int a4] (fun U => U.heap.size = sz ∧ va_P (dC, dI) vwCl [(m0, .inr (12, [.ref (rr 0), .int 0, .int 0, .ref (rr 3), .ref (rr 4), .ref (rr 5), .ref (rr 6), .ref (rr 7), .ref (rr 8), .int 0, .ref (rr 10), .ref (rr 11), .ref (rr 12), .ref (rr 13), .ref (rr 14), .ref (rr 15), .ref (rr 16), .ref (rr 17), .ref (rr 18), .ref (rr 19), .int 1, .int 0, .int 0, .ref (rr 23), .ref (rr 24), .ref (rr 25), .int 0, .ref (rr 27), .int 0, .ref (rr 29), .ref (rr 30), .ref (rr 31), .ref (rr 32), .ref (rr 33), .int 0, .int 0, .long 0, .long 0, .int 0, .int 0, .ref (rr 40), .ref (rr 41), .ref (rr 42), .ref (rr 43), .ref (rr 44), .ref (rr 45), .int 0, .ref (rr 47), .ref (rr 48)])), ((rr 0), .inl (cB, 60, .inl f))] U.heap ∧ va_K (dC, dI) vwCl [(cB, .byte)] U ∧ va_D (fun _ => True) [(m0, .inr (12, [.ref (rr 0), .int 0, .int 0, .ref (rr 3), .ref (rr 4), .ref (rr 5), .ref (rr 6), .ref (rr 7), .ref (rr 8), .int 0, .ref (rr 10), .ref (rr 11), .ref (rr 12), .ref (rr 13), .ref (rr 14), .ref (rr 15), .ref (rr 16), .ref (rr 17), .ref (rr 18), .ref (rr 19), .int 1, .int 0, .int 0, .ref (rr 23), .ref (rr 24), .ref (rr 25), .int 0, .ref (rr 27), .int 0, .ref (rr 29), .ref (rr 30), .ref (rr 31), .ref (rr 32), .ref (rr 33), .int 0, .int 0, .long 0, .long 0, .int 0, .int 0, .ref (rr 40), .ref (rr 41), .ref (rr 42), .ref (rr 43), .ref (rr 44), .ref (rr 45), .int 0, .ref (rr 47), .ref (rr 48)])), ((rr 0), .inl (cB, 60, .inl f))])) (va_Qi (fun (r : Int32) (_ : Unit) => r = 20) (fun (_ : Unit) (_ : State) => True) (va_A [(m0, .inr (12, [.ref (rr 0), .int 0, .int 0, .ref (rr 3), .ref (rr 4), .ref (rr 5), .ref (rr 6), .ref (rr 7), .ref (rr 8), .int 0, .ref (rr 10), .ref (rr 11), .ref (rr 12), .ref (rr 13), .ref (rr 14), .ref (rr 15), .ref (rr 16), .ref (rr 17), .ref (rr 18), .ref (rr 19), .int 1, .int 0, .int 0, .ref (rr 23), .ref (rr 24), .ref (rr 25), .int 0, .ref (rr 27), .int 0, .ref (rr 29), .ref (rr 30), .ref (rr 31), .ref (rr 32), .ref (rr 33), .int 0, .int 0, .long 0, .long 0, .int 0, .int 0, .ref (rr 40), .ref (rr 41), .ref (rr 42), .ref (rr 43), .ref (rr 44), .ref (rr 45), .int 0, .ref (rr 47), .ref (rr 48)])), ((rr 0), .inl (cB, 60, .inl f))] sz)) 0 0 (va_A [(m0, .inr (12, [.ref (rr 0), .int 0, .int 0, .ref (rr 3), .ref (rr 4), .ref (rr 5), .ref (rr 6), .ref (rr 7), .ref (rr 8), .int 0, .ref (rr 10), .ref (rr 11), .ref (rr 12), .ref (rr 13), .ref (rr 14), .ref (rr 15), .ref (rr 16), .ref (rr 17), .ref (rr 18), .ref (rr 19), .int 1, .int 0, .int 0, .ref (rr 23), .ref (rr 24), .ref (rr 25), .int 0, .ref (rr 27), .int 0, .ref (rr 29), .ref (rr 30), .ref (rr 31), .ref (rr 32), .ref (rr 33), .int 0, .int 0, .long 0, .long 0, .int 0, .int 0, .ref (rr 40), .ref (rr 41), .ref (rr 42), .ref (rr 43), .ref (rr 44), .ref (rr 45), .int 0, .ref (rr 47), .ref (rr 48)])), ((rr 0), .inl (cB, 60, .inl f))] sz) := by
  refine Met.ofW (cc := cX12_feed) (maxL := 6) (ret := (some .int)) (by decide) rfl ?_
  intro p e s m args below meth c s₁ B hml hv
  obtain ⟨rfl, hsz, hP, hK, hD0⟩ := hv
  have hx := B.exec
  have hb := B.bytes
  have hr := B.returns
  have hts := atoms_spec (ws := wsX12_feed) B.pre
  have hown : s.vm.findClass RX12 = some m.cls := findClass_of_methodNamed B.named
  have hlocks := B.notSynchronized
  subst hsz
  have hD := hD0.self (sz := s.heap.size)
  generalize hAe : va_A [(m0, .inr (12, [.ref (rr 0), .int 0, .int 0, .ref (rr 3), .ref (rr 4), .ref (rr 5), .ref (rr 6), .ref (rr 7), .ref (rr 8), .int 0, .ref (rr 10), .ref (rr 11), .ref (rr 12), .ref (rr 13), .ref (rr 14), .ref (rr 15), .ref (rr 16), .ref (rr 17), .ref (rr 18), .ref (rr 19), .int 1, .int 0, .int 0, .ref (rr 23), .ref (rr 24), .ref (rr 25), .int 0, .ref (rr 27), .int 0, .ref (rr 29), .ref (rr 30), .ref (rr 31), .ref (rr 32), .ref (rr 33), .int 0, .int 0, .long 0, .long 0, .int 0, .int 0, .ref (rr 40), .ref (rr 41), .ref (rr 42), .ref (rr 43), .ref (rr 44), .ref (rr 45), .int 0, .ref (rr 47), .ref (rr 48)])), ((rr 0), .inl (cB, 60, .inl f))] s.heap.size = A at hD ⊢
  have hA : ∀ q : Nat, s.heap.size ≤ q → A q := fun q h => by rw [← hAe]; exact Or.inr h
  obtain ⟨H, hH⟩ : ∃ H : Heap, H = s.heap := ⟨_, rfl⟩
  have hS : va_S A s.heap H [] := by rw [hH]; exact va_S.rf
  rw [← hH] at hP ⊢
  have hP : va_P (dC, dI) vwCl [(m0, .inr (12, [.ref (rr 0), .int 0, .int 0, .ref (rr 3), .ref (rr 4), .ref (rr 5), .ref (rr 6), .ref (rr 7), .ref (rr 8), .int 0, .ref (rr 10), .ref (rr 11), .ref (rr 12), .ref (rr 13), .ref (rr 14), .ref (rr 15), .ref (rr 16), .ref (rr 17), .ref (rr 18), .ref (rr 19), .int 1, .int 0, .int 0, .ref (rr 23), .ref (rr 24), .ref (rr 25), .int 0, .ref (rr 27), .int 0, .ref (rr 29), .ref (rr 30), .ref (rr 31), .ref (rr 32), .ref (rr 33), .int 0, .int 0, .long 0, .long 0, .int 0, .int 0, .ref (rr 40), .ref (rr 41), .ref (rr 42), .ref (rr 43), .ref (rr 44), .ref (rr 45), .int 0, .ref (rr 47), .ref (rr 48)])), ((rr 0), .inl (cB, 60, .inl f))] H := hP
  have hl := lv_entry ([.ref m0, .int a0, .int a1, .int a2, .int a3, .int a4]) (n := 6) (Nat.le_of_ble_eq_true rfl)
  rw [lg_entry_eq]
  generalize (lg_sl ([.ref m0, .int a0, .int a1, .int a2, .int a3, .int a4]) ++ List.replicate (6 - (lg_sl ([.ref m0, .int a0, .int a1, .int a2, .int a3, .int a4])).length) Slot.unset).toArray = ls at hl ⊢
  have hl : lv_has ls 6 [(0, .ref m0), (1, .int a0), (2, .int a1), (3, .int a2), (4, .int a3), (5, .int a4)] := hl
  refine lv_aload_n hx hb dX12_feed_0 rfl (lv_at hl 0 rfl) ?_
  refine va_get (D := (dC, dI)) (ci := 12) (v := .int 0) (C := RX12) (T := TX12) (N := 49) hx hb hts (by decide +kernel) hown hK hP 0 rfl rfl 1 (by decide) (hts (.fieldLink RX12 120 "JoinBenchModel" "taped" "I") (by decide +kernel)) (fun _ h9 => h9) rfl dX12_feed_1 ?_
  refine lv_bipush (v := 20) hx hb dX12_feed_4 (by decide) ?_
  refine lv_iadd hx hb dX12_feed_6 ?_
  refine lv_topi (fun y_1 ey_1 => ?_)
  obtain rfl : y_1 = 20 := ey_1.trans (by decide)
  refine lv_bipush (v := 60) hx hb dX12_feed_7 (by decide) ?_
  refine lv_icmp_le (tgt := 14) hx hb dX12_feed_9 (by decide) (fun c_2 => ?_) (fun c_2 => ?_)
  rotate_left
  · exact absurd (by decide) c_2
  refine lv_aload_n hx hb dX12_feed_14 rfl (lv_at hl 0 rfl) ?_
  refine lv_iload_n hx hb dX12_feed_15 rfl (lv_at hl 1 rfl) ?_
  have hPc := hP.sub (ws' := [(m0, .inr (12, [.ref (rr 0), .int 0, .int 0, .ref (rr 3), .ref (rr 4), .ref (rr 5), .ref (rr 6), .ref (rr 7), .ref (rr 8), .int 0, .ref (rr 10), .ref (rr 11), .ref (rr 12), .ref (rr 13), .ref (rr 14), .ref (rr 15), .ref (rr 16), .ref (rr 17), .ref (rr 18), .ref (rr 19), .int 1, .int 0, .int 0, .ref (rr 23), .ref (rr 24), .ref (rr 25), .int 0, .ref (rr 27), .int 0, .ref (rr 29), .ref (rr 30), .ref (rr 31), .ref (rr 32), .ref (rr 33), .int 0, .int 0, .long 0, .long 0, .int 0, .int 0, .ref (rr 40), .ref (rr 41), .ref (rr 42), .ref (rr 43), .ref (rr 44), .ref (rr 45), .int 0, .ref (rr 47), .ref (rr 48)])), ((rr 0), .inl (cB, 60, .inl f))]) [0, 1] rfl
  have hDc := hD.sub (ws' := [(m0, .inr (12, [.ref (rr 0), .int 0, .int 0, .ref (rr 3), .ref (rr 4), .ref (rr 5), .ref (rr 6), .ref (rr 7), .ref (rr 8), .int 0, .ref (rr 10), .ref (rr 11), .ref (rr 12), .ref (rr 13), .ref (rr 14), .ref (rr 15), .ref (rr 16), .ref (rr 17), .ref (rr 18), .ref (rr 19), .int 1, .int 0, .int 0, .ref (rr 23), .ref (rr 24), .ref (rr 25), .int 0, .ref (rr 27), .int 0, .ref (rr 29), .ref (rr 30), .ref (rr 31), .ref (rr 32), .ref (rr 33), .int 0, .int 0, .long 0, .long 0, .int 0, .int 0, .ref (rr 40), .ref (rr 41), .ref (rr 42), .ref (rr 43), .ref (rr 44), .ref (rr 45), .int 0, .ref (rr 47), .ref (rr 48)])), ((rr 0), .inl (cB, 60, .inl f))]) [0, 1] (by decide) rfl
  have hKc := hK.sub (tys' := [(cB, .byte)]) [0] rfl
  have hFc := va_free (wc := [(m0, .inr (12, [.ref (rr 0), .int 0, .int 0, .ref (rr 3), .ref (rr 4), .ref (rr 5), .ref (rr 6), .ref (rr 7), .ref (rr 8), .int 0, .ref (rr 10), .ref (rr 11), .ref (rr 12), .ref (rr 13), .ref (rr 14), .ref (rr 15), .ref (rr 16), .ref (rr 17), .ref (rr 18), .ref (rr 19), .int 1, .int 0, .int 0, .ref (rr 23), .ref (rr 24), .ref (rr 25), .int 0, .ref (rr 27), .int 0, .ref (rr 29), .ref (rr 30), .ref (rr 31), .ref (rr 32), .ref (rr 33), .int 0, .int 0, .long 0, .long 0, .int 0, .int 0, .ref (rr 40), .ref (rr 41), .ref (rr 42), .ref (rr 43), .ref (rr 44), .ref (rr 45), .int 0, .ref (rr 47), .ref (rr 48)])), ((rr 0), .inl (cB, 60, .inl f))]) hD hS hA [0, 1] rfl
  refine va_callv (va_runV (As := [.int a0]) (rest := []) ⟨hx, hb, hml, hown, hts⟩ (m_four l dC dI H.size m0 rr cB 0 f a0 (by omega)) (cwV 1 hts gX12_feed_X12_four rfl rfl rfl (by decide +kernel) ⟨Nat.le_of_ble_eq_true rfl, Nat.le_of_ble_eq_true rfl⟩) ⟨fun a U g mk q => by obtain ⟨q0, q1, qP, qK, qD⟩ := q; exact ⟨q0, q1, qP, va_K.moved (u := U) (U := U.calling g mk a) (Vm.Alike.refl U.vm) qK, qD⟩, va_recv hKc hPc (ci := 12) (q0 := 0) rfl rfl, fun U hU hW => ⟨rfl, by rw [hU], by rw [hU]; exact hPc, va_K.moved hW.alike hKc, hDc.weaken (fun _ _ _ _ => trivial)⟩⟩ rfl rfl hl.1 rfl (lv_room (Nat.le_of_ble_eq_true rfl)) dX12_feed_16 ⟨Nat.le_of_ble_eq_true rfl, Nat.le_of_ble_eq_true rfl⟩) hS (fun q _ h => hFc q h) hFc (fun u t H1 locs ht hvm hw_3 hB hz1 hk1 hS => ?_)
  obtain ⟨f_5, rfl⟩ : ∃ z, z = u := ⟨_, rfl⟩
  obtain ⟨hP1, hK1, hD1⟩ := hB
  rw [ht] at hP1
  have hK1 := va_K.moved hvm.symm hK1
  obtain ⟨hP, hD⟩ := va_join (wr := []) (w1 := [(m0, .inr (12, [.ref (rr 0), .int (nI (0 + 4)), .int 0, .ref (rr 3), .ref (rr 4), .ref (rr 5), .ref (rr 6), .ref (rr 7), .ref (rr 8), .int 0, .ref (rr 10), .ref (rr 11), .ref (rr 12), .ref (rr 13), .ref (rr 14), .ref (rr 15), .ref (rr 16), .ref (rr 17), .ref (rr 18), .ref (rr 19), .int 1, .int 0, .int 0, .ref (rr 23), .ref (rr 24), .ref (rr 25), .int 0, .ref (rr 27), .int 0, .ref (rr 29), .ref (rr 30), .ref (rr 31), .ref (rr 32), .ref (rr 33), .int 0, .int 0, .long 0, .long 0, .int 0, .int 0, .ref (rr 40), .ref (rr 41), .ref (rr 42), .ref (rr 43), .ref (rr 44), .ref (rr 45), .int 0, .ref (rr 47), .ref (rr 48)])), ((rr 0), .inl (cB, 60, .inl f_5))]) hP hD [0, 1] [] rfl rfl (by decide) (by decide) hk1 hFc hP1 hD1
  clear hPc hDc hFc hk1 hz1
  generalize H1 = H at hP hS ⊢
  have hP : va_P (dC, dI) vwCl [(m0, .inr (12, [.ref (rr 0), .int (nI (0 + 4)), .int 0, .ref (rr 3), .ref (rr 4), .ref (rr 5), .ref (rr 6), .ref (rr 7), .ref (rr 8), .int 0, .ref (rr 10), .ref (rr 11), .ref (rr 12), .ref (rr 13), .ref (rr 14), .ref (rr 15), .ref (rr 16), .ref (rr 17), .ref (rr 18), .ref (rr 19), .int 1, .int 0, .int 0, .ref (rr 23), .ref (rr 24), .ref (rr 25), .int 0, .ref (rr 27), .int 0, .ref (rr 29), .ref (rr 30), .ref (rr 31), .ref (rr 32), .ref (rr 33), .int 0, .int 0, .long 0, .long 0, .int 0, .int 0, .ref (rr 40), .ref (rr 41), .ref (rr 42), .ref (rr 43), .ref (rr 44), .ref (rr 45), .int 0, .ref (rr 47), .ref (rr 48)])), ((rr 0), .inl (cB, 60, .inl f_5))] H := hP
  have hD : va_D A [(m0, .inr (12, [.ref (rr 0), .int (nI (0 + 4)), .int 0, .ref (rr 3), .ref (rr 4), .ref (rr 5), .ref (rr 6), .ref (rr 7), .ref (rr 8), .int 0, .ref (rr 10), .ref (rr 11), .ref (rr 12), .ref (rr 13), .ref (rr 14), .ref (rr 15), .ref (rr 16), .ref (rr 17), .ref (rr 18), .ref (rr 19), .int 1, .int 0, .int 0, .ref (rr 23), .ref (rr 24), .ref (rr 25), .int 0, .ref (rr 27), .int 0, .ref (rr 29), .ref (rr 30), .ref (rr 31), .ref (rr 32), .ref (rr 33), .int 0, .int 0, .long 0, .long 0, .int 0, .int 0, .ref (rr 40), .ref (rr 41), .ref (rr 42), .ref (rr 43), .ref (rr 44), .ref (rr 45), .int 0, .ref (rr 47), .ref (rr 48)])), ((rr 0), .inl (cB, 60, .inl f_5))] := hD
  refine lv_aload_n hx hb dX12_feed_19 rfl (lv_at hl 0 rfl) ?_
  refine lv_iload_n hx hb dX12_feed_20 rfl (lv_at hl 2 rfl) ?_
  have hPc := hP.sub (ws' := [(m0, .inr (12, [.ref (rr 0), .int (nI (0 + 4)), .int 0, .ref (rr 3), .ref (rr 4), .ref (rr 5), .ref (rr 6), .ref (rr 7), .ref (rr 8), .int 0, .ref (rr 10), .ref (rr 11), .ref (rr 12), .ref (rr 13), .ref (rr 14), .ref (rr 15), .ref (rr 16), .ref (rr 17), .ref (rr 18), .ref (rr 19), .int 1, .int 0, .int 0, .ref (rr 23), .ref (rr 24), .ref (rr 25), .int 0, .ref (rr 27), .int 0, .ref (rr 29), .ref (rr 30), .ref (rr 31), .ref (rr 32), .ref (rr 33), .int 0, .int 0, .long 0, .long 0, .int 0, .int 0, .ref (rr 40), .ref (rr 41), .ref (rr 42), .ref (rr 43), .ref (rr 44), .ref (rr 45), .int 0, .ref (rr 47), .ref (rr 48)])), ((rr 0), .inl (cB, 60, .inl f_5))]) [0, 1] rfl
  have hDc := hD.sub (ws' := [(m0, .inr (12, [.ref (rr 0), .int (nI (0 + 4)), .int 0, .ref (rr 3), .ref (rr 4), .ref (rr 5), .ref (rr 6), .ref (rr 7), .ref (rr 8), .int 0, .ref (rr 10), .ref (rr 11), .ref (rr 12), .ref (rr 13), .ref (rr 14), .ref (rr 15), .ref (rr 16), .ref (rr 17), .ref (rr 18), .ref (rr 19), .int 1, .int 0, .int 0, .ref (rr 23), .ref (rr 24), .ref (rr 25), .int 0, .ref (rr 27), .int 0, .ref (rr 29), .ref (rr 30), .ref (rr 31), .ref (rr 32), .ref (rr 33), .int 0, .int 0, .long 0, .long 0, .int 0, .int 0, .ref (rr 40), .ref (rr 41), .ref (rr 42), .ref (rr 43), .ref (rr 44), .ref (rr 45), .int 0, .ref (rr 47), .ref (rr 48)])), ((rr 0), .inl (cB, 60, .inl f_5))]) [0, 1] (by decide) rfl
  have hKc := hK.sub (tys' := [(cB, .byte)]) [0] rfl
  have hFc := va_free (wc := [(m0, .inr (12, [.ref (rr 0), .int (nI (0 + 4)), .int 0, .ref (rr 3), .ref (rr 4), .ref (rr 5), .ref (rr 6), .ref (rr 7), .ref (rr 8), .int 0, .ref (rr 10), .ref (rr 11), .ref (rr 12), .ref (rr 13), .ref (rr 14), .ref (rr 15), .ref (rr 16), .ref (rr 17), .ref (rr 18), .ref (rr 19), .int 1, .int 0, .int 0, .ref (rr 23), .ref (rr 24), .ref (rr 25), .int 0, .ref (rr 27), .int 0, .ref (rr 29), .ref (rr 30), .ref (rr 31), .ref (rr 32), .ref (rr 33), .int 0, .int 0, .long 0, .long 0, .int 0, .int 0, .ref (rr 40), .ref (rr 41), .ref (rr 42), .ref (rr 43), .ref (rr 44), .ref (rr 45), .int 0, .ref (rr 47), .ref (rr 48)])), ((rr 0), .inl (cB, 60, .inl f_5))]) hD hS hA [0, 1] rfl
  refine va_callv (va_runV (As := [.int a1]) (rest := []) ⟨hx, hb, hml, hown, hts⟩ (m_four l dC dI H.size m0 rr cB (0 + 4) f_5 a1 (by omega)) (cwV 1 hts gX12_feed_X12_four rfl rfl rfl (by decide +kernel) ⟨Nat.le_of_ble_eq_true rfl, Nat.le_of_ble_eq_true rfl⟩) ⟨fun a U g mk q => by obtain ⟨q0, q1, qP, qK, qD⟩ := q; exact ⟨q0, q1, qP, va_K.moved (u := U) (U := U.calling g mk a) (Vm.Alike.refl U.vm) qK, qD⟩, va_recv hKc hPc (ci := 12) (q0 := 0) rfl rfl, fun U hU hW => ⟨rfl, by rw [hU], by rw [hU]; exact hPc, va_K.moved hW.alike hKc, hDc.weaken (fun _ _ _ _ => trivial)⟩⟩ rfl rfl hl.1 rfl (lv_room (Nat.le_of_ble_eq_true rfl)) dX12_feed_21 ⟨Nat.le_of_ble_eq_true rfl, Nat.le_of_ble_eq_true rfl⟩) hS (fun q _ h => hFc q h) hFc (fun u t H1 locs ht hvm hw_6 hB hz1 hk1 hS => ?_)
  obtain ⟨f_8, rfl⟩ : ∃ z, z = u := ⟨_, rfl⟩
  obtain ⟨hP1, hK1, hD1⟩ := hB
  rw [ht] at hP1
  have hK1 := va_K.moved hvm.symm hK1
  obtain ⟨hP, hD⟩ := va_join (wr := []) (w1 := [(m0, .inr (12, [.ref (rr 0), .int (nI ((0 + 4) + 4)), .int 0, .ref (rr 3), .ref (rr 4), .ref (rr 5), .ref (rr 6), .ref (rr 7), .ref (rr 8), .int 0, .ref (rr 10), .ref (rr 11), .ref (rr 12), .ref (rr 13), .ref (rr 14), .ref (rr 15), .ref (rr 16), .ref (rr 17), .ref (rr 18), .ref (rr 19), .int 1, .int 0, .int 0, .ref (rr 23), .ref (rr 24), .ref (rr 25), .int 0, .ref (rr 27), .int 0, .ref (rr 29), .ref (rr 30), .ref (rr 31), .ref (rr 32), .ref (rr 33), .int 0, .int 0, .long 0, .long 0, .int 0, .int 0, .ref (rr 40), .ref (rr 41), .ref (rr 42), .ref (rr 43), .ref (rr 44), .ref (rr 45), .int 0, .ref (rr 47), .ref (rr 48)])), ((rr 0), .inl (cB, 60, .inl f_8))]) hP hD [0, 1] [] rfl rfl (by decide) (by decide) hk1 hFc hP1 hD1
  clear hPc hDc hFc hk1 hz1
  generalize H1 = H at hP hS ⊢
  have hP : va_P (dC, dI) vwCl [(m0, .inr (12, [.ref (rr 0), .int (nI ((0 + 4) + 4)), .int 0, .ref (rr 3), .ref (rr 4), .ref (rr 5), .ref (rr 6), .ref (rr 7), .ref (rr 8), .int 0, .ref (rr 10), .ref (rr 11), .ref (rr 12), .ref (rr 13), .ref (rr 14), .ref (rr 15), .ref (rr 16), .ref (rr 17), .ref (rr 18), .ref (rr 19), .int 1, .int 0, .int 0, .ref (rr 23), .ref (rr 24), .ref (rr 25), .int 0, .ref (rr 27), .int 0, .ref (rr 29), .ref (rr 30), .ref (rr 31), .ref (rr 32), .ref (rr 33), .int 0, .int 0, .long 0, .long 0, .int 0, .int 0, .ref (rr 40), .ref (rr 41), .ref (rr 42), .ref (rr 43), .ref (rr 44), .ref (rr 45), .int 0, .ref (rr 47), .ref (rr 48)])), ((rr 0), .inl (cB, 60, .inl f_8))] H := hP
  have hD : va_D A [(m0, .inr (12, [.ref (rr 0), .int (nI ((0 + 4) + 4)), .int 0, .ref (rr 3), .ref (rr 4), .ref (rr 5), .ref (rr 6), .ref (rr 7), .ref (rr 8), .int 0, .ref (rr 10), .ref (rr 11), .ref (rr 12), .ref (rr 13), .ref (rr 14), .ref (rr 15), .ref (rr 16), .ref (rr 17), .ref (rr 18), .ref (rr 19), .int 1, .int 0, .int 0, .ref (rr 23), .ref (rr 24), .ref (rr 25), .int 0, .ref (rr 27), .int 0, .ref (rr 29), .ref (rr 30), .ref (rr 31), .ref (rr 32), .ref (rr 33), .int 0, .int 0, .long 0, .long 0, .int 0, .int 0, .ref (rr 40), .ref (rr 41), .ref (rr 42), .ref (rr 43), .ref (rr 44), .ref (rr 45), .int 0, .ref (rr 47), .ref (rr 48)])), ((rr 0), .inl (cB, 60, .inl f_8))] := hD
  refine lv_aload_n hx hb dX12_feed_24 rfl (lv_at hl 0 rfl) ?_
  refine lv_iload_n hx hb dX12_feed_25 rfl (lv_at hl 3 rfl) ?_
  have hPc := hP.sub (ws' := [(m0, .inr (12, [.ref (rr 0), .int (nI ((0 + 4) + 4)), .int 0, .ref (rr 3), .ref (rr 4), .ref (rr 5), .ref (rr 6), .ref (rr 7), .ref (rr 8), .int 0, .ref (rr 10), .ref (rr 11), .ref (rr 12), .ref (rr 13), .ref (rr 14), .ref (rr 15), .ref (rr 16), .ref (rr 17), .ref (rr 18), .ref (rr 19), .int 1, .int 0, .int 0, .ref (rr 23), .ref (rr 24), .ref (rr 25), .int 0, .ref (rr 27), .int 0, .ref (rr 29), .ref (rr 30), .ref (rr 31), .ref (rr 32), .ref (rr 33), .int 0, .int 0, .long 0, .long 0, .int 0, .int 0, .ref (rr 40), .ref (rr 41), .ref (rr 42), .ref (rr 43), .ref (rr 44), .ref (rr 45), .int 0, .ref (rr 47), .ref (rr 48)])), ((rr 0), .inl (cB, 60, .inl f_8))]) [0, 1] rfl
  have hDc := hD.sub (ws' := [(m0, .inr (12, [.ref (rr 0), .int (nI ((0 + 4) + 4)), .int 0, .ref (rr 3), .ref (rr 4), .ref (rr 5), .ref (rr 6), .ref (rr 7), .ref (rr 8), .int 0, .ref (rr 10), .ref (rr 11), .ref (rr 12), .ref (rr 13), .ref (rr 14), .ref (rr 15), .ref (rr 16), .ref (rr 17), .ref (rr 18), .ref (rr 19), .int 1, .int 0, .int 0, .ref (rr 23), .ref (rr 24), .ref (rr 25), .int 0, .ref (rr 27), .int 0, .ref (rr 29), .ref (rr 30), .ref (rr 31), .ref (rr 32), .ref (rr 33), .int 0, .int 0, .long 0, .long 0, .int 0, .int 0, .ref (rr 40), .ref (rr 41), .ref (rr 42), .ref (rr 43), .ref (rr 44), .ref (rr 45), .int 0, .ref (rr 47), .ref (rr 48)])), ((rr 0), .inl (cB, 60, .inl f_8))]) [0, 1] (by decide) rfl
  have hKc := hK.sub (tys' := [(cB, .byte)]) [0] rfl
  have hFc := va_free (wc := [(m0, .inr (12, [.ref (rr 0), .int (nI ((0 + 4) + 4)), .int 0, .ref (rr 3), .ref (rr 4), .ref (rr 5), .ref (rr 6), .ref (rr 7), .ref (rr 8), .int 0, .ref (rr 10), .ref (rr 11), .ref (rr 12), .ref (rr 13), .ref (rr 14), .ref (rr 15), .ref (rr 16), .ref (rr 17), .ref (rr 18), .ref (rr 19), .int 1, .int 0, .int 0, .ref (rr 23), .ref (rr 24), .ref (rr 25), .int 0, .ref (rr 27), .int 0, .ref (rr 29), .ref (rr 30), .ref (rr 31), .ref (rr 32), .ref (rr 33), .int 0, .int 0, .long 0, .long 0, .int 0, .int 0, .ref (rr 40), .ref (rr 41), .ref (rr 42), .ref (rr 43), .ref (rr 44), .ref (rr 45), .int 0, .ref (rr 47), .ref (rr 48)])), ((rr 0), .inl (cB, 60, .inl f_8))]) hD hS hA [0, 1] rfl
  refine va_callv (va_runV (As := [.int a2]) (rest := []) ⟨hx, hb, hml, hown, hts⟩ (m_four l dC dI H.size m0 rr cB ((0 + 4) + 4) f_8 a2 (by omega)) (cwV 1 hts gX12_feed_X12_four rfl rfl rfl (by decide +kernel) ⟨Nat.le_of_ble_eq_true rfl, Nat.le_of_ble_eq_true rfl⟩) ⟨fun a U g mk q => by obtain ⟨q0, q1, qP, qK, qD⟩ := q; exact ⟨q0, q1, qP, va_K.moved (u := U) (U := U.calling g mk a) (Vm.Alike.refl U.vm) qK, qD⟩, va_recv hKc hPc (ci := 12) (q0 := 0) rfl rfl, fun U hU hW => ⟨rfl, by rw [hU], by rw [hU]; exact hPc, va_K.moved hW.alike hKc, hDc.weaken (fun _ _ _ _ => trivial)⟩⟩ rfl rfl hl.1 rfl (lv_room (Nat.le_of_ble_eq_true rfl)) dX12_feed_26 ⟨Nat.le_of_ble_eq_true rfl, Nat.le_of_ble_eq_true rfl⟩) hS (fun q _ h => hFc q h) hFc (fun u t H1 locs ht hvm hw_9 hB hz1 hk1 hS => ?_)
  obtain ⟨f_11, rfl⟩ : ∃ z, z = u := ⟨_, rfl⟩
  obtain ⟨hP1, hK1, hD1⟩ := hB
  rw [ht] at hP1
  have hK1 := va_K.moved hvm.symm hK1
  obtain ⟨hP, hD⟩ := va_join (wr := []) (w1 := [(m0, .inr (12, [.ref (rr 0), .int (nI (((0 + 4) + 4) + 4)), .int 0, .ref (rr 3), .ref (rr 4), .ref (rr 5), .ref (rr 6), .ref (rr 7), .ref (rr 8), .int 0, .ref (rr 10), .ref (rr 11), .ref (rr 12), .ref (rr 13), .ref (rr 14), .ref (rr 15), .ref (rr 16), .ref (rr 17), .ref (rr 18), .ref (rr 19), .int 1, .int 0, .int 0, .ref (rr 23), .ref (rr 24), .ref (rr 25), .int 0, .ref (rr 27), .int 0, .ref (rr 29), .ref (rr 30), .ref (rr 31), .ref (rr 32), .ref (rr 33), .int 0, .int 0, .long 0, .long 0, .int 0, .int 0, .ref (rr 40), .ref (rr 41), .ref (rr 42), .ref (rr 43), .ref (rr 44), .ref (rr 45), .int 0, .ref (rr 47), .ref (rr 48)])), ((rr 0), .inl (cB, 60, .inl f_11))]) hP hD [0, 1] [] rfl rfl (by decide) (by decide) hk1 hFc hP1 hD1
  clear hPc hDc hFc hk1 hz1
  generalize H1 = H at hP hS ⊢
  have hP : va_P (dC, dI) vwCl [(m0, .inr (12, [.ref (rr 0), .int (nI (((0 + 4) + 4) + 4)), .int 0, .ref (rr 3), .ref (rr 4), .ref (rr 5), .ref (rr 6), .ref (rr 7), .ref (rr 8), .int 0, .ref (rr 10), .ref (rr 11), .ref (rr 12), .ref (rr 13), .ref (rr 14), .ref (rr 15), .ref (rr 16), .ref (rr 17), .ref (rr 18), .ref (rr 19), .int 1, .int 0, .int 0, .ref (rr 23), .ref (rr 24), .ref (rr 25), .int 0, .ref (rr 27), .int 0, .ref (rr 29), .ref (rr 30), .ref (rr 31), .ref (rr 32), .ref (rr 33), .int 0, .int 0, .long 0, .long 0, .int 0, .int 0, .ref (rr 40), .ref (rr 41), .ref (rr 42), .ref (rr 43), .ref (rr 44), .ref (rr 45), .int 0, .ref (rr 47), .ref (rr 48)])), ((rr 0), .inl (cB, 60, .inl f_11))] H := hP
  have hD : va_D A [(m0, .inr (12, [.ref (rr 0), .int (nI (((0 + 4) + 4) + 4)), .int 0, .ref (rr 3), .ref (rr 4), .ref (rr 5), .ref (rr 6), .ref (rr 7), .ref (rr 8), .int 0, .ref (rr 10), .ref (rr 11), .ref (rr 12), .ref (rr 13), .ref (rr 14), .ref (rr 15), .ref (rr 16), .ref (rr 17), .ref (rr 18), .ref (rr 19), .int 1, .int 0, .int 0, .ref (rr 23), .ref (rr 24), .ref (rr 25), .int 0, .ref (rr 27), .int 0, .ref (rr 29), .ref (rr 30), .ref (rr 31), .ref (rr 32), .ref (rr 33), .int 0, .int 0, .long 0, .long 0, .int 0, .int 0, .ref (rr 40), .ref (rr 41), .ref (rr 42), .ref (rr 43), .ref (rr 44), .ref (rr 45), .int 0, .ref (rr 47), .ref (rr 48)])), ((rr 0), .inl (cB, 60, .inl f_11))] := hD
  refine lv_aload_n hx hb dX12_feed_29 rfl (lv_at hl 0 rfl) ?_
  refine lv_iload hx hb dX12_feed_30 (lv_at hl 4 rfl) ?_
  have hPc := hP.sub (ws' := [(m0, .inr (12, [.ref (rr 0), .int (nI (((0 + 4) + 4) + 4)), .int 0, .ref (rr 3), .ref (rr 4), .ref (rr 5), .ref (rr 6), .ref (rr 7), .ref (rr 8), .int 0, .ref (rr 10), .ref (rr 11), .ref (rr 12), .ref (rr 13), .ref (rr 14), .ref (rr 15), .ref (rr 16), .ref (rr 17), .ref (rr 18), .ref (rr 19), .int 1, .int 0, .int 0, .ref (rr 23), .ref (rr 24), .ref (rr 25), .int 0, .ref (rr 27), .int 0, .ref (rr 29), .ref (rr 30), .ref (rr 31), .ref (rr 32), .ref (rr 33), .int 0, .int 0, .long 0, .long 0, .int 0, .int 0, .ref (rr 40), .ref (rr 41), .ref (rr 42), .ref (rr 43), .ref (rr 44), .ref (rr 45), .int 0, .ref (rr 47), .ref (rr 48)])), ((rr 0), .inl (cB, 60, .inl f_11))]) [0, 1] rfl
  have hDc := hD.sub (ws' := [(m0, .inr (12, [.ref (rr 0), .int (nI (((0 + 4) + 4) + 4)), .int 0, .ref (rr 3), .ref (rr 4), .ref (rr 5), .ref (rr 6), .ref (rr 7), .ref (rr 8), .int 0, .ref (rr 10), .ref (rr 11), .ref (rr 12), .ref (rr 13), .ref (rr 14), .ref (rr 15), .ref (rr 16), .ref (rr 17), .ref (rr 18), .ref (rr 19), .int 1, .int 0, .int 0, .ref (rr 23), .ref (rr 24), .ref (rr 25), .int 0, .ref (rr 27), .int 0, .ref (rr 29), .ref (rr 30), .ref (rr 31), .ref (rr 32), .ref (rr 33), .int 0, .int 0, .long 0, .long 0, .int 0, .int 0, .ref (rr 40), .ref (rr 41), .ref (rr 42), .ref (rr 43), .ref (rr 44), .ref (rr 45), .int 0, .ref (rr 47), .ref (rr 48)])), ((rr 0), .inl (cB, 60, .inl f_11))]) [0, 1] (by decide) rfl
  have hKc := hK.sub (tys' := [(cB, .byte)]) [0] rfl
  have hFc := va_free (wc := [(m0, .inr (12, [.ref (rr 0), .int (nI (((0 + 4) + 4) + 4)), .int 0, .ref (rr 3), .ref (rr 4), .ref (rr 5), .ref (rr 6), .ref (rr 7), .ref (rr 8), .int 0, .ref (rr 10), .ref (rr 11), .ref (rr 12), .ref (rr 13), .ref (rr 14), .ref (rr 15), .ref (rr 16), .ref (rr 17), .ref (rr 18), .ref (rr 19), .int 1, .int 0, .int 0, .ref (rr 23), .ref (rr 24), .ref (rr 25), .int 0, .ref (rr 27), .int 0, .ref (rr 29), .ref (rr 30), .ref (rr 31), .ref (rr 32), .ref (rr 33), .int 0, .int 0, .long 0, .long 0, .int 0, .int 0, .ref (rr 40), .ref (rr 41), .ref (rr 42), .ref (rr 43), .ref (rr 44), .ref (rr 45), .int 0, .ref (rr 47), .ref (rr 48)])), ((rr 0), .inl (cB, 60, .inl f_11))]) hD hS hA [0, 1] rfl
  refine va_callv (va_runV (As := [.int a3]) (rest := []) ⟨hx, hb, hml, hown, hts⟩ (m_four l dC dI H.size m0 rr cB (((0 + 4) + 4) + 4) f_11 a3 (by omega)) (cwV 1 hts gX12_feed_X12_four rfl rfl rfl (by decide +kernel) ⟨Nat.le_of_ble_eq_true rfl, Nat.le_of_ble_eq_true rfl⟩) ⟨fun a U g mk q => by obtain ⟨q0, q1, qP, qK, qD⟩ := q; exact ⟨q0, q1, qP, va_K.moved (u := U) (U := U.calling g mk a) (Vm.Alike.refl U.vm) qK, qD⟩, va_recv hKc hPc (ci := 12) (q0 := 0) rfl rfl, fun U hU hW => ⟨rfl, by rw [hU], by rw [hU]; exact hPc, va_K.moved hW.alike hKc, hDc.weaken (fun _ _ _ _ => trivial)⟩⟩ rfl rfl hl.1 rfl (lv_room (Nat.le_of_ble_eq_true rfl)) dX12_feed_32 ⟨Nat.le_of_ble_eq_true rfl, Nat.le_of_ble_eq_true rfl⟩) hS (fun q _ h => hFc q h) hFc (fun u t H1 locs ht hvm hw_12 hB hz1 hk1 hS => ?_)
  obtain ⟨f_14, rfl⟩ : ∃ z, z = u := ⟨_, rfl⟩
  obtain ⟨hP1, hK1, hD1⟩ := hB
  rw [ht] at hP1
  have hK1 := va_K.moved hvm.symm hK1
  obtain ⟨hP, hD⟩ := va_join (wr := []) (w1 := [(m0, .inr (12, [.ref (rr 0), .int (nI ((((0 + 4) + 4) + 4) + 4)), .int 0, .ref (rr 3), .ref (rr 4), .ref (rr 5), .ref (rr 6), .ref (rr 7), .ref (rr 8), .int 0, .ref (rr 10), .ref (rr 11), .ref (rr 12), .ref (rr 13), .ref (rr 14), .ref (rr 15), .ref (rr 16), .ref (rr 17), .ref (rr 18), .ref (rr 19), .int 1, .int 0, .int 0, .ref (rr 23), .ref (rr 24), .ref (rr 25), .int 0, .ref (rr 27), .int 0, .ref (rr 29), .ref (rr 30), .ref (rr 31), .ref (rr 32), .ref (rr 33), .int 0, .int 0, .long 0, .long 0, .int 0, .int 0, .ref (rr 40), .ref (rr 41), .ref (rr 42), .ref (rr 43), .ref (rr 44), .ref (rr 45), .int 0, .ref (rr 47), .ref (rr 48)])), ((rr 0), .inl (cB, 60, .inl f_14))]) hP hD [0, 1] [] rfl rfl (by decide) (by decide) hk1 hFc hP1 hD1
  clear hPc hDc hFc hk1 hz1
  generalize H1 = H at hP hS ⊢
  have hP : va_P (dC, dI) vwCl [(m0, .inr (12, [.ref (rr 0), .int (nI ((((0 + 4) + 4) + 4) + 4)), .int 0, .ref (rr 3), .ref (rr 4), .ref (rr 5), .ref (rr 6), .ref (rr 7), .ref (rr 8), .int 0, .ref (rr 10), .ref (rr 11), .ref (rr 12), .ref (rr 13), .ref (rr 14), .ref (rr 15), .ref (rr 16), .ref (rr 17), .ref (rr 18), .ref (rr 19), .int 1, .int 0, .int 0, .ref (rr 23), .ref (rr 24), .ref (rr 25), .int 0, .ref (rr 27), .int 0, .ref (rr 29), .ref (rr 30), .ref (rr 31), .ref (rr 32), .ref (rr 33), .int 0, .int 0, .long 0, .long 0, .int 0, .int 0, .ref (rr 40), .ref (rr 41), .ref (rr 42), .ref (rr 43), .ref (rr 44), .ref (rr 45), .int 0, .ref (rr 47), .ref (rr 48)])), ((rr 0), .inl (cB, 60, .inl f_14))] H := hP
  have hD : va_D A [(m0, .inr (12, [.ref (rr 0), .int (nI ((((0 + 4) + 4) + 4) + 4)), .int 0, .ref (rr 3), .ref (rr 4), .ref (rr 5), .ref (rr 6), .ref (rr 7), .ref (rr 8), .int 0, .ref (rr 10), .ref (rr 11), .ref (rr 12), .ref (rr 13), .ref (rr 14), .ref (rr 15), .ref (rr 16), .ref (rr 17), .ref (rr 18), .ref (rr 19), .int 1, .int 0, .int 0, .ref (rr 23), .ref (rr 24), .ref (rr 25), .int 0, .ref (rr 27), .int 0, .ref (rr 29), .ref (rr 30), .ref (rr 31), .ref (rr 32), .ref (rr 33), .int 0, .int 0, .long 0, .long 0, .int 0, .int 0, .ref (rr 40), .ref (rr 41), .ref (rr 42), .ref (rr 43), .ref (rr 44), .ref (rr 45), .int 0, .ref (rr 47), .ref (rr 48)])), ((rr 0), .inl (cB, 60, .inl f_14))] := hD
  refine lv_aload_n hx hb dX12_feed_35 rfl (lv_at hl 0 rfl) ?_
  refine lv_iload hx hb dX12_feed_36 (lv_at hl 5 rfl) ?_
  have hPc := hP.sub (ws' := [(m0, .inr (12, [.ref (rr 0), .int (nI ((((0 + 4) + 4) + 4) + 4)), .int 0, .ref (rr 3), .ref (rr 4), .ref (rr 5), .ref (rr 6), .ref (rr 7), .ref (rr 8), .int 0, .ref (rr 10), .ref (rr 11), .ref (rr 12), .ref (rr 13), .ref (rr 14), .ref (rr 15), .ref (rr 16), .ref (rr 17), .ref (rr 18), .ref (rr 19), .int 1, .int 0, .int 0, .ref (rr 23), .ref (rr 24), .ref (rr 25), .int 0, .ref (rr 27), .int 0, .ref (rr 29), .ref (rr 30), .ref (rr 31), .ref (rr 32), .ref (rr 33), .int 0, .int 0, .long 0, .long 0, .int 0, .int 0, .ref (rr 40), .ref (rr 41), .ref (rr 42), .ref (rr 43), .ref (rr 44), .ref (rr 45), .int 0, .ref (rr 47), .ref (rr 48)])), ((rr 0), .inl (cB, 60, .inl f_14))]) [0, 1] rfl
  have hDc := hD.sub (ws' := [(m0, .inr (12, [.ref (rr 0), .int (nI ((((0 + 4) + 4) + 4) + 4)), .int 0, .ref (rr 3), .ref (rr 4), .ref (rr 5), .ref (rr 6), .ref (rr 7), .ref (rr 8), .int 0, .ref (rr 10), .ref (rr 11), .ref (rr 12), .ref (rr 13), .ref (rr 14), .ref (rr 15), .ref (rr 16), .ref (rr 17), .ref (rr 18), .ref (rr 19), .int 1, .int 0, .int 0, .ref (rr 23), .ref (rr 24), .ref (rr 25), .int 0, .ref (rr 27), .int 0, .ref (rr 29), .ref (rr 30), .ref (rr 31), .ref (rr 32), .ref (rr 33), .int 0, .int 0, .long 0, .long 0, .int 0, .int 0, .ref (rr 40), .ref (rr 41), .ref (rr 42), .ref (rr 43), .ref (rr 44), .ref (rr 45), .int 0, .ref (rr 47), .ref (rr 48)])), ((rr 0), .inl (cB, 60, .inl f_14))]) [0, 1] (by decide) rfl
  have hKc := hK.sub (tys' := [(cB, .byte)]) [0] rfl
  have hFc := va_free (wc := [(m0, .inr (12, [.ref (rr 0), .int (nI ((((0 + 4) + 4) + 4) + 4)), .int 0, .ref (rr 3), .ref (rr 4), .ref (rr 5), .ref (rr 6), .ref (rr 7), .ref (rr 8), .int 0, .ref (rr 10), .ref (rr 11), .ref (rr 12), .ref (rr 13), .ref (rr 14), .ref (rr 15), .ref (rr 16), .ref (rr 17), .ref (rr 18), .ref (rr 19), .int 1, .int 0, .int 0, .ref (rr 23), .ref (rr 24), .ref (rr 25), .int 0, .ref (rr 27), .int 0, .ref (rr 29), .ref (rr 30), .ref (rr 31), .ref (rr 32), .ref (rr 33), .int 0, .int 0, .long 0, .long 0, .int 0, .int 0, .ref (rr 40), .ref (rr 41), .ref (rr 42), .ref (rr 43), .ref (rr 44), .ref (rr 45), .int 0, .ref (rr 47), .ref (rr 48)])), ((rr 0), .inl (cB, 60, .inl f_14))]) hD hS hA [0, 1] rfl
  refine va_callv (va_runV (As := [.int a4]) (rest := []) ⟨hx, hb, hml, hown, hts⟩ (m_four l dC dI H.size m0 rr cB ((((0 + 4) + 4) + 4) + 4) f_14 a4 (by omega)) (cwV 1 hts gX12_feed_X12_four rfl rfl rfl (by decide +kernel) ⟨Nat.le_of_ble_eq_true rfl, Nat.le_of_ble_eq_true rfl⟩) ⟨fun a U g mk q => by obtain ⟨q0, q1, qP, qK, qD⟩ := q; exact ⟨q0, q1, qP, va_K.moved (u := U) (U := U.calling g mk a) (Vm.Alike.refl U.vm) qK, qD⟩, va_recv hKc hPc (ci := 12) (q0 := 0) rfl rfl, fun U hU hW => ⟨rfl, by rw [hU], by rw [hU]; exact hPc, va_K.moved hW.alike hKc, hDc.weaken (fun _ _ _ _ => trivial)⟩⟩ rfl rfl hl.1 rfl (lv_room (Nat.le_of_ble_eq_true rfl)) dX12_feed_38 ⟨Nat.le_of_ble_eq_true rfl, Nat.le_of_ble_eq_true rfl⟩) hS (fun q _ h => hFc q h) hFc (fun u t H1 locs ht hvm hw_15 hB hz1 hk1 hS => ?_)
  obtain ⟨f_17, rfl⟩ : ∃ z, z = u := ⟨_, rfl⟩
  obtain ⟨hP1, hK1, hD1⟩ := hB
  rw [ht] at hP1
  have hK1 := va_K.moved hvm.symm hK1
  obtain ⟨hP, hD⟩ := va_join (wr := []) (w1 := [(m0, .inr (12, [.ref (rr 0), .int (nI (((((0 + 4) + 4) + 4) + 4) + 4)), .int 0, .ref (rr 3), .ref (rr 4), .ref (rr 5), .ref (rr 6), .ref (rr 7), .ref (rr 8), .int 0, .ref (rr 10), .ref (rr 11), .ref (rr 12), .ref (rr 13), .ref (rr 14), .ref (rr 15), .ref (rr 16), .ref (rr 17), .ref (rr 18), .ref (rr 19), .int 1, .int 0, .int 0, .ref (rr 23), .ref (rr 24), .ref (rr 25), .int 0, .ref (rr 27), .int 0, .ref (rr 29), .ref (rr 30), .ref (rr 31), .ref (rr 32), .ref (rr 33), .int 0, .int 0, .long 0, .long 0, .int 0, .int 0, .ref (rr 40), .ref (rr 41), .ref (rr 42), .ref (rr 43), .ref (rr 44), .ref (rr 45), .int 0, .ref (rr 47), .ref (rr 48)])), ((rr 0), .inl (cB, 60, .inl f_17))]) hP hD [0, 1] [] rfl rfl (by decide) (by decide) hk1 hFc hP1 hD1
  clear hPc hDc hFc hk1 hz1
  generalize H1 = H at hP hS ⊢
  have hP : va_P (dC, dI) vwCl [(m0, .inr (12, [.ref (rr 0), .int (nI (((((0 + 4) + 4) + 4) + 4) + 4)), .int 0, .ref (rr 3), .ref (rr 4), .ref (rr 5), .ref (rr 6), .ref (rr 7), .ref (rr 8), .int 0, .ref (rr 10), .ref (rr 11), .ref (rr 12), .ref (rr 13), .ref (rr 14), .ref (rr 15), .ref (rr 16), .ref (rr 17), .ref (rr 18), .ref (rr 19), .int 1, .int 0, .int 0, .ref (rr 23), .ref (rr 24), .ref (rr 25), .int 0, .ref (rr 27), .int 0, .ref (rr 29), .ref (rr 30), .ref (rr 31), .ref (rr 32), .ref (rr 33), .int 0, .int 0, .long 0, .long 0, .int 0, .int 0, .ref (rr 40), .ref (rr 41), .ref (rr 42), .ref (rr 43), .ref (rr 44), .ref (rr 45), .int 0, .ref (rr 47), .ref (rr 48)])), ((rr 0), .inl (cB, 60, .inl f_17))] H := hP
  have hD : va_D A [(m0, .inr (12, [.ref (rr 0), .int (nI (((((0 + 4) + 4) + 4) + 4) + 4)), .int 0, .ref (rr 3), .ref (rr 4), .ref (rr 5), .ref (rr 6), .ref (rr 7), .ref (rr 8), .int 0, .ref (rr 10), .ref (rr 11), .ref (rr 12), .ref (rr 13), .ref (rr 14), .ref (rr 15), .ref (rr 16), .ref (rr 17), .ref (rr 18), .ref (rr 19), .int 1, .int 0, .int 0, .ref (rr 23), .ref (rr 24), .ref (rr 25), .int 0, .ref (rr 27), .int 0, .ref (rr 29), .ref (rr 30), .ref (rr 31), .ref (rr 32), .ref (rr 33), .int 0, .int 0, .long 0, .long 0, .int 0, .int 0, .ref (rr 40), .ref (rr 41), .ref (rr 42), .ref (rr 43), .ref (rr 44), .ref (rr 45), .int 0, .ref (rr 47), .ref (rr 48)])), ((rr 0), .inl (cB, 60, .inl f_17))] := hD
  refine lv_aload_n hx hb dX12_feed_41 rfl (lv_at hl 0 rfl) ?_
  refine va_get (D := (dC, dI)) (ci := 12) (v := .int (nI (((((0 + 4) + 4) + 4) + 4) + 4))) (C := RX12) (T := TX12) (N := 49) hx hb hts (by decide +kernel) hown hK hP 0 rfl rfl 1 (by decide) (hts (.fieldLink RX12 120 "JoinBenchModel" "taped" "I") (by decide +kernel)) (fun _ h9 => h9) rfl dX12_feed_42 ?_
  refine W.widen (k := 0) (n := 0) (Nat.le_of_ble_eq_true rfl) (Nat.le_of_ble_eq_true rfl) ?_
  exact W.iret (v := nI (((((0 + 4) + 4) + 4) + 4) + 4)) hx hb hr (fun t ht hW => ⟨⟨nI (((((0 + 4) + 4) + 4) + 4) + 4), (), rfl, (by decide), trivial⟩, hS.F ht⟩) hS.2.2 dX12_feed_45
set_option maxHeartbeats 4000000 in
set_option maxRecDepth 100000 in
/-- X12_end -/
theorem m_end0 (l : Launch) (dC : Nat → ClassId) (dI : Nat → Nat → Nat) (sz : Nat) (m0 : Nat) (rr : Nat → Nat) (n : Int32) : Met l yX12_end wsX12_end ({ frames := 0, cells := 0, slots := 0, locals := 0 }) (va_Pc [.ref m0, .int n] (fun U => U.heap.size = sz ∧ va_P (dC, dI) vwCl [(m0, .inr (12, [.ref (rr 0), .int 0, .int 0, .ref (rr 3), .ref (rr 4), .ref (rr 5), .ref (rr 6), .ref (rr 7), .ref (rr 8), .int 0, .ref (rr 10), .ref (rr 11), .ref (rr 12), .ref (rr 13), .ref (rr 14), .ref (rr 15), .ref (rr 16), .ref (rr 17), .ref (rr 18), .ref (rr 19), .int 1, .int 0, .int 0, .ref (rr 23), .ref (rr 24), .ref (rr 25), .int 0, .ref (rr 27), .int 0, .ref (rr 29), .ref (rr 30), .ref (rr 31), .ref (rr 32), .ref (rr 33), .int 0, .int 0, .long 0, .long 0, .int 0, .int 0, .ref (rr 40), .ref (rr 41), .ref (rr 42), .ref (rr 43), .ref (rr 44), .ref (rr 45), .int 0, .ref (rr 47), .ref (rr 48)]))] U.heap ∧ va_K (dC, dI) vwCl [] U ∧ va_D (fun _ => True) [(m0, .inr (12, [.ref (rr 0), .int 0, .int 0, .ref (rr 3), .ref (rr 4), .ref (rr 5), .ref (rr 6), .ref (rr 7), .ref (rr 8), .int 0, .ref (rr 10), .ref (rr 11), .ref (rr 12), .ref (rr 13), .ref (rr 14), .ref (rr 15), .ref (rr 16), .ref (rr 17), .ref (rr 18), .ref (rr 19), .int 1, .int 0, .int 0, .ref (rr 23), .ref (rr 24), .ref (rr 25), .int 0, .ref (rr 27), .int 0, .ref (rr 29), .ref (rr 30), .ref (rr 31), .ref (rr 32), .ref (rr 33), .int 0, .int 0, .long 0, .long 0, .int 0, .int 0, .ref (rr 40), .ref (rr 41), .ref (rr 42), .ref (rr 43), .ref (rr 44), .ref (rr 45), .int 0, .ref (rr 47), .ref (rr 48)]))])) (va_Qi (fun (r : Int32) (_ : Unit) => vP r (inR n 0 0) n (-1)) (fun (_ : Unit) (_ : State) => True) (va_A [(m0, .inr (12, [.ref (rr 0), .int 0, .int 0, .ref (rr 3), .ref (rr 4), .ref (rr 5), .ref (rr 6), .ref (rr 7), .ref (rr 8), .int 0, .ref (rr 10), .ref (rr 11), .ref (rr 12), .ref (rr 13), .ref (rr 14), .ref (rr 15), .ref (rr 16), .ref (rr 17), .ref (rr 18), .ref (rr 19), .int 1, .int 0, .int 0, .ref (rr 23), .ref (rr 24), .ref (rr 25), .int 0, .ref (rr 27), .int 0, .ref (rr 29), .ref (rr 30), .ref (rr 31), .ref (rr 32), .ref (rr 33), .int 0, .int 0, .long 0, .long 0, .int 0, .int 0, .ref (rr 40), .ref (rr 41), .ref (rr 42), .ref (rr 43), .ref (rr 44), .ref (rr 45), .int 0, .ref (rr 47), .ref (rr 48)]))] sz)) 0 0 (va_A [(m0, .inr (12, [.ref (rr 0), .int 0, .int 0, .ref (rr 3), .ref (rr 4), .ref (rr 5), .ref (rr 6), .ref (rr 7), .ref (rr 8), .int 0, .ref (rr 10), .ref (rr 11), .ref (rr 12), .ref (rr 13), .ref (rr 14), .ref (rr 15), .ref (rr 16), .ref (rr 17), .ref (rr 18), .ref (rr 19), .int 1, .int 0, .int 0, .ref (rr 23), .ref (rr 24), .ref (rr 25), .int 0, .ref (rr 27), .int 0, .ref (rr 29), .ref (rr 30), .ref (rr 31), .ref (rr 32), .ref (rr 33), .int 0, .int 0, .long 0, .long 0, .int 0, .int 0, .ref (rr 40), .ref (rr 41), .ref (rr 42), .ref (rr 43), .ref (rr 44), .ref (rr 45), .int 0, .ref (rr 47), .ref (rr 48)]))] sz) := by
  refine Met.ofW (cc := cX12_end) (maxL := 2) (ret := (some .int)) (by decide) rfl ?_
  intro p e s m args below meth c s₁ B hml hv
  obtain ⟨rfl, hsz, hP, hK, hD0⟩ := hv
  have hx := B.exec
  have hb := B.bytes
  have hr := B.returns
  have hts := atoms_spec (ws := wsX12_end) B.pre
  have hown : s.vm.findClass RX12 = some m.cls := findClass_of_methodNamed B.named
  have hlocks := B.notSynchronized
  subst hsz
  have hD := hD0.self (sz := s.heap.size)
  generalize hAe : va_A [(m0, .inr (12, [.ref (rr 0), .int 0, .int 0, .ref (rr 3), .ref (rr 4), .ref (rr 5), .ref (rr 6), .ref (rr 7), .ref (rr 8), .int 0, .ref (rr 10), .ref (rr 11), .ref (rr 12), .ref (rr 13), .ref (rr 14), .ref (rr 15), .ref (rr 16), .ref (rr 17), .ref (rr 18), .ref (rr 19), .int 1, .int 0, .int 0, .ref (rr 23), .ref (rr 24), .ref (rr 25), .int 0, .ref (rr 27), .int 0, .ref (rr 29), .ref (rr 30), .ref (rr 31), .ref (rr 32), .ref (rr 33), .int 0, .int 0, .long 0, .long 0, .int 0, .int 0, .ref (rr 40), .ref (rr 41), .ref (rr 42), .ref (rr 43), .ref (rr 44), .ref (rr 45), .int 0, .ref (rr 47), .ref (rr 48)]))] s.heap.size = A at hD ⊢
  have hA : ∀ q : Nat, s.heap.size ≤ q → A q := fun q h => by rw [← hAe]; exact Or.inr h
  obtain ⟨H, hH⟩ : ∃ H : Heap, H = s.heap := ⟨_, rfl⟩
  have hS : va_S A s.heap H [] := by rw [hH]; exact va_S.rf
  rw [← hH] at hP ⊢
  have hP : va_P (dC, dI) vwCl [(m0, .inr (12, [.ref (rr 0), .int 0, .int 0, .ref (rr 3), .ref (rr 4), .ref (rr 5), .ref (rr 6), .ref (rr 7), .ref (rr 8), .int 0, .ref (rr 10), .ref (rr 11), .ref (rr 12), .ref (rr 13), .ref (rr 14), .ref (rr 15), .ref (rr 16), .ref (rr 17), .ref (rr 18), .ref (rr 19), .int 1, .int 0, .int 0, .ref (rr 23), .ref (rr 24), .ref (rr 25), .int 0, .ref (rr 27), .int 0, .ref (rr 29), .ref (rr 30), .ref (rr 31), .ref (rr 32), .ref (rr 33), .int 0, .int 0, .long 0, .long 0, .int 0, .int 0, .ref (rr 40), .ref (rr 41), .ref (rr 42), .ref (rr 43), .ref (rr 44), .ref (rr 45), .int 0, .ref (rr 47), .ref (rr 48)]))] H := hP
  have hl := lv_entry ([.ref m0, .int n]) (n := 2) (Nat.le_of_ble_eq_true rfl)
  rw [lg_entry_eq]
  generalize (lg_sl ([.ref m0, .int n]) ++ List.replicate (2 - (lg_sl ([.ref m0, .int n])).length) Slot.unset).toArray = ls at hl ⊢
  have hl : lv_has ls 2 [(0, .ref m0), (1, .int n)] := hl
  refine lv_iload_n hx hb dX12_end_0 rfl (lv_at hl 1 rfl) ?_
  refine lv_if_lt (tgt := 12) hx hb dX12_end_1 (by decide) (fun c_1 => ?_) (fun c_1 => ?_)
  · refine lv_iconst (v := (-1)) hx hb dX12_end_12 (by decide) ?_
    refine W.widen (k := 0) (n := 0) (Nat.le_of_ble_eq_true rfl) (Nat.le_of_ble_eq_true rfl) ?_
    exact W.iret (v := (-1)) hx hb hr (fun t ht hW => ⟨⟨(-1), (), rfl, vP_f (fun q => nle_lt c_1 q.1), trivial⟩, hS.F ht⟩) hS.2.2 dX12_end_13
  · refine lv_iload_n hx hb dX12_end_4 rfl (lv_at hl 1 rfl) ?_
    refine lv_aload_n hx hb dX12_end_5 rfl (lv_at hl 0 rfl) ?_
    refine va_get (D := (dC, dI)) (ci := 12) (v := .int 0) (C := RX12) (T := TX12) (N := 49) hx hb hts (by decide +kernel) hown hK hP 0 rfl rfl 1 (by decide) (hts (.fieldLink RX12 120 "JoinBenchModel" "taped" "I") (by decide +kernel)) (fun _ h9 => h9) rfl dX12_end_6 ?_
    refine lv_icmp_le (tgt := 14) hx hb dX12_end_9 (by decide) (fun c_2 => ?_) (fun c_2 => ?_)
    · refine lv_aload_n hx hb dX12_end_14 rfl (lv_at hl 0 rfl) ?_
      refine lv_iload_n hx hb dX12_end_15 rfl (lv_at hl 1 rfl) ?_
      refine va_put (D := (dC, dI)) (ci := 12) (v := .int n) (ty := .int) (C := RX12) (T := TX12) (N := 49) hx hb hts (by decide +kernel) tyX12 tyX12_ok nmX12 hown hK hP hD hS 0 rfl rfl 1 (by decide) (hts (.fieldLink RX12 120 "JoinBenchModel" "taped" "I") (by decide +kernel)) (fun _ h9 => h9) rfl (by decide +kernel) rfl rfl (Nat.le_of_ble_eq_true rfl) dX12_end_16 (fun H locs hP hD hS => ?_)
      have hP : va_P (dC, dI) vwCl [(m0, .inr (12, [.ref (rr 0), .int n, .int 0, .ref (rr 3), .ref (rr 4), .ref (rr 5), .ref (rr 6), .ref (rr 7), .ref (rr 8), .int 0, .ref (rr 10), .ref (rr 11), .ref (rr 12), .ref (rr 13), .ref (rr 14), .ref (rr 15), .ref (rr 16), .ref (rr 17), .ref (rr 18), .ref (rr 19), .int 1, .int 0, .int 0, .ref (rr 23), .ref (rr 24), .ref (rr 25), .int 0, .ref (rr 27), .int 0, .ref (rr 29), .ref (rr 30), .ref (rr 31), .ref (rr 32), .ref (rr 33), .int 0, .int 0, .long 0, .long 0, .int 0, .int 0, .ref (rr 40), .ref (rr 41), .ref (rr 42), .ref (rr 43), .ref (rr 44), .ref (rr 45), .int 0, .ref (rr 47), .ref (rr 48)]))] H := hP
      have hD : va_D A [(m0, .inr (12, [.ref (rr 0), .int n, .int 0, .ref (rr 3), .ref (rr 4), .ref (rr 5), .ref (rr 6), .ref (rr 7), .ref (rr 8), .int 0, .ref (rr 10), .ref (rr 11), .ref (rr 12), .ref (rr 13), .ref (rr 14), .ref (rr 15), .ref (rr 16), .ref (rr 17), .ref (rr 18), .ref (rr 19), .int 1, .int 0, .int 0, .ref (rr 23), .ref (rr 24), .ref (rr 25), .int 0, .ref (rr 27), .int 0, .ref (rr 29), .ref (rr 30), .ref (rr 31), .ref (rr 32), .ref (rr 33), .int 0, .int 0, .long 0, .long 0, .int 0, .int 0, .ref (rr 40), .ref (rr 41), .ref (rr 42), .ref (rr 43), .ref (rr 44), .ref (rr 45), .int 0, .ref (rr 47), .ref (rr 48)]))] := hD
      refine lv_iload_n hx hb dX12_end_19 rfl (lv_at hl 1 rfl) ?_
      refine W.widen (k := 0) (n := 0) (Nat.le_of_ble_eq_true rfl) (Nat.le_of_ble_eq_true rfl) ?_
      exact W.iret (v := n) hx hb hr (fun t ht hW => ⟨⟨n, (), rfl, vP_t ⟨le_nlt c_1, c_2⟩, trivial⟩, hS.F ht⟩) hS.2.2 dX12_end_20
    · refine lv_iconst (v := (-1)) hx hb dX12_end_12 (by decide) ?_
      refine W.widen (k := 0) (n := 0) (Nat.le_of_ble_eq_true rfl) (Nat.le_of_ble_eq_true rfl) ?_
      exact W.iret (v := (-1)) hx hb hr (fun t ht hW => ⟨⟨(-1), (), rfl, vP_f (fun q => c_2 q.2), trivial⟩, hS.F ht⟩) hS.2.2 dX12_end_13
set_option maxHeartbeats 4000000 in
set_option maxRecDepth 100000 in
/-- X12_isText -/
theorem m_isText0 (l : Launch) (dC : Nat → ClassId) (dI : Nat → Nat → Nat) (m0 : Nat) (rr : Nat → Nat) : Met l yX12_isText wsX12_isText ({ frames := 0, cells := 0, slots := 0, locals := 0 }) (va_Pc [.ref m0] (fun U => va_P (dC, dI) vwCl [(m0, .inr (12, [.ref (rr 0), .int 0, .int 0, .ref (rr 3), .ref (rr 4), .ref (rr 5), .ref (rr 6), .ref (rr 7), .ref (rr 8), .int 0, .ref (rr 10), .ref (rr 11), .ref (rr 12), .ref (rr 13), .ref (rr 14), .ref (rr 15), .ref (rr 16), .ref (rr 17), .ref (rr 18), .ref (rr 19), .int 1, .int 0, .int 0, .ref (rr 23), .ref (rr 24), .ref (rr 25), .int 0, .ref (rr 27), .int 0, .ref (rr 29), .ref (rr 30), .ref (rr 31), .ref (rr 32), .ref (rr 33), .int 0, .int 0, .long 0, .long 0, .int 0, .int 0, .ref (rr 40), .ref (rr 41), .ref (rr 42), .ref (rr 43), .ref (rr 44), .ref (rr 45), .int 0, .ref (rr 47), .ref (rr 48)]))] U.heap ∧ va_K (dC, dI) vwCl [] U)) (vp_Si (fun r => r = 1)) 0 0 (fun _ => False) := by
  refine Met.ofW (cc := cX12_isText) (maxL := 2) (ret := (some .boolean)) (by decide) rfl ?_
  intro p e s m args below meth c s₁ B hml hv
  obtain ⟨rfl, hP, hK⟩ := hv
  have hx := B.exec
  have hb := B.bytes
  have hr := B.returns
  have hts := atoms_spec (ws := wsX12_isText) B.pre
  have hown : s.vm.findClass RX12 = some m.cls := findClass_of_methodNamed B.named
  have hlocks := B.notSynchronized
  have hP : va_P (dC, dI) vwCl [(m0, .inr (12, [.ref (rr 0), .int 0, .int 0, .ref (rr 3), .ref (rr 4), .ref (rr 5), .ref (rr 6), .ref (rr 7), .ref (rr 8), .int 0, .ref (rr 10), .ref (rr 11), .ref (rr 12), .ref (rr 13), .ref (rr 14), .ref (rr 15), .ref (rr 16), .ref (rr 17), .ref (rr 18), .ref (rr 19), .int 1, .int 0, .int 0, .ref (rr 23), .ref (rr 24), .ref (rr 25), .int 0, .ref (rr 27), .int 0, .ref (rr 29), .ref (rr 30), .ref (rr 31), .ref (rr 32), .ref (rr 33), .int 0, .int 0, .long 0, .long 0, .int 0, .int 0, .ref (rr 40), .ref (rr 41), .ref (rr 42), .ref (rr 43), .ref (rr 44), .ref (rr 45), .int 0, .ref (rr 47), .ref (rr 48)]))] s.heap := hP
  have hl := lv_entry ([.ref m0]) (n := 2) (Nat.le_of_ble_eq_true rfl)
  rw [lg_entry_eq]
  generalize (lg_sl ([.ref m0]) ++ List.replicate (2 - (lg_sl ([.ref m0])).length) Slot.unset).toArray = ls at hl ⊢
  have hl : lv_has ls 2 [(0, .ref m0)] := hl
  refine lv_iconst (v := 0) hx hb dX12_isText_0 (by decide) ?_
  refine lv_istore_n (lv' := [(1, .int 0), (0, .ref m0)]) hx hb dX12_isText_1 rfl hl (by decide) rfl (fun ls hl => ?_)
  refine lv_iload_n hx hb dX12_isText_2 rfl (lv_at hl 0 rfl) ?_
  refine lv_aload_n hx hb dX12_isText_3 rfl (lv_at hl 1 rfl) ?_
  refine va_get (D := (dC, dI)) (ci := 12) (v := .int 0) (C := RX12) (T := TX12) (N := 49) hx hb hts (by decide +kernel) hown hK hP 0 rfl rfl 1 (by decide) (hts (.fieldLink RX12 120 "JoinBenchModel" "taped" "I") (by decide +kernel)) (fun _ h9 => h9) rfl dX12_isText_4 ?_
  refine lv_icmp_ge (tgt := 40) hx hb dX12_isText_7 (by decide) (fun c_1 => ?_) (fun c_1 => ?_)
  rotate_left
  · exact absurd (by decide) c_1
  refine lv_iconst (v := 1) hx hb dX12_isText_40 (by decide) ?_
  exact W.zret (v := 1) hx hb hr rfl (fun t ht hW => ⟨1, rfl, rfl, ht⟩) (fun q h => absurd h List.not_mem_nil) dX12_isText_41
set_option maxHeartbeats 4000000 in
set_option maxRecDepth 100000 in
/-- X12_form -/
theorem m_form0 (l : Launch) (dC : Nat → ClassId) (dI : Nat → Nat → Nat) (sz : Nat) (m0 : Nat) (rr : Nat → Nat) (k0 : Int32) (s0 : Int32) (c0 : Int32) (kp : Int32) : Met l yX12_form wsX12_form ({ frames := 1, cells := 0, slots := 0, locals := 22 }) (va_Pc [.ref m0, .int k0, .int s0, .int c0, .int kp] (fun U => U.heap.size = sz ∧ va_P (dC, dI) vwCl [(m0, .inr (12, [.ref (rr 0), .int 0, .int 0, .ref (rr 3), .ref (rr 4), .ref (rr 5), .ref (rr 6), .ref (rr 7), .ref (rr 8), .int 0, .ref (rr 10), .ref (rr 11), .ref (rr 12), .ref (rr 13), .ref (rr 14), .ref (rr 15), .ref (rr 16), .ref (rr 17), .ref (rr 18), .ref (rr 19), .int 1, .int 0, .int 0, .ref (rr 23), .ref (rr 24), .ref (rr 25), .int 0, .ref (rr 27), .int 0, .ref (rr 29), .ref (rr 30), .ref (rr 31), .ref (rr 32), .ref (rr 33), .int 0, .int 0, .long 0, .long 0, .int 0, .int 0, .ref (rr 40), .ref (rr 41), .ref (rr 42), .ref (rr 43), .ref (rr 44), .ref (rr 45), .int 0, .ref (rr 47), .ref (rr 48)]))] U.heap ∧ va_K (dC, dI) vwCl [] U ∧ va_D (fun _ => True) [(m0, .inr (12, [.ref (rr 0), .int 0, .int 0, .ref (rr 3), .ref (rr 4), .ref (rr 5), .ref (rr 6), .ref (rr 7), .ref (rr 8), .int 0, .ref (rr 10), .ref (rr 11), .ref (rr 12), .ref (rr 13), .ref (rr 14), .ref (rr 15), .ref (rr 16), .ref (rr 17), .ref (rr 18), .ref (rr 19), .int 1, .int 0, .int 0, .ref (rr 23), .ref (rr 24), .ref (rr 25), .int 0, .ref (rr 27), .int 0, .ref (rr 29), .ref (rr 30), .ref (rr 31), .ref (rr 32), .ref (rr 33), .int 0, .int 0, .long 0, .long 0, .int 0, .int 0, .ref (rr 40), .ref (rr 41), .ref (rr 42), .ref (rr 43), .ref (rr 44), .ref (rr 45), .int 0, .ref (rr 47), .ref (rr 48)]))])) (va_Qi (fun (r : Int32) (_ : Unit) => r = -1) (fun (_ : Unit) (_ : State) => True) (va_A [(m0, .inr (12, [.ref (rr 0), .int 0, .int 0, .ref (rr 3), .ref (rr 4), .ref (rr 5), .ref (rr 6), .ref (rr 7), .ref (rr 8), .int 0, .ref (rr 10), .ref (rr 11), .ref (rr 12), .ref (rr 13), .ref (rr 14), .ref (rr 15), .ref (rr 16), .ref (rr 17), .ref (rr 18), .ref (rr 19), .int 1, .int 0, .int 0, .ref (rr 23), .ref (rr 24), .ref (rr 25), .int 0, .ref (rr 27), .int 0, .ref (rr 29), .ref (rr 30), .ref (rr 31), .ref (rr 32), .ref (rr 33), .int 0, .int 0, .long 0, .long 0, .int 0, .int 0, .ref (rr 40), .ref (rr 41), .ref (rr 42), .ref (rr 43), .ref (rr 44), .ref (rr 45), .int 0, .ref (rr 47), .ref (rr 48)]))] sz)) 0 0 (va_A [(m0, .inr (12, [.ref (rr 0), .int 0, .int 0, .ref (rr 3), .ref (rr 4), .ref (rr 5), .ref (rr 6), .ref (rr 7), .ref (rr 8), .int 0, .ref (rr 10), .ref (rr 11), .ref (rr 12), .ref (rr 13), .ref (rr 14), .ref (rr 15), .ref (rr 16), .ref (rr 17), .ref (rr 18), .ref (rr 19), .int 1, .int 0, .int 0, .ref (rr 23), .ref (rr 24), .ref (rr 25), .int 0, .ref (rr 27), .int 0, .ref (rr 29), .ref (rr 30), .ref (rr 31), .ref (rr 32), .ref (rr 33), .int 0, .int 0, .long 0, .long 0, .int 0, .int 0, .ref (rr 40), .ref (rr 41), .ref (rr 42), .ref (rr 43), .ref (rr 44), .ref (rr 45), .int 0, .ref (rr 47), .ref (rr 48)]))] sz) := by
  refine Met.ofW (cc := cX12_form) (maxL := 8) (ret := (some .int)) (by decide) rfl ?_
  intro p e s m args below meth c s₁ B hml hv
  obtain ⟨rfl, hsz, hP, hK, hD0⟩ := hv
  have hx := B.exec
  have hb := B.bytes
  have hr := B.returns
  have hts := atoms_spec (ws := wsX12_form) B.pre
  have hown : s.vm.findClass RX12 = some m.cls := findClass_of_methodNamed B.named
  have hlocks := B.notSynchronized
  subst hsz
  have hD := hD0.self (sz := s.heap.size)
  generalize hAe : va_A [(m0, .inr (12, [.ref (rr 0), .int 0, .int 0, .ref (rr 3), .ref (rr 4), .ref (rr 5), .ref (rr 6), .ref (rr 7), .ref (rr 8), .int 0, .ref (rr 10), .ref (rr 11), .ref (rr 12), .ref (rr 13), .ref (rr 14), .ref (rr 15), .ref (rr 16), .ref (rr 17), .ref (rr 18), .ref (rr 19), .int 1, .int 0, .int 0, .ref (rr 23), .ref (rr 24), .ref (rr 25), .int 0, .ref (rr 27), .int 0, .ref (rr 29), .ref (rr 30), .ref (rr 31), .ref (rr 32), .ref (rr 33), .int 0, .int 0, .long 0, .long 0, .int 0, .int 0, .ref (rr 40), .ref (rr 41), .ref (rr 42), .ref (rr 43), .ref (rr 44), .ref (rr 45), .int 0, .ref (rr 47), .ref (rr 48)]))] s.heap.size = A at hD ⊢
  have hA : ∀ q : Nat, s.heap.size ≤ q → A q := fun q h => by rw [← hAe]; exact Or.inr h
  obtain ⟨H, hH⟩ : ∃ H : Heap, H = s.heap := ⟨_, rfl⟩
  have hS : va_S A s.heap H [] := by rw [hH]; exact va_S.rf
  rw [← hH] at hP ⊢
  have hP : va_P (dC, dI) vwCl [(m0, .inr (12, [.ref (rr 0), .int 0, .int 0, .ref (rr 3), .ref (rr 4), .ref (rr 5), .ref (rr 6), .ref (rr 7), .ref (rr 8), .int 0, .ref (rr 10), .ref (rr 11), .ref (rr 12), .ref (rr 13), .ref (rr 14), .ref (rr 15), .ref (rr 16), .ref (rr 17), .ref (rr 18), .ref (rr 19), .int 1, .int 0, .int 0, .ref (rr 23), .ref (rr 24), .ref (rr 25), .int 0, .ref (rr 27), .int 0, .ref (rr 29), .ref (rr 30), .ref (rr 31), .ref (rr 32), .ref (rr 33), .int 0, .int 0, .long 0, .long 0, .int 0, .int 0, .ref (rr 40), .ref (rr 41), .ref (rr 42), .ref (rr 43), .ref (rr 44), .ref (rr 45), .int 0, .ref (rr 47), .ref (rr 48)]))] H := hP
  have hl := lv_entry ([.ref m0, .int k0, .int s0, .int c0, .int kp]) (n := 8) (Nat.le_of_ble_eq_true rfl)
  rw [lg_entry_eq]
  generalize (lg_sl ([.ref m0, .int k0, .int s0, .int c0, .int kp]) ++ List.replicate (8 - (lg_sl ([.ref m0, .int k0, .int s0, .int c0, .int kp])).length) Slot.unset).toArray = ls at hl ⊢
  have hl : lv_has ls 8 [(0, .ref m0), (1, .int k0), (2, .int s0), (3, .int c0), (4, .int kp)] := hl
  refine lv_aload_n hx hb dX12_form_0 rfl (lv_at hl 0 rfl) ?_
  refine va_get (D := (dC, dI)) (ci := 12) (v := .int 0) (C := RX12) (T := TX12) (N := 49) hx hb hts (by decide +kernel) hown hK hP 0 rfl rfl 1 (by decide) (hts (.fieldLink RX12 120 "JoinBenchModel" "taped" "I") (by decide +kernel)) (fun _ h9 => h9) rfl dX12_form_1 ?_
  refine lv_istore (lv' := [(5, .int 0), (0, .ref m0), (1, .int k0), (2, .int s0), (3, .int c0), (4, .int kp)]) hx hb dX12_form_4 hl (by decide) rfl (fun ls hl => ?_)
  refine lv_aload_n hx hb dX12_form_6 rfl (lv_at hl 1 rfl) ?_
  have hPc := hP.sub (ws' := [(m0, .inr (12, [.ref (rr 0), .int 0, .int 0, .ref (rr 3), .ref (rr 4), .ref (rr 5), .ref (rr 6), .ref (rr 7), .ref (rr 8), .int 0, .ref (rr 10), .ref (rr 11), .ref (rr 12), .ref (rr 13), .ref (rr 14), .ref (rr 15), .ref (rr 16), .ref (rr 17), .ref (rr 18), .ref (rr 19), .int 1, .int 0, .int 0, .ref (rr 23), .ref (rr 24), .ref (rr 25), .int 0, .ref (rr 27), .int 0, .ref (rr 29), .ref (rr 30), .ref (rr 31), .ref (rr 32), .ref (rr 33), .int 0, .int 0, .long 0, .long 0, .int 0, .int 0, .ref (rr 40), .ref (rr 41), .ref (rr 42), .ref (rr 43), .ref (rr 44), .ref (rr 45), .int 0, .ref (rr 47), .ref (rr 48)]))]) [0] rfl
  have hKc := hK.sub (tys' := []) [] rfl
  refine vp_callSi (va_Run.run (va_runV (As := []) (rest := []) ⟨hx, hb, hml, hown, hts⟩ (m_isText0 l dC dI m0 rr) (cwV 0 hts gX12_form_X12_isText rfl rfl rfl (by decide +kernel) ⟨Nat.le_of_ble_eq_true rfl, Nat.le_of_ble_eq_true rfl⟩) ⟨fun a U g mk q => by obtain ⟨q0, qP, qK⟩ := q; exact ⟨q0, qP, va_K.moved (u := U) (U := U.calling g mk a) (Vm.Alike.refl U.vm) qK⟩, va_recv hKc hPc (ci := 12) (q0 := 0) rfl rfl, fun U hU hW => ⟨rfl, by rw [hU]; exact hPc, va_K.moved hW.alike hKc⟩⟩ rfl rfl hl.1 rfl (lv_room (Nat.le_of_ble_eq_true rfl)) dX12_form_7 ⟨Nat.le_of_ble_eq_true rfl, Nat.le_of_ble_eq_true rfl⟩)) (fun r_2 hw_1 => ?_)
  obtain rfl : r_2 = 1 := hw_1
  refine lv_if_eq (tgt := 66) hx hb dX12_form_10 (by decide) (fun c_3 => ?_) (fun c_3 => ?_)
  · exact absurd c_3 (by decide)
  refine lv_aload_n hx hb dX12_form_13 rfl (lv_at hl 1 rfl) ?_
  refine va_get (D := (dC, dI)) (ci := 12) (v := .int 0) (C := RX12) (T := TX12) (N := 49) hx hb hts (by decide +kernel) hown hK hP 0 rfl rfl 2 (by decide) (hts (.fieldLink RX12 131 "JoinBenchModel" "forms" "I") (by decide +kernel)) (fun _ h9 => h9) rfl dX12_form_14 ?_
  refine lv_bipush (v := 40) hx hb dX12_form_17 (by decide) ?_
  refine lv_icmp_ge (tgt := 66) hx hb dX12_form_19 (by decide) (fun c_4 => ?_) (fun c_4 => ?_)
  · exact absurd c_4 (by decide)
  refine lv_iload hx hb dX12_form_22 (lv_at hl 0 rfl) ?_
  refine lv_iconst (v := 1) hx hb dX12_form_24 (by decide) ?_
  refine lv_bipush (v := 8) hx hb dX12_form_25 (by decide) ?_
  have hPc := hP.sub (ws' := []) [] rfl
  have hKc := hK.sub (tys' := []) [] rfl
  refine vp_callSi (va_Run.run (va_runS (As := [.int 0, .int 1, .int 8]) (rest := []) ⟨hx, hb, hml, hown, hts⟩ (m_in l dC dI 0 1 8) (va_cwS 3 hts gX12_form_X12_in rfl rfl rfl (by decide +kernel) ⟨Nat.le_of_ble_eq_true rfl, Nat.le_of_ble_eq_true rfl⟩) ⟨fun a U g mk q => by obtain ⟨q0, qP, qK⟩ := q; exact ⟨q0, qP, va_K.moved (u := U) (U := U.calling g mk a) (Vm.Alike.refl U.vm) qK⟩, fun U hU hW => ⟨rfl, by rw [hU]; exact hPc, va_K.moved hW.alike hKc⟩⟩ rfl rfl hl.1 rfl (lv_room (Nat.le_of_ble_eq_true rfl)) dX12_form_27 ⟨Nat.le_of_ble_eq_true rfl, Nat.le_of_ble_eq_true rfl⟩)) (fun r_6 hw_5 => ?_)
  rcases hw_5 with ⟨rfl, hw_5⟩ | ⟨rfl, hw_5⟩
  · exact absurd hw_5 (show ¬ inR 0 1 8 from fun q => absurd q (by unfold inR; decide))
  refine lv_if_eq (tgt := 66) hx hb dX12_form_30 (by decide) (fun c_7 => ?_) (fun c_7 => ?_)
  rotate_left
  · exact absurd (by decide) c_7
  refine lv_iconst (v := 0) hx hb dX12_form_66 (by decide) ?_
  refine lv_istore (lv' := [(6, .int 0), (5, .int 0), (0, .ref m0), (1, .int k0), (2, .int s0), (3, .int c0), (4, .int kp)]) hx hb dX12_form_67 hl (by decide) rfl (fun ls hl => ?_)
  refine lv_aload_n hx hb dX12_form_69 rfl (lv_at hl 2 rfl) ?_
  refine lv_iconst (v := 0) hx hb dX12_form_70 (by decide) ?_
  refine va_put (D := (dC, dI)) (ci := 12) (v := .int 0) (ty := .int) (C := RX12) (T := TX12) (N := 49) hx hb hts (by decide +kernel) tyX12 tyX12_ok nmX12 hown hK hP hD hS 0 rfl rfl 1 (by decide) (hts (.fieldLink RX12 120 "JoinBenchModel" "taped" "I") (by decide +kernel)) (fun _ h9 => h9) rfl (by decide +kernel) rfl rfl (Nat.le_of_ble_eq_true rfl) dX12_form_71 (fun H locs hP hD hS => ?_)
  have hP : va_P (dC, dI) vwCl [(m0, .inr (12, [.ref (rr 0), .int 0, .int 0, .ref (rr 3), .ref (rr 4), .ref (rr 5), .ref (rr 6), .ref (rr 7), .ref (rr 8), .int 0, .ref (rr 10), .ref (rr 11), .ref (rr 12), .ref (rr 13), .ref (rr 14), .ref (rr 15), .ref (rr 16), .ref (rr 17), .ref (rr 18), .ref (rr 19), .int 1, .int 0, .int 0, .ref (rr 23), .ref (rr 24), .ref (rr 25), .int 0, .ref (rr 27), .int 0, .ref (rr 29), .ref (rr 30), .ref (rr 31), .ref (rr 32), .ref (rr 33), .int 0, .int 0, .long 0, .long 0, .int 0, .int 0, .ref (rr 40), .ref (rr 41), .ref (rr 42), .ref (rr 43), .ref (rr 44), .ref (rr 45), .int 0, .ref (rr 47), .ref (rr 48)]))] H := hP
  have hD : va_D A [(m0, .inr (12, [.ref (rr 0), .int 0, .int 0, .ref (rr 3), .ref (rr 4), .ref (rr 5), .ref (rr 6), .ref (rr 7), .ref (rr 8), .int 0, .ref (rr 10), .ref (rr 11), .ref (rr 12), .ref (rr 13), .ref (rr 14), .ref (rr 15), .ref (rr 16), .ref (rr 17), .ref (rr 18), .ref (rr 19), .int 1, .int 0, .int 0, .ref (rr 23), .ref (rr 24), .ref (rr 25), .int 0, .ref (rr 27), .int 0, .ref (rr 29), .ref (rr 30), .ref (rr 31), .ref (rr 32), .ref (rr 33), .int 0, .int 0, .long 0, .long 0, .int 0, .int 0, .ref (rr 40), .ref (rr 41), .ref (rr 42), .ref (rr 43), .ref (rr 44), .ref (rr 45), .int 0, .ref (rr 47), .ref (rr 48)]))] := hD
  refine lv_iload hx hb dX12_form_74 (lv_at hl 0 rfl) ?_
  refine lv_if_ne (tgt := 81) hx hb dX12_form_76 (by decide) (fun c_8 => ?_) (fun c_8 => ?_)
  · exact absurd (by decide) c_8
  refine lv_iconst (v := (-1)) hx hb dX12_form_79 (by decide) ?_
  refine W.widen (k := 0) (n := 0) (Nat.le_of_ble_eq_true rfl) (Nat.le_of_ble_eq_true rfl) ?_
  exact W.iret (v := (-1)) hx hb hr (fun t ht hW => ⟨⟨(-1), (), rfl, rfl, trivial⟩, hS.F ht⟩) hS.2.2 dX12_form_80
set_option maxHeartbeats 4000000 in
set_option maxRecDepth 100000 in
/-- X12_rule -/
theorem m_rule0 (l : Launch) (dC : Nat → ClassId) (dI : Nat → Nat → Nat) (sz : Nat) (m0 : Nat) (rr : Nat → Nat) (e0 : Int32) (b0 : Int32) (c0 : Int32) (f0 : Int32) (l0 : Int32) : Met l yX12_rule wsX12_rule ({ frames := 1, cells := 0, slots := 0, locals := 22 }) (va_Pc [.ref m0, .int e0, .int b0, .int c0, .int f0, .int l0] (fun U => U.heap.size = sz ∧ va_P (dC, dI) vwCl [(m0, .inr (12, [.ref (rr 0), .int 0, .int 0, .ref (rr 3), .ref (rr 4), .ref (rr 5), .ref (rr 6), .ref (rr 7), .ref (rr 8), .int 0, .ref (rr 10), .ref (rr 11), .ref (rr 12), .ref (rr 13), .ref (rr 14), .ref (rr 15), .ref (rr 16), .ref (rr 17), .ref (rr 18), .ref (rr 19), .int 1, .int 0, .int 0, .ref (rr 23), .ref (rr 24), .ref (rr 25), .int 0, .ref (rr 27), .int 0, .ref (rr 29), .ref (rr 30), .ref (rr 31), .ref (rr 32), .ref (rr 33), .int 0, .int 0, .long 0, .long 0, .int 0, .int 0, .ref (rr 40), .ref (rr 41), .ref (rr 42), .ref (rr 43), .ref (rr 44), .ref (rr 45), .int 0, .ref (rr 47), .ref (rr 48)]))] U.heap ∧ va_K (dC, dI) vwCl [] U ∧ va_D (fun _ => True) [(m0, .inr (12, [.ref (rr 0), .int 0, .int 0, .ref (rr 3), .ref (rr 4), .ref (rr 5), .ref (rr 6), .ref (rr 7), .ref (rr 8), .int 0, .ref (rr 10), .ref (rr 11), .ref (rr 12), .ref (rr 13), .ref (rr 14), .ref (rr 15), .ref (rr 16), .ref (rr 17), .ref (rr 18), .ref (rr 19), .int 1, .int 0, .int 0, .ref (rr 23), .ref (rr 24), .ref (rr 25), .int 0, .ref (rr 27), .int 0, .ref (rr 29), .ref (rr 30), .ref (rr 31), .ref (rr 32), .ref (rr 33), .int 0, .int 0, .long 0, .long 0, .int 0, .int 0, .ref (rr 40), .ref (rr 41), .ref (rr 42), .ref (rr 43), .ref (rr 44), .ref (rr 45), .int 0, .ref (rr 47), .ref (rr 48)]))])) (va_Qi (fun (r : Int32) (_ : Unit) => r = -1) (fun (_ : Unit) (_ : State) => True) (va_A [(m0, .inr (12, [.ref (rr 0), .int 0, .int 0, .ref (rr 3), .ref (rr 4), .ref (rr 5), .ref (rr 6), .ref (rr 7), .ref (rr 8), .int 0, .ref (rr 10), .ref (rr 11), .ref (rr 12), .ref (rr 13), .ref (rr 14), .ref (rr 15), .ref (rr 16), .ref (rr 17), .ref (rr 18), .ref (rr 19), .int 1, .int 0, .int 0, .ref (rr 23), .ref (rr 24), .ref (rr 25), .int 0, .ref (rr 27), .int 0, .ref (rr 29), .ref (rr 30), .ref (rr 31), .ref (rr 32), .ref (rr 33), .int 0, .int 0, .long 0, .long 0, .int 0, .int 0, .ref (rr 40), .ref (rr 41), .ref (rr 42), .ref (rr 43), .ref (rr 44), .ref (rr 45), .int 0, .ref (rr 47), .ref (rr 48)]))] sz)) 0 0 (va_A [(m0, .inr (12, [.ref (rr 0), .int 0, .int 0, .ref (rr 3), .ref (rr 4), .ref (rr 5), .ref (rr 6), .ref (rr 7), .ref (rr 8), .int 0, .ref (rr 10), .ref (rr 11), .ref (rr 12), .ref (rr 13), .ref (rr 14), .ref (rr 15), .ref (rr 16), .ref (rr 17), .ref (rr 18), .ref (rr 19), .int 1, .int 0, .int 0, .ref (rr 23), .ref (rr 24), .ref (rr 25), .int 0, .ref (rr 27), .int 0, .ref (rr 29), .ref (rr 30), .ref (rr 31), .ref (rr 32), .ref (rr 33), .int 0, .int 0, .long 0, .long 0, .int 0, .int 0, .ref (rr 40), .ref (rr 41), .ref (rr 42), .ref (rr 43), .ref (rr 44), .ref (rr 45), .int 0, .ref (rr 47), .ref (rr 48)]))] sz) := by
  refine Met.ofW (cc := cX12_rule) (maxL := 9) (ret := (some .int)) (by decide) rfl ?_
  intro p e s m args below meth c s₁ B hml hv
  obtain ⟨rfl, hsz, hP, hK, hD0⟩ := hv
  have hx := B.exec
  have hb := B.bytes
  have hr := B.returns
  have hts := atoms_spec (ws := wsX12_rule) B.pre
  have hown : s.vm.findClass RX12 = some m.cls := findClass_of_methodNamed B.named
  have hlocks := B.notSynchronized
  subst hsz
  have hD := hD0.self (sz := s.heap.size)
  generalize hAe : va_A [(m0, .inr (12, [.ref (rr 0), .int 0, .int 0, .ref (rr 3), .ref (rr 4), .ref (rr 5), .ref (rr 6), .ref (rr 7), .ref (rr 8), .int 0, .ref (rr 10), .ref (rr 11), .ref (rr 12), .ref (rr 13), .ref (rr 14), .ref (rr 15), .ref (rr 16), .ref (rr 17), .ref (rr 18), .ref (rr 19), .int 1, .int 0, .int 0, .ref (rr 23), .ref (rr 24), .ref (rr 25), .int 0, .ref (rr 27), .int 0, .ref (rr 29), .ref (rr 30), .ref (rr 31), .ref (rr 32), .ref (rr 33), .int 0, .int 0, .long 0, .long 0, .int 0, .int 0, .ref (rr 40), .ref (rr 41), .ref (rr 42), .ref (rr 43), .ref (rr 44), .ref (rr 45), .int 0, .ref (rr 47), .ref (rr 48)]))] s.heap.size = A at hD ⊢
  have hA : ∀ q : Nat, s.heap.size ≤ q → A q := fun q h => by rw [← hAe]; exact Or.inr h
  obtain ⟨H, hH⟩ : ∃ H : Heap, H = s.heap := ⟨_, rfl⟩
  have hS : va_S A s.heap H [] := by rw [hH]; exact va_S.rf
  rw [← hH] at hP ⊢
  have hP : va_P (dC, dI) vwCl [(m0, .inr (12, [.ref (rr 0), .int 0, .int 0, .ref (rr 3), .ref (rr 4), .ref (rr 5), .ref (rr 6), .ref (rr 7), .ref (rr 8), .int 0, .ref (rr 10), .ref (rr 11), .ref (rr 12), .ref (rr 13), .ref (rr 14), .ref (rr 15), .ref (rr 16), .ref (rr 17), .ref (rr 18), .ref (rr 19), .int 1, .int 0, .int 0, .ref (rr 23), .ref (rr 24), .ref (rr 25), .int 0, .ref (rr 27), .int 0, .ref (rr 29), .ref (rr 30), .ref (rr 31), .ref (rr 32), .ref (rr 33), .int 0, .int 0, .long 0, .long 0, .int 0, .int 0, .ref (rr 40), .ref (rr 41), .ref (rr 42), .ref (rr 43), .ref (rr 44), .ref (rr 45), .int 0, .ref (rr 47), .ref (rr 48)]))] H := hP
  have hl := lv_entry ([.ref m0, .int e0, .int b0, .int c0, .int f0, .int l0]) (n := 9) (Nat.le_of_ble_eq_true rfl)
  rw [lg_entry_eq]
  generalize (lg_sl ([.ref m0, .int e0, .int b0, .int c0, .int f0, .int l0]) ++ List.replicate (9 - (lg_sl ([.ref m0, .int e0, .int b0, .int c0, .int f0, .int l0])).length) Slot.unset).toArray = ls at hl ⊢
  have hl : lv_has ls 9 [(0, .ref m0), (1, .int e0), (2, .int b0), (3, .int c0), (4, .int f0), (5, .int l0)] := hl
  refine lv_aload_n hx hb dX12_rule_0 rfl (lv_at hl 0 rfl) ?_
  refine va_get (D := (dC, dI)) (ci := 12) (v := .int 0) (C := RX12) (T := TX12) (N := 49) hx hb hts (by decide +kernel) hown hK hP 0 rfl rfl 1 (by decide) (hts (.fieldLink RX12 120 "JoinBenchModel" "taped" "I") (by decide +kernel)) (fun _ h9 => h9) rfl dX12_rule_1 ?_
  refine lv_istore (lv' := [(6, .int 0), (0, .ref m0), (1, .int e0), (2, .int b0), (3, .int c0), (4, .int f0), (5, .int l0)]) hx hb dX12_rule_4 hl (by decide) rfl (fun ls hl => ?_)
  refine lv_aload_n hx hb dX12_rule_6 rfl (lv_at hl 1 rfl) ?_
  have hPc := hP.sub (ws' := [(m0, .inr (12, [.ref (rr 0), .int 0, .int 0, .ref (rr 3), .ref (rr 4), .ref (rr 5), .ref (rr 6), .ref (rr 7), .ref (rr 8), .int 0, .ref (rr 10), .ref (rr 11), .ref (rr 12), .ref (rr 13), .ref (rr 14), .ref (rr 15), .ref (rr 16), .ref (rr 17), .ref (rr 18), .ref (rr 19), .int 1, .int 0, .int 0, .ref (rr 23), .ref (rr 24), .ref (rr 25), .int 0, .ref (rr 27), .int 0, .ref (rr 29), .ref (rr 30), .ref (rr 31), .ref (rr 32), .ref (rr 33), .int 0, .int 0, .long 0, .long 0, .int 0, .int 0, .ref (rr 40), .ref (rr 41), .ref (rr 42), .ref (rr 43), .ref (rr 44), .ref (rr 45), .int 0, .ref (rr 47), .ref (rr 48)]))]) [0] rfl
  have hKc := hK.sub (tys' := []) [] rfl
  refine vp_callSi (va_Run.run (va_runV (As := []) (rest := []) ⟨hx, hb, hml, hown, hts⟩ (m_isText0 l dC dI m0 rr) (cwV 0 hts gX12_rule_X12_isText rfl rfl rfl (by decide +kernel) ⟨Nat.le_of_ble_eq_true rfl, Nat.le_of_ble_eq_true rfl⟩) ⟨fun a U g mk q => by obtain ⟨q0, qP, qK⟩ := q; exact ⟨q0, qP, va_K.moved (u := U) (U := U.calling g mk a) (Vm.Alike.refl U.vm) qK⟩, va_recv hKc hPc (ci := 12) (q0 := 0) rfl rfl, fun U hU hW => ⟨rfl, by rw [hU]; exact hPc, va_K.moved hW.alike hKc⟩⟩ rfl rfl hl.1 rfl (lv_room (Nat.le_of_ble_eq_true rfl)) dX12_rule_7 ⟨Nat.le_of_ble_eq_true rfl, Nat.le_of_ble_eq_true rfl⟩)) (fun r_2 hw_1 => ?_)
  obtain rfl : r_2 = 1 := hw_1
  refine lv_if_eq (tgt := 97) hx hb dX12_rule_10 (by decide) (fun c_3 => ?_) (fun c_3 => ?_)
  · exact absurd c_3 (by decide)
  refine lv_aload_n hx hb dX12_rule_13 rfl (lv_at hl 1 rfl) ?_
  refine va_get (D := (dC, dI)) (ci := 12) (v := .int 0) (C := RX12) (T := TX12) (N := 49) hx hb hts (by decide +kernel) hown hK hP 0 rfl rfl 9 (by decide) (hts (.fieldLink RX12 138 "JoinBenchModel" "rules" "I") (by decide +kernel)) (fun _ h9 => h9) rfl dX12_rule_14 ?_
  refine lv_bipush (v := 24) hx hb dX12_rule_17 (by decide) ?_
  refine lv_icmp_ge (tgt := 97) hx hb dX12_rule_19 (by decide) (fun c_4 => ?_) (fun c_4 => ?_)
  · exact absurd c_4 (by decide)
  refine lv_iload_n hx hb dX12_rule_22 rfl (lv_at hl 2 rfl) ?_
  refine lv_iconst (v := 0) hx hb dX12_rule_23 (by decide) ?_
  refine lv_iconst (v := 3) hx hb dX12_rule_24 (by decide) ?_
  have hPc := hP.sub (ws' := []) [] rfl
  have hKc := hK.sub (tys' := []) [] rfl
  refine vp_callSi (va_Run.run (va_runS (As := [.int e0, .int 0, .int 3]) (rest := []) ⟨hx, hb, hml, hown, hts⟩ (m_in l dC dI e0 0 3) (va_cwS 3 hts gX12_rule_X12_in rfl rfl rfl (by decide +kernel) ⟨Nat.le_of_ble_eq_true rfl, Nat.le_of_ble_eq_true rfl⟩) ⟨fun a U g mk q => by obtain ⟨q0, qP, qK⟩ := q; exact ⟨q0, qP, va_K.moved (u := U) (U := U.calling g mk a) (Vm.Alike.refl U.vm) qK⟩, fun U hU hW => ⟨rfl, by rw [hU]; exact hPc, va_K.moved hW.alike hKc⟩⟩ rfl rfl hl.1 rfl (lv_room (Nat.le_of_ble_eq_true rfl)) dX12_rule_25 ⟨Nat.le_of_ble_eq_true rfl, Nat.le_of_ble_eq_true rfl⟩)) (fun r_6 hw_5 => ?_)
  rcases hw_5 with ⟨rfl, hw_5⟩ | ⟨rfl, hw_5⟩
  · refine lv_if_eq (tgt := 97) hx hb dX12_rule_28 (by decide) (fun c_7 => ?_) (fun c_7 => ?_)
    · exact absurd c_7 (by decide)
    refine lv_iload_n hx hb dX12_rule_31 rfl (lv_at hl 3 rfl) ?_
    refine lv_iconst (v := 0) hx hb dX12_rule_32 (by decide) ?_
    refine lv_iconst (v := 3) hx hb dX12_rule_33 (by decide) ?_
    have hPc := hP.sub (ws' := []) [] rfl
    have hKc := hK.sub (tys' := []) [] rfl
    refine vp_callSi (va_Run.run (va_runS (As := [.int b0, .int 0, .int 3]) (rest := []) ⟨hx, hb, hml, hown, hts⟩ (m_in l dC dI b0 0 3) (va_cwS 3 hts gX12_rule_X12_in rfl rfl rfl (by decide +kernel) ⟨Nat.le_of_ble_eq_true rfl, Nat.le_of_ble_eq_true rfl⟩) ⟨fun a U g mk q => by obtain ⟨q0, qP, qK⟩ := q; exact ⟨q0, qP, va_K.moved (u := U) (U := U.calling g mk a) (Vm.Alike.refl U.vm) qK⟩, fun U hU hW => ⟨rfl, by rw [hU]; exact hPc, va_K.moved hW.alike hKc⟩⟩ rfl rfl hl.1 rfl (lv_room (Nat.le_of_ble_eq_true rfl)) dX12_rule_34 ⟨Nat.le_of_ble_eq_true rfl, Nat.le_of_ble_eq_true rfl⟩)) (fun r_9 hw_8 => ?_)
    rcases hw_8 with ⟨rfl, hw_8⟩ | ⟨rfl, hw_8⟩
    · refine lv_if_eq (tgt := 97) hx hb dX12_rule_37 (by decide) (fun c_10 => ?_) (fun c_10 => ?_)
      · exact absurd c_10 (by decide)
      refine lv_iload_n hx hb dX12_rule_40 rfl (lv_at hl 2 rfl) ?_
      refine lv_iload_n hx hb dX12_rule_41 rfl (lv_at hl 3 rfl) ?_
      refine lv_iadd hx hb dX12_rule_42 ?_
      refine lv_topi (fun y_11 ey_11 => ?_)
      refine lv_if_le (tgt := 97) hx hb dX12_rule_43 (by decide) (fun c_12 => ?_) (fun c_12 => ?_)
      · refine lv_iconst (v := 0) hx hb dX12_rule_97 (by decide) ?_
        refine lv_istore (lv' := [(7, .int 0), (6, .int 0), (0, .ref m0), (1, .int e0), (2, .int b0), (3, .int c0), (4, .int f0), (5, .int l0)]) hx hb dX12_rule_98 hl (by decide) rfl (fun ls hl => ?_)
        refine lv_aload_n hx hb dX12_rule_100 rfl (lv_at hl 2 rfl) ?_
        refine lv_iconst (v := 0) hx hb dX12_rule_101 (by decide) ?_
        refine va_put (D := (dC, dI)) (ci := 12) (v := .int 0) (ty := .int) (C := RX12) (T := TX12) (N := 49) hx hb hts (by decide +kernel) tyX12 tyX12_ok nmX12 hown hK hP hD hS 0 rfl rfl 1 (by decide) (hts (.fieldLink RX12 120 "JoinBenchModel" "taped" "I") (by decide +kernel)) (fun _ h9 => h9) rfl (by decide +kernel) rfl rfl (Nat.le_of_ble_eq_true rfl) dX12_rule_102 (fun H locs hP hD hS => ?_)
        have hP : va_P (dC, dI) vwCl [(m0, .inr (12, [.ref (rr 0), .int 0, .int 0, .ref (rr 3), .ref (rr 4), .ref (rr 5), .ref (rr 6), .ref (rr 7), .ref (rr 8), .int 0, .ref (rr 10), .ref (rr 11), .ref (rr 12), .ref (rr 13), .ref (rr 14), .ref (rr 15), .ref (rr 16), .ref (rr 17), .ref (rr 18), .ref (rr 19), .int 1, .int 0, .int 0, .ref (rr 23), .ref (rr 24), .ref (rr 25), .int 0, .ref (rr 27), .int 0, .ref (rr 29), .ref (rr 30), .ref (rr 31), .ref (rr 32), .ref (rr 33), .int 0, .int 0, .long 0, .long 0, .int 0, .int 0, .ref (rr 40), .ref (rr 41), .ref (rr 42), .ref (rr 43), .ref (rr 44), .ref (rr 45), .int 0, .ref (rr 47), .ref (rr 48)]))] H := hP
        have hD : va_D A [(m0, .inr (12, [.ref (rr 0), .int 0, .int 0, .ref (rr 3), .ref (rr 4), .ref (rr 5), .ref (rr 6), .ref (rr 7), .ref (rr 8), .int 0, .ref (rr 10), .ref (rr 11), .ref (rr 12), .ref (rr 13), .ref (rr 14), .ref (rr 15), .ref (rr 16), .ref (rr 17), .ref (rr 18), .ref (rr 19), .int 1, .int 0, .int 0, .ref (rr 23), .ref (rr 24), .ref (rr 25), .int 0, .ref (rr 27), .int 0, .ref (rr 29), .ref (rr 30), .ref (rr 31), .ref (rr 32), .ref (rr 33), .int 0, .int 0, .long 0, .long 0, .int 0, .int 0, .ref (rr 40), .ref (rr 41), .ref (rr 42), .ref (rr 43), .ref (rr 44), .ref (rr 45), .int 0, .ref (rr 47), .ref (rr 48)]))] := hD
        refine lv_iload hx hb dX12_rule_105 (lv_at hl 0 rfl) ?_
        refine lv_if_ne (tgt := 112) hx hb dX12_rule_107 (by decide) (fun c_13 => ?_) (fun c_13 => ?_)
        · exact absurd (by decide) c_13
        refine lv_iconst (v := (-1)) hx hb dX12_rule_110 (by decide) ?_
        refine W.widen (k := 0) (n := 0) (Nat.le_of_ble_eq_true rfl) (Nat.le_of_ble_eq_true rfl) ?_
        exact W.iret (v := (-1)) hx hb hr (fun t ht hW => ⟨⟨(-1), (), rfl, rfl, trivial⟩, hS.F ht⟩) hS.2.2 dX12_rule_111
      · refine lv_iload hx hb dX12_rule_46 (lv_at hl 0 rfl) ?_
        refine lv_iload_n hx hb dX12_rule_48 rfl (lv_at hl 2 rfl) ?_
        refine lv_isub hx hb dX12_rule_49 ?_
        refine lv_topi (fun y_14 ey_14 => ?_)
        refine lv_iload_n hx hb dX12_rule_50 rfl (lv_at hl 3 rfl) ?_
        refine lv_isub hx hb dX12_rule_51 ?_
        refine lv_topi (fun y_15 ey_15 => ?_)
        refine lv_iconst (v := 0) hx hb dX12_rule_52 (by decide) ?_
        refine lv_iconst (v := 4) hx hb dX12_rule_53 (by decide) ?_
        have hPc := hP.sub (ws' := []) [] rfl
        have hKc := hK.sub (tys' := []) [] rfl
        refine vp_callSi (va_Run.run (va_runS (As := [.int y_15, .int 0, .int 4]) (rest := []) ⟨hx, hb, hml, hown, hts⟩ (m_in l dC dI y_15 0 4) (va_cwS 3 hts gX12_rule_X12_in rfl rfl rfl (by decide +kernel) ⟨Nat.le_of_ble_eq_true rfl, Nat.le_of_ble_eq_true rfl⟩) ⟨fun a U g mk q => by obtain ⟨q0, qP, qK⟩ := q; exact ⟨q0, qP, va_K.moved (u := U) (U := U.calling g mk a) (Vm.Alike.refl U.vm) qK⟩, fun U hU hW => ⟨rfl, by rw [hU]; exact hPc, va_K.moved hW.alike hKc⟩⟩ rfl rfl hl.1 rfl (lv_room (Nat.le_of_ble_eq_true rfl)) dX12_rule_54 ⟨Nat.le_of_ble_eq_true rfl, Nat.le_of_ble_eq_true rfl⟩)) (fun r_17 hw_16 => ?_)
        rcases hw_16 with ⟨rfl, hw_16⟩ | ⟨rfl, hw_16⟩
        · exact absurd hw_16 (rl_dead hw_5 hw_8 ey_11 c_12 ey_14 ey_15)
        refine lv_if_eq (tgt := 97) hx hb dX12_rule_57 (by decide) (fun c_18 => ?_) (fun c_18 => ?_)
        rotate_left
        · exact absurd (by decide) c_18
        refine lv_iconst (v := 0) hx hb dX12_rule_97 (by decide) ?_
        refine lv_istore (lv' := [(7, .int 0), (6, .int 0), (0, .ref m0), (1, .int e0), (2, .int b0), (3, .int c0), (4, .int f0), (5, .int l0)]) hx hb dX12_rule_98 hl (by decide) rfl (fun ls hl => ?_)
        refine lv_aload_n hx hb dX12_rule_100 rfl (lv_at hl 2 rfl) ?_
        refine lv_iconst (v := 0) hx hb dX12_rule_101 (by decide) ?_
        refine va_put (D := (dC, dI)) (ci := 12) (v := .int 0) (ty := .int) (C := RX12) (T := TX12) (N := 49) hx hb hts (by decide +kernel) tyX12 tyX12_ok nmX12 hown hK hP hD hS 0 rfl rfl 1 (by decide) (hts (.fieldLink RX12 120 "JoinBenchModel" "taped" "I") (by decide +kernel)) (fun _ h9 => h9) rfl (by decide +kernel) rfl rfl (Nat.le_of_ble_eq_true rfl) dX12_rule_102 (fun H locs hP hD hS => ?_)
        have hP : va_P (dC, dI) vwCl [(m0, .inr (12, [.ref (rr 0), .int 0, .int 0, .ref (rr 3), .ref (rr 4), .ref (rr 5), .ref (rr 6), .ref (rr 7), .ref (rr 8), .int 0, .ref (rr 10), .ref (rr 11), .ref (rr 12), .ref (rr 13), .ref (rr 14), .ref (rr 15), .ref (rr 16), .ref (rr 17), .ref (rr 18), .ref (rr 19), .int 1, .int 0, .int 0, .ref (rr 23), .ref (rr 24), .ref (rr 25), .int 0, .ref (rr 27), .int 0, .ref (rr 29), .ref (rr 30), .ref (rr 31), .ref (rr 32), .ref (rr 33), .int 0, .int 0, .long 0, .long 0, .int 0, .int 0, .ref (rr 40), .ref (rr 41), .ref (rr 42), .ref (rr 43), .ref (rr 44), .ref (rr 45), .int 0, .ref (rr 47), .ref (rr 48)]))] H := hP
        have hD : va_D A [(m0, .inr (12, [.ref (rr 0), .int 0, .int 0, .ref (rr 3), .ref (rr 4), .ref (rr 5), .ref (rr 6), .ref (rr 7), .ref (rr 8), .int 0, .ref (rr 10), .ref (rr 11), .ref (rr 12), .ref (rr 13), .ref (rr 14), .ref (rr 15), .ref (rr 16), .ref (rr 17), .ref (rr 18), .ref (rr 19), .int 1, .int 0, .int 0, .ref (rr 23), .ref (rr 24), .ref (rr 25), .int 0, .ref (rr 27), .int 0, .ref (rr 29), .ref (rr 30), .ref (rr 31), .ref (rr 32), .ref (rr 33), .int 0, .int 0, .long 0, .long 0, .int 0, .int 0, .ref (rr 40), .ref (rr 41), .ref (rr 42), .ref (rr 43), .ref (rr 44), .ref (rr 45), .int 0, .ref (rr 47), .ref (rr 48)]))] := hD
        refine lv_iload hx hb dX12_rule_105 (lv_at hl 0 rfl) ?_
        refine lv_if_ne (tgt := 112) hx hb dX12_rule_107 (by decide) (fun c_19 => ?_) (fun c_19 => ?_)
        · exact absurd (by decide) c_19
        refine lv_iconst (v := (-1)) hx hb dX12_rule_110 (by decide) ?_
        refine W.widen (k := 0) (n := 0) (Nat.le_of_ble_eq_true rfl) (Nat.le_of_ble_eq_true rfl) ?_
        exact W.iret (v := (-1)) hx hb hr (fun t ht hW => ⟨⟨(-1), (), rfl, rfl, trivial⟩, hS.F ht⟩) hS.2.2 dX12_rule_111
    · refine lv_if_eq (tgt := 97) hx hb dX12_rule_37 (by decide) (fun c_20 => ?_) (fun c_20 => ?_)
      rotate_left
      · exact absurd (by decide) c_20
      refine lv_iconst (v := 0) hx hb dX12_rule_97 (by decide) ?_
      refine lv_istore (lv' := [(7, .int 0), (6, .int 0), (0, .ref m0), (1, .int e0), (2, .int b0), (3, .int c0), (4, .int f0), (5, .int l0)]) hx hb dX12_rule_98 hl (by decide) rfl (fun ls hl => ?_)
      refine lv_aload_n hx hb dX12_rule_100 rfl (lv_at hl 2 rfl) ?_
      refine lv_iconst (v := 0) hx hb dX12_rule_101 (by decide) ?_
      refine va_put (D := (dC, dI)) (ci := 12) (v := .int 0) (ty := .int) (C := RX12) (T := TX12) (N := 49) hx hb hts (by decide +kernel) tyX12 tyX12_ok nmX12 hown hK hP hD hS 0 rfl rfl 1 (by decide) (hts (.fieldLink RX12 120 "JoinBenchModel" "taped" "I") (by decide +kernel)) (fun _ h9 => h9) rfl (by decide +kernel) rfl rfl (Nat.le_of_ble_eq_true rfl) dX12_rule_102 (fun H locs hP hD hS => ?_)
      have hP : va_P (dC, dI) vwCl [(m0, .inr (12, [.ref (rr 0), .int 0, .int 0, .ref (rr 3), .ref (rr 4), .ref (rr 5), .ref (rr 6), .ref (rr 7), .ref (rr 8), .int 0, .ref (rr 10), .ref (rr 11), .ref (rr 12), .ref (rr 13), .ref (rr 14), .ref (rr 15), .ref (rr 16), .ref (rr 17), .ref (rr 18), .ref (rr 19), .int 1, .int 0, .int 0, .ref (rr 23), .ref (rr 24), .ref (rr 25), .int 0, .ref (rr 27), .int 0, .ref (rr 29), .ref (rr 30), .ref (rr 31), .ref (rr 32), .ref (rr 33), .int 0, .int 0, .long 0, .long 0, .int 0, .int 0, .ref (rr 40), .ref (rr 41), .ref (rr 42), .ref (rr 43), .ref (rr 44), .ref (rr 45), .int 0, .ref (rr 47), .ref (rr 48)]))] H := hP
      have hD : va_D A [(m0, .inr (12, [.ref (rr 0), .int 0, .int 0, .ref (rr 3), .ref (rr 4), .ref (rr 5), .ref (rr 6), .ref (rr 7), .ref (rr 8), .int 0, .ref (rr 10), .ref (rr 11), .ref (rr 12), .ref (rr 13), .ref (rr 14), .ref (rr 15), .ref (rr 16), .ref (rr 17), .ref (rr 18), .ref (rr 19), .int 1, .int 0, .int 0, .ref (rr 23), .ref (rr 24), .ref (rr 25), .int 0, .ref (rr 27), .int 0, .ref (rr 29), .ref (rr 30), .ref (rr 31), .ref (rr 32), .ref (rr 33), .int 0, .int 0, .long 0, .long 0, .int 0, .int 0, .ref (rr 40), .ref (rr 41), .ref (rr 42), .ref (rr 43), .ref (rr 44), .ref (rr 45), .int 0, .ref (rr 47), .ref (rr 48)]))] := hD
      refine lv_iload hx hb dX12_rule_105 (lv_at hl 0 rfl) ?_
      refine lv_if_ne (tgt := 112) hx hb dX12_rule_107 (by decide) (fun c_21 => ?_) (fun c_21 => ?_)
      · exact absurd (by decide) c_21
      refine lv_iconst (v := (-1)) hx hb dX12_rule_110 (by decide) ?_
      refine W.widen (k := 0) (n := 0) (Nat.le_of_ble_eq_true rfl) (Nat.le_of_ble_eq_true rfl) ?_
      exact W.iret (v := (-1)) hx hb hr (fun t ht hW => ⟨⟨(-1), (), rfl, rfl, trivial⟩, hS.F ht⟩) hS.2.2 dX12_rule_111
  · refine lv_if_eq (tgt := 97) hx hb dX12_rule_28 (by decide) (fun c_22 => ?_) (fun c_22 => ?_)
    rotate_left
    · exact absurd (by decide) c_22
    refine lv_iconst (v := 0) hx hb dX12_rule_97 (by decide) ?_
    refine lv_istore (lv' := [(7, .int 0), (6, .int 0), (0, .ref m0), (1, .int e0), (2, .int b0), (3, .int c0), (4, .int f0), (5, .int l0)]) hx hb dX12_rule_98 hl (by decide) rfl (fun ls hl => ?_)
    refine lv_aload_n hx hb dX12_rule_100 rfl (lv_at hl 2 rfl) ?_
    refine lv_iconst (v := 0) hx hb dX12_rule_101 (by decide) ?_
    refine va_put (D := (dC, dI)) (ci := 12) (v := .int 0) (ty := .int) (C := RX12) (T := TX12) (N := 49) hx hb hts (by decide +kernel) tyX12 tyX12_ok nmX12 hown hK hP hD hS 0 rfl rfl 1 (by decide) (hts (.fieldLink RX12 120 "JoinBenchModel" "taped" "I") (by decide +kernel)) (fun _ h9 => h9) rfl (by decide +kernel) rfl rfl (Nat.le_of_ble_eq_true rfl) dX12_rule_102 (fun H locs hP hD hS => ?_)
    have hP : va_P (dC, dI) vwCl [(m0, .inr (12, [.ref (rr 0), .int 0, .int 0, .ref (rr 3), .ref (rr 4), .ref (rr 5), .ref (rr 6), .ref (rr 7), .ref (rr 8), .int 0, .ref (rr 10), .ref (rr 11), .ref (rr 12), .ref (rr 13), .ref (rr 14), .ref (rr 15), .ref (rr 16), .ref (rr 17), .ref (rr 18), .ref (rr 19), .int 1, .int 0, .int 0, .ref (rr 23), .ref (rr 24), .ref (rr 25), .int 0, .ref (rr 27), .int 0, .ref (rr 29), .ref (rr 30), .ref (rr 31), .ref (rr 32), .ref (rr 33), .int 0, .int 0, .long 0, .long 0, .int 0, .int 0, .ref (rr 40), .ref (rr 41), .ref (rr 42), .ref (rr 43), .ref (rr 44), .ref (rr 45), .int 0, .ref (rr 47), .ref (rr 48)]))] H := hP
    have hD : va_D A [(m0, .inr (12, [.ref (rr 0), .int 0, .int 0, .ref (rr 3), .ref (rr 4), .ref (rr 5), .ref (rr 6), .ref (rr 7), .ref (rr 8), .int 0, .ref (rr 10), .ref (rr 11), .ref (rr 12), .ref (rr 13), .ref (rr 14), .ref (rr 15), .ref (rr 16), .ref (rr 17), .ref (rr 18), .ref (rr 19), .int 1, .int 0, .int 0, .ref (rr 23), .ref (rr 24), .ref (rr 25), .int 0, .ref (rr 27), .int 0, .ref (rr 29), .ref (rr 30), .ref (rr 31), .ref (rr 32), .ref (rr 33), .int 0, .int 0, .long 0, .long 0, .int 0, .int 0, .ref (rr 40), .ref (rr 41), .ref (rr 42), .ref (rr 43), .ref (rr 44), .ref (rr 45), .int 0, .ref (rr 47), .ref (rr 48)]))] := hD
    refine lv_iload hx hb dX12_rule_105 (lv_at hl 0 rfl) ?_
    refine lv_if_ne (tgt := 112) hx hb dX12_rule_107 (by decide) (fun c_23 => ?_) (fun c_23 => ?_)
    · exact absurd (by decide) c_23
    refine lv_iconst (v := (-1)) hx hb dX12_rule_110 (by decide) ?_
    refine W.widen (k := 0) (n := 0) (Nat.le_of_ble_eq_true rfl) (Nat.le_of_ble_eq_true rfl) ?_
    exact W.iret (v := (-1)) hx hb hr (fun t ht hW => ⟨⟨(-1), (), rfl, rfl, trivial⟩, hS.F ht⟩) hS.2.2 dX12_rule_111
set_option maxHeartbeats 4000000 in
set_option maxRecDepth 100000 in
/-- X12_isForm -/
theorem m_isForm0 (l : Launch) (dC : Nat → ClassId) (dI : Nat → Nat → Nat) (m0 : Nat) (rr : Nat → Nat) (f0 : Int32) : Met l yX12_isForm wsX12_isForm ({ frames := 1, cells := 0, slots := 0, locals := 22 }) (va_Pc [.ref m0, .int f0] (fun U => va_P (dC, dI) vwCl [(m0, .inr (12, [.ref (rr 0), .int 0, .int 0, .ref (rr 3), .ref (rr 4), .ref (rr 5), .ref (rr 6), .ref (rr 7), .ref (rr 8), .int 0, .ref (rr 10), .ref (rr 11), .ref (rr 12), .ref (rr 13), .ref (rr 14), .ref (rr 15), .ref (rr 16), .ref (rr 17), .ref (rr 18), .ref (rr 19), .int 1, .int 0, .int 0, .ref (rr 23), .ref (rr 24), .ref (rr 25), .int 0, .ref (rr 27), .int 0, .ref (rr 29), .ref (rr 30), .ref (rr 31), .ref (rr 32), .ref (rr 33), .int 0, .int 0, .long 0, .long 0, .int 0, .int 0, .ref (rr 40), .ref (rr 41), .ref (rr 42), .ref (rr 43), .ref (rr 44), .ref (rr 45), .int 0, .ref (rr 47), .ref (rr 48)]))] U.heap ∧ va_K (dC, dI) vwCl [] U)) (vp_Si (fun r => r = 0)) 0 0 (fun _ => False) := by
  refine Met.ofW (cc := cX12_isForm) (maxL := 2) (ret := (some .boolean)) (by decide) rfl ?_
  intro p e s m args below meth c s₁ B hml hv
  obtain ⟨rfl, hP, hK⟩ := hv
  have hx := B.exec
  have hb := B.bytes
  have hr := B.returns
  have hts := atoms_spec (ws := wsX12_isForm) B.pre
  have hown : s.vm.findClass RX12 = some m.cls := findClass_of_methodNamed B.named
  have hlocks := B.notSynchronized
  have hP : va_P (dC, dI) vwCl [(m0, .inr (12, [.ref (rr 0), .int 0, .int 0, .ref (rr 3), .ref (rr 4), .ref (rr 5), .ref (rr 6), .ref (rr 7), .ref (rr 8), .int 0, .ref (rr 10), .ref (rr 11), .ref (rr 12), .ref (rr 13), .ref (rr 14), .ref (rr 15), .ref (rr 16), .ref (rr 17), .ref (rr 18), .ref (rr 19), .int 1, .int 0, .int 0, .ref (rr 23), .ref (rr 24), .ref (rr 25), .int 0, .ref (rr 27), .int 0, .ref (rr 29), .ref (rr 30), .ref (rr 31), .ref (rr 32), .ref (rr 33), .int 0, .int 0, .long 0, .long 0, .int 0, .int 0, .ref (rr 40), .ref (rr 41), .ref (rr 42), .ref (rr 43), .ref (rr 44), .ref (rr 45), .int 0, .ref (rr 47), .ref (rr 48)]))] s.heap := hP
  have hl := lv_entry ([.ref m0, .int f0]) (n := 2) (Nat.le_of_ble_eq_true rfl)
  rw [lg_entry_eq]
  generalize (lg_sl ([.ref m0, .int f0]) ++ List.replicate (2 - (lg_sl ([.ref m0, .int f0])).length) Slot.unset).toArray = ls at hl ⊢
  have hl : lv_has ls 2 [(0, .ref m0), (1, .int f0)] := hl
  refine lv_iload_n hx hb dX12_isForm_0 rfl (lv_at hl 1 rfl) ?_
  refine lv_iconst (v := 0) hx hb dX12_isForm_1 (by decide) ?_
  refine lv_aload_n hx hb dX12_isForm_2 rfl (lv_at hl 0 rfl) ?_
  refine va_get (D := (dC, dI)) (ci := 12) (v := .int 0) (C := RX12) (T := TX12) (N := 49) hx hb hts (by decide +kernel) hown hK hP 0 rfl rfl 2 (by decide) (hts (.fieldLink RX12 131 "JoinBenchModel" "forms" "I") (by decide +kernel)) (fun _ h9 => h9) rfl dX12_isForm_3 ?_
  refine lv_iconst (v := 1) hx hb dX12_isForm_6 (by decide) ?_
  refine lv_isub hx hb dX12_isForm_7 ?_
  refine lv_topi (fun y_1 ey_1 => ?_)
  obtain rfl : y_1 = (-1) := ey_1.trans (by decide)
  have hPc := hP.sub (ws' := []) [] rfl
  have hKc := hK.sub (tys' := []) [] rfl
  refine vp_callSi (va_Run.run (va_runS (As := [.int f0, .int 0, .int (-1)]) (rest := []) ⟨hx, hb, hml, hown, hts⟩ (m_in l dC dI f0 0 (-1)) (va_cwS 3 hts gX12_isForm_X12_in rfl rfl rfl (by decide +kernel) ⟨Nat.le_of_ble_eq_true rfl, Nat.le_of_ble_eq_true rfl⟩) ⟨fun a U g mk q => by obtain ⟨q0, qP, qK⟩ := q; exact ⟨q0, qP, va_K.moved (u := U) (U := U.calling g mk a) (Vm.Alike.refl U.vm) qK⟩, fun U hU hW => ⟨rfl, by rw [hU]; exact hPc, va_K.moved hW.alike hKc⟩⟩ rfl rfl hl.1 rfl (lv_room (Nat.le_of_ble_eq_true rfl)) dX12_isForm_8 ⟨Nat.le_of_ble_eq_true rfl, Nat.le_of_ble_eq_true rfl⟩)) (fun r_3 hw_2 => ?_)
  rcases hw_2 with ⟨rfl, hw_2⟩ | ⟨rfl, hw_2⟩
  · exact absurd hw_2 (inR_d (by decide))
  exact W.zret (v := 0) hx hb hr rfl (fun t ht hW => ⟨0, rfl, rfl, ht⟩) (fun q h => absurd h List.not_mem_nil) dX12_isForm_11
set_option maxHeartbeats 4000000 in
set_option maxRecDepth 100000 in
/-- X12_cost -/
theorem m_cost0 (l : Launch) (dC : Nat → ClassId) (dI : Nat → Nat → Nat) (m0 : Nat) (rr : Nat → Nat) (f0 : Int32) (c0 : Int32) : Met l yX12_cost wsX12_cost ({ frames := 2, cells := 0, slots := 0, locals := 43 }) (va_Pc [.ref m0, .int f0, .int c0] (fun U => va_P (dC, dI) vwCl [(m0, .inr (12, [.ref (rr 0), .int 0, .int 0, .ref (rr 3), .ref (rr 4), .ref (rr 5), .ref (rr 6), .ref (rr 7), .ref (rr 8), .int 0, .ref (rr 10), .ref (rr 11), .ref (rr 12), .ref (rr 13), .ref (rr 14), .ref (rr 15), .ref (rr 16), .ref (rr 17), .ref (rr 18), .ref (rr 19), .int 1, .int 0, .int 0, .ref (rr 23), .ref (rr 24), .ref (rr 25), .int 0, .ref (rr 27), .int 0, .ref (rr 29), .ref (rr 30), .ref (rr 31), .ref (rr 32), .ref (rr 33), .int 0, .int 0, .long 0, .long 0, .int 0, .int 0, .ref (rr 40), .ref (rr 41), .ref (rr 42), .ref (rr 43), .ref (rr 44), .ref (rr 45), .int 0, .ref (rr 47), .ref (rr 48)]))] U.heap ∧ va_K (dC, dI) vwCl [] U)) (vp_Si (fun r => r = -1)) 0 0 (fun _ => False) := by
  refine Met.ofW (cc := cX12_cost) (maxL := 4) (ret := (some .int)) (by decide) rfl ?_
  intro p e s m args below meth c s₁ B hml hv
  obtain ⟨rfl, hP, hK⟩ := hv
  have hx := B.exec
  have hb := B.bytes
  have hr := B.returns
  have hts := atoms_spec (ws := wsX12_cost) B.pre
  have hown : s.vm.findClass RX12 = some m.cls := findClass_of_methodNamed B.named
  have hlocks := B.notSynchronized
  have hP : va_P (dC, dI) vwCl [(m0, .inr (12, [.ref (rr 0), .int 0, .int 0, .ref (rr 3), .ref (rr 4), .ref (rr 5), .ref (rr 6), .ref (rr 7), .ref (rr 8), .int 0, .ref (rr 10), .ref (rr 11), .ref (rr 12), .ref (rr 13), .ref (rr 14), .ref (rr 15), .ref (rr 16), .ref (rr 17), .ref (rr 18), .ref (rr 19), .int 1, .int 0, .int 0, .ref (rr 23), .ref (rr 24), .ref (rr 25), .int 0, .ref (rr 27), .int 0, .ref (rr 29), .ref (rr 30), .ref (rr 31), .ref (rr 32), .ref (rr 33), .int 0, .int 0, .long 0, .long 0, .int 0, .int 0, .ref (rr 40), .ref (rr 41), .ref (rr 42), .ref (rr 43), .ref (rr 44), .ref (rr 45), .int 0, .ref (rr 47), .ref (rr 48)]))] s.heap := hP
  have hl := lv_entry ([.ref m0, .int f0, .int c0]) (n := 4) (Nat.le_of_ble_eq_true rfl)
  rw [lg_entry_eq]
  generalize (lg_sl ([.ref m0, .int f0, .int c0]) ++ List.replicate (4 - (lg_sl ([.ref m0, .int f0, .int c0])).length) Slot.unset).toArray = ls at hl ⊢
  have hl : lv_has ls 4 [(0, .ref m0), (1, .int f0), (2, .int c0)] := hl
  refine lv_aload_n hx hb dX12_cost_0 rfl (lv_at hl 0 rfl) ?_
  refine lv_iload_n hx hb dX12_cost_1 rfl (lv_at hl 1 rfl) ?_
  have hPc := hP.sub (ws' := [(m0, .inr (12, [.ref (rr 0), .int 0, .int 0, .ref (rr 3), .ref (rr 4), .ref (rr 5), .ref (rr 6), .ref (rr 7), .ref (rr 8), .int 0, .ref (rr 10), .ref (rr 11), .ref (rr 12), .ref (rr 13), .ref (rr 14), .ref (rr 15), .ref (rr 16), .ref (rr 17), .ref (rr 18), .ref (rr 19), .int 1, .int 0, .int 0, .ref (rr 23), .ref (rr 24), .ref (rr 25), .int 0, .ref (rr 27), .int 0, .ref (rr 29), .ref (rr 30), .ref (rr 31), .ref (rr 32), .ref (rr 33), .int 0, .int 0, .long 0, .long 0, .int 0, .int 0, .ref (rr 40), .ref (rr 41), .ref (rr 42), .ref (rr 43), .ref (rr 44), .ref (rr 45), .int 0, .ref (rr 47), .ref (rr 48)]))]) [0] rfl
  have hKc := hK.sub (tys' := []) [] rfl
  refine vp_callSi (va_Run.run (va_runV (As := [.int f0]) (rest := []) ⟨hx, hb, hml, hown, hts⟩ (m_isForm0 l dC dI m0 rr f0) (cwV 1 hts gX12_cost_X12_isForm rfl rfl rfl (by decide +kernel) ⟨Nat.le_of_ble_eq_true rfl, Nat.le_of_ble_eq_true rfl⟩) ⟨fun a U g mk q => by obtain ⟨q0, qP, qK⟩ := q; exact ⟨q0, qP, va_K.moved (u := U) (U := U.calling g mk a) (Vm.Alike.refl U.vm) qK⟩, va_recv hKc hPc (ci := 12) (q0 := 0) rfl rfl, fun U hU hW => ⟨rfl, by rw [hU]; exact hPc, va_K.moved hW.alike hKc⟩⟩ rfl rfl hl.1 rfl (lv_room (Nat.le_of_ble_eq_true rfl)) dX12_cost_2 ⟨Nat.le_of_ble_eq_true rfl, Nat.le_of_ble_eq_true rfl⟩)) (fun r_2 hw_1 => ?_)
  obtain rfl : r_2 = 0 := hw_1
  refine lv_if_eq (tgt := 18) hx hb dX12_cost_5 (by decide) (fun c_3 => ?_) (fun c_3 => ?_)
  rotate_left
  · exact absurd (by decide) c_3
  refine lv_iconst (v := (-1)) hx hb dX12_cost_18 (by decide) ?_
  exact W.iret (v := (-1)) hx hb hr (fun t ht hW => ⟨(-1), rfl, rfl, ht⟩) (fun q h => absurd h List.not_mem_nil) dX12_cost_19
set_option maxHeartbeats 4000000 in
set_option maxRecDepth 100000 in
/-- X12_meets -/
theorem m_meets0 (l : Launch) (dC : Nat → ClassId) (dI : Nat → Nat → Nat) (sz : Nat) (m0 : Nat) (rr : Nat → Nat) (cZ : ClassId) (a0 : Int32) (b0 : Int32) (may : Int32) : Met l yX12_meets wsX12_meets ({ frames := 2, cells := 0, slots := 0, locals := 42 }) (va_Pc [.ref m0, .int a0, .int b0, .int may] (fun U => U.heap.size = sz ∧ va_P (dC, dI) vwCl [(m0, .inr (12, [.ref (rr 0), .int 0, .int 0, .ref (rr 3), .ref (rr 4), .ref (rr 5), .ref (rr 6), .ref (rr 7), .ref (rr 8), .int 0, .ref (rr 10), .ref (rr 11), .ref (rr 12), .ref (rr 13), .ref (rr 14), .ref (rr 15), .ref (rr 16), .ref (rr 17), .ref (rr 18), .ref (rr 19), .int 1, .int 0, .int 0, .ref (rr 23), .ref (rr 24), .ref (rr 25), .int 0, .ref (rr 27), .int 0, .ref (rr 29), .ref (rr 30), .ref (rr 31), .ref (rr 32), .ref (rr 33), .int 0, .int 0, .long 0, .long 0, .int 0, .int 0, .ref (rr 40), .ref (rr 41), .ref (rr 42), .ref (rr 43), .ref (rr 44), .ref (rr 45), .int 0, .ref (rr 47), .ref (rr 48)])), ((rr 17), .inl (cZ, 36, .inl (fun _ => 0)))] U.heap ∧ va_K (dC, dI) vwCl [(cZ, .boolean)] U ∧ va_D (fun _ => True) [(m0, .inr (12, [.ref (rr 0), .int 0, .int 0, .ref (rr 3), .ref (rr 4), .ref (rr 5), .ref (rr 6), .ref (rr 7), .ref (rr 8), .int 0, .ref (rr 10), .ref (rr 11), .ref (rr 12), .ref (rr 13), .ref (rr 14), .ref (rr 15), .ref (rr 16), .ref (rr 17), .ref (rr 18), .ref (rr 19), .int 1, .int 0, .int 0, .ref (rr 23), .ref (rr 24), .ref (rr 25), .int 0, .ref (rr 27), .int 0, .ref (rr 29), .ref (rr 30), .ref (rr 31), .ref (rr 32), .ref (rr 33), .int 0, .int 0, .long 0, .long 0, .int 0, .int 0, .ref (rr 40), .ref (rr 41), .ref (rr 42), .ref (rr 43), .ref (rr 44), .ref (rr 45), .int 0, .ref (rr 47), .ref (rr 48)])), ((rr 17), .inl (cZ, 36, .inl (fun _ => 0)))])) (va_Qi (fun (r : Int32) (_ : Unit) => bP r (inR a0 0 5 ∧ inR b0 0 5 ∧ may = 0)) (fun (_ : Unit) (_ : State) => True) (va_A [(m0, .inr (12, [.ref (rr 0), .int 0, .int 0, .ref (rr 3), .ref (rr 4), .ref (rr 5), .ref (rr 6), .ref (rr 7), .ref (rr 8), .int 0, .ref (rr 10), .ref (rr 11), .ref (rr 12), .ref (rr 13), .ref (rr 14), .ref (rr 15), .ref (rr 16), .ref (rr 17), .ref (rr 18), .ref (rr 19), .int 1, .int 0, .int 0, .ref (rr 23), .ref (rr 24), .ref (rr 25), .int 0, .ref (rr 27), .int 0, .ref (rr 29), .ref (rr 30), .ref (rr 31), .ref (rr 32), .ref (rr 33), .int 0, .int 0, .long 0, .long 0, .int 0, .int 0, .ref (rr 40), .ref (rr 41), .ref (rr 42), .ref (rr 43), .ref (rr 44), .ref (rr 45), .int 0, .ref (rr 47), .ref (rr 48)])), ((rr 17), .inl (cZ, 36, .inl (fun _ => 0)))] sz)) 0 0 (va_A [(m0, .inr (12, [.ref (rr 0), .int 0, .int 0, .ref (rr 3), .ref (rr 4), .ref (rr 5), .ref (rr 6), .ref (rr 7), .ref (rr 8), .int 0, .ref (rr 10), .ref (rr 11), .ref (rr 12), .ref (rr 13), .ref (rr 14), .ref (rr 15), .ref (rr 16), .ref (rr 17), .ref (rr 18), .ref (rr 19), .int 1, .int 0, .int 0, .ref (rr 23), .ref (rr 24), .ref (rr 25), .int 0, .ref (rr 27), .int 0, .ref (rr 29), .ref (rr 30), .ref (rr 31), .ref (rr 32), .ref (rr 33), .int 0, .int 0, .long 0, .long 0, .int 0, .int 0, .ref (rr 40), .ref (rr 41), .ref (rr 42), .ref (rr 43), .ref (rr 44), .ref (rr 45), .int 0, .ref (rr 47), .ref (rr 48)])), ((rr 17), .inl (cZ, 36, .inl (fun _ => 0)))] sz) := by
  refine Met.ofW (cc := cX12_meets) (maxL := 4) (ret := (some .boolean)) (by decide) rfl ?_
  intro p e s m args below meth c s₁ B hml hv
  obtain ⟨rfl, hsz, hP, hK, hD0⟩ := hv
  have hx := B.exec
  have hb := B.bytes
  have hr := B.returns
  have hts := atoms_spec (ws := wsX12_meets) B.pre
  have hown : s.vm.findClass RX12 = some m.cls := findClass_of_methodNamed B.named
  have hlocks := B.notSynchronized
  subst hsz
  have hD := hD0.self (sz := s.heap.size)
  generalize hAe : va_A [(m0, .inr (12, [.ref (rr 0), .int 0, .int 0, .ref (rr 3), .ref (rr 4), .ref (rr 5), .ref (rr 6), .ref (rr 7), .ref (rr 8), .int 0, .ref (rr 10), .ref (rr 11), .ref (rr 12), .ref (rr 13), .ref (rr 14), .ref (rr 15), .ref (rr 16), .ref (rr 17), .ref (rr 18), .ref (rr 19), .int 1, .int 0, .int 0, .ref (rr 23), .ref (rr 24), .ref (rr 25), .int 0, .ref (rr 27), .int 0, .ref (rr 29), .ref (rr 30), .ref (rr 31), .ref (rr 32), .ref (rr 33), .int 0, .int 0, .long 0, .long 0, .int 0, .int 0, .ref (rr 40), .ref (rr 41), .ref (rr 42), .ref (rr 43), .ref (rr 44), .ref (rr 45), .int 0, .ref (rr 47), .ref (rr 48)])), ((rr 17), .inl (cZ, 36, .inl (fun _ => 0)))] s.heap.size = A at hD ⊢
  have hA : ∀ q : Nat, s.heap.size ≤ q → A q := fun q h => by rw [← hAe]; exact Or.inr h
  obtain ⟨H, hH⟩ : ∃ H : Heap, H = s.heap := ⟨_, rfl⟩
  have hS : va_S A s.heap H [] := by rw [hH]; exact va_S.rf
  rw [← hH] at hP ⊢
  have hP : va_P (dC, dI) vwCl [(m0, .inr (12, [.ref (rr 0), .int 0, .int 0, .ref (rr 3), .ref (rr 4), .ref (rr 5), .ref (rr 6), .ref (rr 7), .ref (rr 8), .int 0, .ref (rr 10), .ref (rr 11), .ref (rr 12), .ref (rr 13), .ref (rr 14), .ref (rr 15), .ref (rr 16), .ref (rr 17), .ref (rr 18), .ref (rr 19), .int 1, .int 0, .int 0, .ref (rr 23), .ref (rr 24), .ref (rr 25), .int 0, .ref (rr 27), .int 0, .ref (rr 29), .ref (rr 30), .ref (rr 31), .ref (rr 32), .ref (rr 33), .int 0, .int 0, .long 0, .long 0, .int 0, .int 0, .ref (rr 40), .ref (rr 41), .ref (rr 42), .ref (rr 43), .ref (rr 44), .ref (rr 45), .int 0, .ref (rr 47), .ref (rr 48)])), ((rr 17), .inl (cZ, 36, .inl (fun _ => 0)))] H := hP
  have hl := lv_entry ([.ref m0, .int a0, .int b0, .int may]) (n := 4) (Nat.le_of_ble_eq_true rfl)
  rw [lg_entry_eq]
  generalize (lg_sl ([.ref m0, .int a0, .int b0, .int may]) ++ List.replicate (4 - (lg_sl ([.ref m0, .int a0, .int b0, .int may])).length) Slot.unset).toArray = ls at hl ⊢
  have hl : lv_has ls 4 [(0, .ref m0), (1, .int a0), (2, .int b0), (3, .int may)] := hl
  refine lv_iload_n hx hb dX12_meets_0 rfl (lv_at hl 1 rfl) ?_
  have hPc := hP.sub (ws' := []) [] rfl
  have hKc := hK.sub (tys' := []) [] rfl
  refine vp_callSi (va_Run.run (va_runS (As := [.int a0]) (rest := []) ⟨hx, hb, hml, hown, hts⟩ (m_isKind l dC dI a0) (va_cwS 1 hts gX12_meets_X12_isKind rfl rfl rfl (by decide +kernel) ⟨Nat.le_of_ble_eq_true rfl, Nat.le_of_ble_eq_true rfl⟩) ⟨fun a U g mk q => by obtain ⟨q0, qP, qK⟩ := q; exact ⟨q0, qP, va_K.moved (u := U) (U := U.calling g mk a) (Vm.Alike.refl U.vm) qK⟩, fun U hU hW => ⟨rfl, by rw [hU]; exact hPc, va_K.moved hW.alike hKc⟩⟩ rfl rfl hl.1 rfl (lv_room (Nat.le_of_ble_eq_true rfl)) dX12_meets_1 ⟨Nat.le_of_ble_eq_true rfl, Nat.le_of_ble_eq_true rfl⟩)) (fun r_2 hw_1 => ?_)
  rcases hw_1 with ⟨rfl, hw_1⟩ | ⟨rfl, hw_1⟩
  · refine lv_if_eq (tgt := 29) hx hb dX12_meets_4 (by decide) (fun c_3 => ?_) (fun c_3 => ?_)
    · exact absurd c_3 (by decide)
    refine lv_iload_n hx hb dX12_meets_7 rfl (lv_at hl 2 rfl) ?_
    have hPc := hP.sub (ws' := []) [] rfl
    have hKc := hK.sub (tys' := []) [] rfl
    refine vp_callSi (va_Run.run (va_runS (As := [.int b0]) (rest := []) ⟨hx, hb, hml, hown, hts⟩ (m_isKind l dC dI b0) (va_cwS 1 hts gX12_meets_X12_isKind rfl rfl rfl (by decide +kernel) ⟨Nat.le_of_ble_eq_true rfl, Nat.le_of_ble_eq_true rfl⟩) ⟨fun a U g mk q => by obtain ⟨q0, qP, qK⟩ := q; exact ⟨q0, qP, va_K.moved (u := U) (U := U.calling g mk a) (Vm.Alike.refl U.vm) qK⟩, fun U hU hW => ⟨rfl, by rw [hU]; exact hPc, va_K.moved hW.alike hKc⟩⟩ rfl rfl hl.1 rfl (lv_room (Nat.le_of_ble_eq_true rfl)) dX12_meets_8 ⟨Nat.le_of_ble_eq_true rfl, Nat.le_of_ble_eq_true rfl⟩)) (fun r_5 hw_4 => ?_)
    rcases hw_4 with ⟨rfl, hw_4⟩ | ⟨rfl, hw_4⟩
    · refine lv_if_eq (tgt := 29) hx hb dX12_meets_11 (by decide) (fun c_6 => ?_) (fun c_6 => ?_)
      · exact absurd c_6 (by decide)
      refine lv_aload_n hx hb dX12_meets_14 rfl (lv_at hl 0 rfl) ?_
      refine va_get (D := (dC, dI)) (ci := 12) (v := .ref (rr 17)) (C := RX12) (T := TX12) (N := 49) hx hb hts (by decide +kernel) hown hK hP 0 rfl rfl 17 (by decide) (hts (.fieldLink RX12 54 "JoinBenchModel" "mayNot" "[Z") (by decide +kernel)) (fun _ h9 => h9) rfl dX12_meets_15 ?_
      refine lv_bipush (v := 6) hx hb dX12_meets_18 (by decide) ?_
      refine lv_iload_n hx hb dX12_meets_20 rfl (lv_at hl 1 rfl) ?_
      obtain ⟨j, hj, ej⟩ := ix36b hw_1 hw_4
      refine lv_imul hx hb dX12_meets_21 ?_
      refine lv_iload_n hx hb dX12_meets_22 rfl (lv_at hl 2 rfl) ?_
      refine lv_iadd hx hb dX12_meets_23 ?_
      refine lv_topi (fun y_7 ey_7 => ?_)
      obtain rfl : y_7 = nI j := ey_7.trans (ej)
      refine va_zald hx hb hK hP 1 0 rfl rfl (vp_in_nI hj (by decide)) dX12_meets_24 ?_
      refine lv_topi (fun y_8 ey_8 => ?_)
      obtain rfl : y_8 = 0 := ey_8
      refine lv_iload_n hx hb dX12_meets_25 rfl (lv_at hl 3 rfl) ?_
      refine lv_icmp_eq (tgt := 31) hx hb dX12_meets_26 (by decide) (fun c_9 => ?_) (fun c_9 => ?_)
      · refine lv_aload_n hx hb dX12_meets_31 rfl (lv_at hl 0 rfl) ?_
        refine va_get (D := (dC, dI)) (ci := 12) (v := .ref (rr 17)) (C := RX12) (T := TX12) (N := 49) hx hb hts (by decide +kernel) hown hK hP 0 rfl rfl 17 (by decide) (hts (.fieldLink RX12 54 "JoinBenchModel" "mayNot" "[Z") (by decide +kernel)) (fun _ h9 => h9) rfl dX12_meets_32 ?_
        refine lv_bipush (v := 6) hx hb dX12_meets_35 (by decide) ?_
        refine lv_iload_n hx hb dX12_meets_37 rfl (lv_at hl 1 rfl) ?_
        refine lv_imul hx hb dX12_meets_38 ?_
        refine lv_iload_n hx hb dX12_meets_39 rfl (lv_at hl 2 rfl) ?_
        refine lv_iadd hx hb dX12_meets_40 ?_
        refine lv_topi (fun y_10 ey_10 => ?_)
        obtain rfl : y_10 = nI j := ey_10.trans (ej)
        refine lv_iload_n hx hb dX12_meets_41 rfl (lv_at hl 3 rfl) ?_
        refine lv_if_ne (tgt := 49) hx hb dX12_meets_42 (by decide) (fun c_11 => ?_) (fun c_11 => ?_)
        · refine lv_iconst (v := 0) hx hb dX12_meets_49 (by decide) ?_
          refine va_zast hx hb hK hP hD hS 1 0 rfl rfl (vp_in_nI hj (by decide)) dX12_meets_50 (fun H locs hP hD hS => ?_)
          have hP : va_P (dC, dI) vwCl [(m0, .inr (12, [.ref (rr 0), .int 0, .int 0, .ref (rr 3), .ref (rr 4), .ref (rr 5), .ref (rr 6), .ref (rr 7), .ref (rr 8), .int 0, .ref (rr 10), .ref (rr 11), .ref (rr 12), .ref (rr 13), .ref (rr 14), .ref (rr 15), .ref (rr 16), .ref (rr 17), .ref (rr 18), .ref (rr 19), .int 1, .int 0, .int 0, .ref (rr 23), .ref (rr 24), .ref (rr 25), .int 0, .ref (rr 27), .int 0, .ref (rr 29), .ref (rr 30), .ref (rr 31), .ref (rr 32), .ref (rr 33), .int 0, .int 0, .long 0, .long 0, .int 0, .int 0, .ref (rr 40), .ref (rr 41), .ref (rr 42), .ref (rr 43), .ref (rr 44), .ref (rr 45), .int 0, .ref (rr 47), .ref (rr 48)])), ((rr 17), .inl (cZ, 36, .inl (upd (fun _ => 0) (nI j : Int32).toNatClampNeg (vp_nar .boolean 0))))] H := hP
          have hD : va_D A [(m0, .inr (12, [.ref (rr 0), .int 0, .int 0, .ref (rr 3), .ref (rr 4), .ref (rr 5), .ref (rr 6), .ref (rr 7), .ref (rr 8), .int 0, .ref (rr 10), .ref (rr 11), .ref (rr 12), .ref (rr 13), .ref (rr 14), .ref (rr 15), .ref (rr 16), .ref (rr 17), .ref (rr 18), .ref (rr 19), .int 1, .int 0, .int 0, .ref (rr 23), .ref (rr 24), .ref (rr 25), .int 0, .ref (rr 27), .int 0, .ref (rr 29), .ref (rr 30), .ref (rr 31), .ref (rr 32), .ref (rr 33), .int 0, .int 0, .long 0, .long 0, .int 0, .int 0, .ref (rr 40), .ref (rr 41), .ref (rr 42), .ref (rr 43), .ref (rr 44), .ref (rr 45), .int 0, .ref (rr 47), .ref (rr 48)])), ((rr 17), .inl (cZ, 36, .inl (upd (fun _ => 0) (nI j : Int32).toNatClampNeg (vp_nar .boolean 0))))] := hD
          generalize (upd (fun _ => 0) (nI j : Int32).toNatClampNeg (vp_nar .boolean 0)) = f_12 at hP hD
          refine lv_iconst (v := 1) hx hb dX12_meets_51 (by decide) ?_
          refine W.widen (k := 0) (n := 0) (Nat.le_of_ble_eq_true rfl) (Nat.le_of_ble_eq_true rfl) ?_
          exact W.zret (v := 1) hx hb hr rfl (fun t ht hW => ⟨⟨1, (), rfl, bP_t ⟨hw_1, hw_4, c_9.symm⟩, trivial⟩, hS.F ht⟩) hS.2.2 dX12_meets_52
        · refine lv_iconst (v := 1) hx hb dX12_meets_45 (by decide) ?_
          refine lv_goto (tgt := 50) hx hb dX12_meets_46 (by decide) ?_
          refine va_zast hx hb hK hP hD hS 1 0 rfl rfl (vp_in_nI hj (by decide)) dX12_meets_50 (fun H locs hP hD hS => ?_)
          have hP : va_P (dC, dI) vwCl [(m0, .inr (12, [.ref (rr 0), .int 0, .int 0, .ref (rr 3), .ref (rr 4), .ref (rr 5), .ref (rr 6), .ref (rr 7), .ref (rr 8), .int 0, .ref (rr 10), .ref (rr 11), .ref (rr 12), .ref (rr 13), .ref (rr 14), .ref (rr 15), .ref (rr 16), .ref (rr 17), .ref (rr 18), .ref (rr 19), .int 1, .int 0, .int 0, .ref (rr 23), .ref (rr 24), .ref (rr 25), .int 0, .ref (rr 27), .int 0, .ref (rr 29), .ref (rr 30), .ref (rr 31), .ref (rr 32), .ref (rr 33), .int 0, .int 0, .long 0, .long 0, .int 0, .int 0, .ref (rr 40), .ref (rr 41), .ref (rr 42), .ref (rr 43), .ref (rr 44), .ref (rr 45), .int 0, .ref (rr 47), .ref (rr 48)])), ((rr 17), .inl (cZ, 36, .inl (upd (fun _ => 0) (nI j : Int32).toNatClampNeg (vp_nar .boolean 1))))] H := hP
          have hD : va_D A [(m0, .inr (12, [.ref (rr 0), .int 0, .int 0, .ref (rr 3), .ref (rr 4), .ref (rr 5), .ref (rr 6), .ref (rr 7), .ref (rr 8), .int 0, .ref (rr 10), .ref (rr 11), .ref (rr 12), .ref (rr 13), .ref (rr 14), .ref (rr 15), .ref (rr 16), .ref (rr 17), .ref (rr 18), .ref (rr 19), .int 1, .int 0, .int 0, .ref (rr 23), .ref (rr 24), .ref (rr 25), .int 0, .ref (rr 27), .int 0, .ref (rr 29), .ref (rr 30), .ref (rr 31), .ref (rr 32), .ref (rr 33), .int 0, .int 0, .long 0, .long 0, .int 0, .int 0, .ref (rr 40), .ref (rr 41), .ref (rr 42), .ref (rr 43), .ref (rr 44), .ref (rr 45), .int 0, .ref (rr 47), .ref (rr 48)])), ((rr 17), .inl (cZ, 36, .inl (upd (fun _ => 0) (nI j : Int32).toNatClampNeg (vp_nar .boolean 1))))] := hD
          generalize (upd (fun _ => 0) (nI j : Int32).toNatClampNeg (vp_nar .boolean 1)) = f_13 at hP hD
          refine lv_iconst (v := 1) hx hb dX12_meets_51 (by decide) ?_
          refine W.widen (k := 0) (n := 0) (Nat.le_of_ble_eq_true rfl) (Nat.le_of_ble_eq_true rfl) ?_
          exact W.zret (v := 1) hx hb hr rfl (fun t ht hW => ⟨⟨1, (), rfl, bP_t ⟨hw_1, hw_4, c_9.symm⟩, trivial⟩, hS.F ht⟩) hS.2.2 dX12_meets_52
      · refine lv_iconst (v := 0) hx hb dX12_meets_29 (by decide) ?_
        refine W.widen (k := 0) (n := 0) (Nat.le_of_ble_eq_true rfl) (Nat.le_of_ble_eq_true rfl) ?_
        exact W.zret (v := 0) hx hb hr rfl (fun t ht hW => ⟨⟨0, (), rfl, bP_f (fun q => c_9 q.2.2.symm), trivial⟩, hS.F ht⟩) hS.2.2 dX12_meets_30
    · refine lv_if_eq (tgt := 29) hx hb dX12_meets_11 (by decide) (fun c_14 => ?_) (fun c_14 => ?_)
      rotate_left
      · exact absurd (by decide) c_14
      refine lv_iconst (v := 0) hx hb dX12_meets_29 (by decide) ?_
      refine W.widen (k := 0) (n := 0) (Nat.le_of_ble_eq_true rfl) (Nat.le_of_ble_eq_true rfl) ?_
      exact W.zret (v := 0) hx hb hr rfl (fun t ht hW => ⟨⟨0, (), rfl, bP_f (by simp [hw_1, hw_4]), trivial⟩, hS.F ht⟩) hS.2.2 dX12_meets_30
  · refine lv_if_eq (tgt := 29) hx hb dX12_meets_4 (by decide) (fun c_15 => ?_) (fun c_15 => ?_)
    rotate_left
    · exact absurd (by decide) c_15
    refine lv_iconst (v := 0) hx hb dX12_meets_29 (by decide) ?_
    refine W.widen (k := 0) (n := 0) (Nat.le_of_ble_eq_true rfl) (Nat.le_of_ble_eq_true rfl) ?_
    exact W.zret (v := 0) hx hb hr rfl (fun t ht hW => ⟨⟨0, (), rfl, bP_f (by simp [hw_1]), trivial⟩, hS.F ht⟩) hS.2.2 dX12_meets_30
set_option maxHeartbeats 4000000 in
set_option maxRecDepth 100000 in
/-- X12_becomes -/
theorem m_becomes0 (l : Launch) (dC : Nat → ClassId) (dI : Nat → Nat → Nat) (sz : Nat) (m0 : Nat) (rr : Nat → Nat) (cI : ClassId) (fk : Nat → Int32) (a0 : Int32) (b0 : Int32) (kd : Int32) (hfk : ∀ j, j < 36 → fk j = -1) : Met l yX12_becomes wsX12_becomes ({ frames := 2, cells := 0, slots := 0, locals := 42 }) (va_Pc [.ref m0, .int a0, .int b0, .int kd] (fun U => U.heap.size = sz ∧ va_P (dC, dI) vwCl [(m0, .inr (12, [.ref (rr 0), .int 0, .int 0, .ref (rr 3), .ref (rr 4), .ref (rr 5), .ref (rr 6), .ref (rr 7), .ref (rr 8), .int 0, .ref (rr 10), .ref (rr 11), .ref (rr 12), .ref (rr 13), .ref (rr 14), .ref (rr 15), .ref (rr 16), .ref (rr 17), .ref (rr 18), .ref (rr 19), .int 1, .int 0, .int 0, .ref (rr 23), .ref (rr 24), .ref (rr 25), .int 0, .ref (rr 27), .int 0, .ref (rr 29), .ref (rr 30), .ref (rr 31), .ref (rr 32), .ref (rr 33), .int 0, .int 0, .long 0, .long 0, .int 0, .int 0, .ref (rr 40), .ref (rr 41), .ref (rr 42), .ref (rr 43), .ref (rr 44), .ref (rr 45), .int 0, .ref (rr 47), .ref (rr 48)])), ((rr 18), .inl (cI, 36, .inl fk))] U.heap ∧ va_K (dC, dI) vwCl [(cI, .int)] U ∧ va_D (fun _ => True) [(m0, .inr (12, [.ref (rr 0), .int 0, .int 0, .ref (rr 3), .ref (rr 4), .ref (rr 5), .ref (rr 6), .ref (rr 7), .ref (rr 8), .int 0, .ref (rr 10), .ref (rr 11), .ref (rr 12), .ref (rr 13), .ref (rr 14), .ref (rr 15), .ref (rr 16), .ref (rr 17), .ref (rr 18), .ref (rr 19), .int 1, .int 0, .int 0, .ref (rr 23), .ref (rr 24), .ref (rr 25), .int 0, .ref (rr 27), .int 0, .ref (rr 29), .ref (rr 30), .ref (rr 31), .ref (rr 32), .ref (rr 33), .int 0, .int 0, .long 0, .long 0, .int 0, .int 0, .ref (rr 40), .ref (rr 41), .ref (rr 42), .ref (rr 43), .ref (rr 44), .ref (rr 45), .int 0, .ref (rr 47), .ref (rr 48)])), ((rr 18), .inl (cI, 36, .inl fk))])) (va_Qi (fun (r : Int32) (_ : Unit) => vP r (inR a0 0 5 ∧ inR b0 0 5 ∧ (kd = -1 ∨ inR kd 0 5)) (-1) (-2)) (fun (_ : Unit) (_ : State) => True) (va_A [(m0, .inr (12, [.ref (rr 0), .int 0, .int 0, .ref (rr 3), .ref (rr 4), .ref (rr 5), .ref (rr 6), .ref (rr 7), .ref (rr 8), .int 0, .ref (rr 10), .ref (rr 11), .ref (rr 12), .ref (rr 13), .ref (rr 14), .ref (rr 15), .ref (rr 16), .ref (rr 17), .ref (rr 18), .ref (rr 19), .int 1, .int 0, .int 0, .ref (rr 23), .ref (rr 24), .ref (rr 25), .int 0, .ref (rr 27), .int 0, .ref (rr 29), .ref (rr 30), .ref (rr 31), .ref (rr 32), .ref (rr 33), .int 0, .int 0, .long 0, .long 0, .int 0, .int 0, .ref (rr 40), .ref (rr 41), .ref (rr 42), .ref (rr 43), .ref (rr 44), .ref (rr 45), .int 0, .ref (rr 47), .ref (rr 48)])), ((rr 18), .inl (cI, 36, .inl fk))] sz)) 0 0 (va_A [(m0, .inr (12, [.ref (rr 0), .int 0, .int 0, .ref (rr 3), .ref (rr 4), .ref (rr 5), .ref (rr 6), .ref (rr 7), .ref (rr 8), .int 0, .ref (rr 10), .ref (rr 11), .ref (rr 12), .ref (rr 13), .ref (rr 14), .ref (rr 15), .ref (rr 16), .ref (rr 17), .ref (rr 18), .ref (rr 19), .int 1, .int 0, .int 0, .ref (rr 23), .ref (rr 24), .ref (rr 25), .int 0, .ref (rr 27), .int 0, .ref (rr 29), .ref (rr 30), .ref (rr 31), .ref (rr 32), .ref (rr 33), .int 0, .int 0, .long 0, .long 0, .int 0, .int 0, .ref (rr 40), .ref (rr 41), .ref (rr 42), .ref (rr 43), .ref (rr 44), .ref (rr 45), .int 0, .ref (rr 47), .ref (rr 48)])), ((rr 18), .inl (cI, 36, .inl fk))] sz) := by
  refine Met.ofW (cc := cX12_becomes) (maxL := 5) (ret := (some .int)) (by decide) rfl ?_
  intro p e s m args below meth c s₁ B hml hv
  obtain ⟨rfl, hsz, hP, hK, hD0⟩ := hv
  have hx := B.exec
  have hb := B.bytes
  have hr := B.returns
  have hts := atoms_spec (ws := wsX12_becomes) B.pre
  have hown : s.vm.findClass RX12 = some m.cls := findClass_of_methodNamed B.named
  have hlocks := B.notSynchronized
  subst hsz
  have hD := hD0.self (sz := s.heap.size)
  generalize hAe : va_A [(m0, .inr (12, [.ref (rr 0), .int 0, .int 0, .ref (rr 3), .ref (rr 4), .ref (rr 5), .ref (rr 6), .ref (rr 7), .ref (rr 8), .int 0, .ref (rr 10), .ref (rr 11), .ref (rr 12), .ref (rr 13), .ref (rr 14), .ref (rr 15), .ref (rr 16), .ref (rr 17), .ref (rr 18), .ref (rr 19), .int 1, .int 0, .int 0, .ref (rr 23), .ref (rr 24), .ref (rr 25), .int 0, .ref (rr 27), .int 0, .ref (rr 29), .ref (rr 30), .ref (rr 31), .ref (rr 32), .ref (rr 33), .int 0, .int 0, .long 0, .long 0, .int 0, .int 0, .ref (rr 40), .ref (rr 41), .ref (rr 42), .ref (rr 43), .ref (rr 44), .ref (rr 45), .int 0, .ref (rr 47), .ref (rr 48)])), ((rr 18), .inl (cI, 36, .inl fk))] s.heap.size = A at hD ⊢
  have hA : ∀ q : Nat, s.heap.size ≤ q → A q := fun q h => by rw [← hAe]; exact Or.inr h
  obtain ⟨H, hH⟩ : ∃ H : Heap, H = s.heap := ⟨_, rfl⟩
  have hS : va_S A s.heap H [] := by rw [hH]; exact va_S.rf
  rw [← hH] at hP ⊢
  have hP : va_P (dC, dI) vwCl [(m0, .inr (12, [.ref (rr 0), .int 0, .int 0, .ref (rr 3), .ref (rr 4), .ref (rr 5), .ref (rr 6), .ref (rr 7), .ref (rr 8), .int 0, .ref (rr 10), .ref (rr 11), .ref (rr 12), .ref (rr 13), .ref (rr 14), .ref (rr 15), .ref (rr 16), .ref (rr 17), .ref (rr 18), .ref (rr 19), .int 1, .int 0, .int 0, .ref (rr 23), .ref (rr 24), .ref (rr 25), .int 0, .ref (rr 27), .int 0, .ref (rr 29), .ref (rr 30), .ref (rr 31), .ref (rr 32), .ref (rr 33), .int 0, .int 0, .long 0, .long 0, .int 0, .int 0, .ref (rr 40), .ref (rr 41), .ref (rr 42), .ref (rr 43), .ref (rr 44), .ref (rr 45), .int 0, .ref (rr 47), .ref (rr 48)])), ((rr 18), .inl (cI, 36, .inl fk))] H := hP
  have hl := lv_entry ([.ref m0, .int a0, .int b0, .int kd]) (n := 5) (Nat.le_of_ble_eq_true rfl)
  rw [lg_entry_eq]
  generalize (lg_sl ([.ref m0, .int a0, .int b0, .int kd]) ++ List.replicate (5 - (lg_sl ([.ref m0, .int a0, .int b0, .int kd])).length) Slot.unset).toArray = ls at hl ⊢
  have hl : lv_has ls 5 [(0, .ref m0), (1, .int a0), (2, .int b0), (3, .int kd)] := hl
  refine lv_iload_n hx hb dX12_becomes_0 rfl (lv_at hl 1 rfl) ?_
  have hPc := hP.sub (ws' := []) [] rfl
  have hKc := hK.sub (tys' := []) [] rfl
  refine vp_callSi (va_Run.run (va_runS (As := [.int a0]) (rest := []) ⟨hx, hb, hml, hown, hts⟩ (m_isKind l dC dI a0) (va_cwS 1 hts gX12_becomes_X12_isKind rfl rfl rfl (by decide +kernel) ⟨Nat.le_of_ble_eq_true rfl, Nat.le_of_ble_eq_true rfl⟩) ⟨fun a U g mk q => by obtain ⟨q0, qP, qK⟩ := q; exact ⟨q0, qP, va_K.moved (u := U) (U := U.calling g mk a) (Vm.Alike.refl U.vm) qK⟩, fun U hU hW => ⟨rfl, by rw [hU]; exact hPc, va_K.moved hW.alike hKc⟩⟩ rfl rfl hl.1 rfl (lv_room (Nat.le_of_ble_eq_true rfl)) dX12_becomes_1 ⟨Nat.le_of_ble_eq_true rfl, Nat.le_of_ble_eq_true rfl⟩)) (fun r_2 hw_1 => ?_)
  rcases hw_1 with ⟨rfl, hw_1⟩ | ⟨rfl, hw_1⟩
  · refine lv_if_eq (tgt := 23) hx hb dX12_becomes_4 (by decide) (fun c_3 => ?_) (fun c_3 => ?_)
    · exact absurd c_3 (by decide)
    refine lv_iload_n hx hb dX12_becomes_7 rfl (lv_at hl 2 rfl) ?_
    have hPc := hP.sub (ws' := []) [] rfl
    have hKc := hK.sub (tys' := []) [] rfl
    refine vp_callSi (va_Run.run (va_runS (As := [.int b0]) (rest := []) ⟨hx, hb, hml, hown, hts⟩ (m_isKind l dC dI b0) (va_cwS 1 hts gX12_becomes_X12_isKind rfl rfl rfl (by decide +kernel) ⟨Nat.le_of_ble_eq_true rfl, Nat.le_of_ble_eq_true rfl⟩) ⟨fun a U g mk q => by obtain ⟨q0, qP, qK⟩ := q; exact ⟨q0, qP, va_K.moved (u := U) (U := U.calling g mk a) (Vm.Alike.refl U.vm) qK⟩, fun U hU hW => ⟨rfl, by rw [hU]; exact hPc, va_K.moved hW.alike hKc⟩⟩ rfl rfl hl.1 rfl (lv_room (Nat.le_of_ble_eq_true rfl)) dX12_becomes_8 ⟨Nat.le_of_ble_eq_true rfl, Nat.le_of_ble_eq_true rfl⟩)) (fun r_5 hw_4 => ?_)
    rcases hw_4 with ⟨rfl, hw_4⟩ | ⟨rfl, hw_4⟩
    · refine lv_if_eq (tgt := 23) hx hb dX12_becomes_11 (by decide) (fun c_6 => ?_) (fun c_6 => ?_)
      · exact absurd c_6 (by decide)
      refine lv_iload_n hx hb dX12_becomes_14 rfl (lv_at hl 3 rfl) ?_
      refine lv_iconst (v := (-1)) hx hb dX12_becomes_15 (by decide) ?_
      refine lv_iconst (v := 5) hx hb dX12_becomes_16 (by decide) ?_
      have hPc := hP.sub (ws' := []) [] rfl
      have hKc := hK.sub (tys' := []) [] rfl
      refine vp_callSi (va_Run.run (va_runS (As := [.int kd, .int (-1), .int 5]) (rest := []) ⟨hx, hb, hml, hown, hts⟩ (m_in l dC dI kd (-1) 5) (va_cwS 3 hts gX12_becomes_X12_in rfl rfl rfl (by decide +kernel) ⟨Nat.le_of_ble_eq_true rfl, Nat.le_of_ble_eq_true rfl⟩) ⟨fun a U g mk q => by obtain ⟨q0, qP, qK⟩ := q; exact ⟨q0, qP, va_K.moved (u := U) (U := U.calling g mk a) (Vm.Alike.refl U.vm) qK⟩, fun U hU hW => ⟨rfl, by rw [hU]; exact hPc, va_K.moved hW.alike hKc⟩⟩ rfl rfl hl.1 rfl (lv_room (Nat.le_of_ble_eq_true rfl)) dX12_becomes_17 ⟨Nat.le_of_ble_eq_true rfl, Nat.le_of_ble_eq_true rfl⟩)) (fun r_8 hw_7 => ?_)
      rcases hw_7 with ⟨rfl, hw_7⟩ | ⟨rfl, hw_7⟩
      · refine lv_if_ne (tgt := 26) hx hb dX12_becomes_20 (by decide) (fun c_9 => ?_) (fun c_9 => ?_)
        rotate_left
        · exact absurd c_9 (by decide)
        refine lv_aload_n hx hb dX12_becomes_26 rfl (lv_at hl 0 rfl) ?_
        refine va_get (D := (dC, dI)) (ci := 12) (v := .ref (rr 18)) (C := RX12) (T := TX12) (N := 49) hx hb hts (by decide +kernel) hown hK hP 0 rfl rfl 18 (by decide) (hts (.fieldLink RX12 57 "JoinBenchModel" "tree" "[I") (by decide +kernel)) (fun _ h9 => h9) rfl dX12_becomes_27 ?_
        refine lv_bipush (v := 6) hx hb dX12_becomes_30 (by decide) ?_
        refine lv_iload_n hx hb dX12_becomes_32 rfl (lv_at hl 1 rfl) ?_
        obtain ⟨j, hj, ej⟩ := ix36b hw_1 hw_4
        refine lv_imul hx hb dX12_becomes_33 ?_
        refine lv_iload_n hx hb dX12_becomes_34 rfl (lv_at hl 2 rfl) ?_
        refine lv_iadd hx hb dX12_becomes_35 ?_
        refine lv_topi (fun y_10 ey_10 => ?_)
        obtain rfl : y_10 = nI j := ey_10.trans (ej)
        refine va_iald hx hb hK hP 1 0 rfl rfl (vp_in_nI hj (by decide)) dX12_becomes_36 ?_
        refine lv_topi (fun y_11 ey_11 => ?_)
        obtain rfl : y_11 = (-1) := ey_11.trans (by rw [nI_clamp (by omega)]; exact hfk j hj)
        refine lv_istore (lv' := [(4, .int (-1)), (0, .ref m0), (1, .int a0), (2, .int b0), (3, .int kd)]) hx hb dX12_becomes_37 hl (by decide) rfl (fun ls hl => ?_)
        refine lv_aload_n hx hb dX12_becomes_39 rfl (lv_at hl 1 rfl) ?_
        refine va_get (D := (dC, dI)) (ci := 12) (v := .ref (rr 18)) (C := RX12) (T := TX12) (N := 49) hx hb hts (by decide +kernel) hown hK hP 0 rfl rfl 18 (by decide) (hts (.fieldLink RX12 57 "JoinBenchModel" "tree" "[I") (by decide +kernel)) (fun _ h9 => h9) rfl dX12_becomes_40 ?_
        refine lv_bipush (v := 6) hx hb dX12_becomes_43 (by decide) ?_
        refine lv_iload_n hx hb dX12_becomes_45 rfl (lv_at hl 2 rfl) ?_
        refine lv_imul hx hb dX12_becomes_46 ?_
        refine lv_iload_n hx hb dX12_becomes_47 rfl (lv_at hl 3 rfl) ?_
        refine lv_iadd hx hb dX12_becomes_48 ?_
        refine lv_topi (fun y_12 ey_12 => ?_)
        obtain rfl : y_12 = nI j := ey_12.trans (ej)
        refine lv_iload_n hx hb dX12_becomes_49 rfl (lv_at hl 4 rfl) ?_
        refine va_iast hx hb hK hP hD hS 1 0 rfl rfl (vp_in_nI hj (by decide)) dX12_becomes_50 (fun H locs hP hD hS => ?_)
        have hP : va_P (dC, dI) vwCl [(m0, .inr (12, [.ref (rr 0), .int 0, .int 0, .ref (rr 3), .ref (rr 4), .ref (rr 5), .ref (rr 6), .ref (rr 7), .ref (rr 8), .int 0, .ref (rr 10), .ref (rr 11), .ref (rr 12), .ref (rr 13), .ref (rr 14), .ref (rr 15), .ref (rr 16), .ref (rr 17), .ref (rr 18), .ref (rr 19), .int 1, .int 0, .int 0, .ref (rr 23), .ref (rr 24), .ref (rr 25), .int 0, .ref (rr 27), .int 0, .ref (rr 29), .ref (rr 30), .ref (rr 31), .ref (rr 32), .ref (rr 33), .int 0, .int 0, .long 0, .long 0, .int 0, .int 0, .ref (rr 40), .ref (rr 41), .ref (rr 42), .ref (rr 43), .ref (rr 44), .ref (rr 45), .int 0, .ref (rr 47), .ref (rr 48)])), ((rr 18), .inl (cI, 36, .inl (upd fk (nI j : Int32).toNatClampNeg kd)))] H := hP
        have hD : va_D A [(m0, .inr (12, [.ref (rr 0), .int 0, .int 0, .ref (rr 3), .ref (rr 4), .ref (rr 5), .ref (rr 6), .ref (rr 7), .ref (rr 8), .int 0, .ref (rr 10), .ref (rr 11), .ref (rr 12), .ref (rr 13), .ref (rr 14), .ref (rr 15), .ref (rr 16), .ref (rr 17), .ref (rr 18), .ref (rr 19), .int 1, .int 0, .int 0, .ref (rr 23), .ref (rr 24), .ref (rr 25), .int 0, .ref (rr 27), .int 0, .ref (rr 29), .ref (rr 30), .ref (rr 31), .ref (rr 32), .ref (rr 33), .int 0, .int 0, .long 0, .long 0, .int 0, .int 0, .ref (rr 40), .ref (rr 41), .ref (rr 42), .ref (rr 43), .ref (rr 44), .ref (rr 45), .int 0, .ref (rr 47), .ref (rr 48)])), ((rr 18), .inl (cI, 36, .inl (upd fk (nI j : Int32).toNatClampNeg kd)))] := hD
        generalize (upd fk (nI j : Int32).toNatClampNeg kd) = f_13 at hP hD
        refine lv_iload hx hb dX12_becomes_51 (lv_at hl 0 rfl) ?_
        refine W.widen (k := 0) (n := 0) (Nat.le_of_ble_eq_true rfl) (Nat.le_of_ble_eq_true rfl) ?_
        exact W.iret (v := (-1)) hx hb hr (fun t ht hW => ⟨⟨(-1), (), rfl, vP_t (by rw [← kd_iff]; exact ⟨hw_1, hw_4, hw_7⟩), trivial⟩, hS.F ht⟩) hS.2.2 dX12_becomes_53
      · refine lv_if_ne (tgt := 26) hx hb dX12_becomes_20 (by decide) (fun c_14 => ?_) (fun c_14 => ?_)
        · exact absurd (by decide) c_14
        refine lv_bipush (v := (-2)) hx hb dX12_becomes_23 (by decide) ?_
        refine W.widen (k := 0) (n := 0) (Nat.le_of_ble_eq_true rfl) (Nat.le_of_ble_eq_true rfl) ?_
        exact W.iret (v := (-2)) hx hb hr (fun t ht hW => ⟨⟨(-2), (), rfl, vP_f (by rw [← kd_iff]; exact fun q => hw_7 q.2.2), trivial⟩, hS.F ht⟩) hS.2.2 dX12_becomes_25
    · refine lv_if_eq (tgt := 23) hx hb dX12_becomes_11 (by decide) (fun c_15 => ?_) (fun c_15 => ?_)
      rotate_left
      · exact absurd (by decide) c_15
      refine lv_bipush (v := (-2)) hx hb dX12_becomes_23 (by decide) ?_
      refine W.widen (k := 0) (n := 0) (Nat.le_of_ble_eq_true rfl) (Nat.le_of_ble_eq_true rfl) ?_
      exact W.iret (v := (-2)) hx hb hr (fun t ht hW => ⟨⟨(-2), (), rfl, vP_f (by simp [hw_1, hw_4]), trivial⟩, hS.F ht⟩) hS.2.2 dX12_becomes_25
  · refine lv_if_eq (tgt := 23) hx hb dX12_becomes_4 (by decide) (fun c_16 => ?_) (fun c_16 => ?_)
    rotate_left
    · exact absurd (by decide) c_16
    refine lv_bipush (v := (-2)) hx hb dX12_becomes_23 (by decide) ?_
    refine W.widen (k := 0) (n := 0) (Nat.le_of_ble_eq_true rfl) (Nat.le_of_ble_eq_true rfl) ?_
    exact W.iret (v := (-2)) hx hb hr (fun t ht hW => ⟨⟨(-2), (), rfl, vP_f (by simp [hw_1]), trivial⟩, hS.F ht⟩) hS.2.2 dX12_becomes_25
set_option maxHeartbeats 4000000 in
set_option maxRecDepth 100000 in
/-- X12_fits -/
theorem m_fits0 (l : Launch) (dC : Nat → ClassId) (dI : Nat → Nat → Nat) (m0 : Nat) (rr : Nat → Nat) (f0 : Int32) (g0 : Int32) (d0 : Int32) : Met l yX12_fits wsX12_fits ({ frames := 2, cells := 0, slots := 0, locals := 43 }) (va_Pc [.ref m0, .int f0, .int g0, .int d0] (fun U => va_P (dC, dI) vwCl [(m0, .inr (12, [.ref (rr 0), .int 0, .int 0, .ref (rr 3), .ref (rr 4), .ref (rr 5), .ref (rr 6), .ref (rr 7), .ref (rr 8), .int 0, .ref (rr 10), .ref (rr 11), .ref (rr 12), .ref (rr 13), .ref (rr 14), .ref (rr 15), .ref (rr 16), .ref (rr 17), .ref (rr 18), .ref (rr 19), .int 1, .int 0, .int 0, .ref (rr 23), .ref (rr 24), .ref (rr 25), .int 0, .ref (rr 27), .int 0, .ref (rr 29), .ref (rr 30), .ref (rr 31), .ref (rr 32), .ref (rr 33), .int 0, .int 0, .long 0, .long 0, .int 0, .int 0, .ref (rr 40), .ref (rr 41), .ref (rr 42), .ref (rr 43), .ref (rr 44), .ref (rr 45), .int 0, .ref (rr 47), .ref (rr 48)]))] U.heap ∧ va_K (dC, dI) vwCl [] U)) (vp_Si (fun r => r = -1)) 0 0 (fun _ => False) := by
  refine Met.ofW (cc := cX12_fits) (maxL := 6) (ret := (some .int)) (by decide) rfl ?_
  intro p e s m args below meth c s₁ B hml hv
  obtain ⟨rfl, hP, hK⟩ := hv
  have hx := B.exec
  have hb := B.bytes
  have hr := B.returns
  have hts := atoms_spec (ws := wsX12_fits) B.pre
  have hown : s.vm.findClass RX12 = some m.cls := findClass_of_methodNamed B.named
  have hlocks := B.notSynchronized
  have hP : va_P (dC, dI) vwCl [(m0, .inr (12, [.ref (rr 0), .int 0, .int 0, .ref (rr 3), .ref (rr 4), .ref (rr 5), .ref (rr 6), .ref (rr 7), .ref (rr 8), .int 0, .ref (rr 10), .ref (rr 11), .ref (rr 12), .ref (rr 13), .ref (rr 14), .ref (rr 15), .ref (rr 16), .ref (rr 17), .ref (rr 18), .ref (rr 19), .int 1, .int 0, .int 0, .ref (rr 23), .ref (rr 24), .ref (rr 25), .int 0, .ref (rr 27), .int 0, .ref (rr 29), .ref (rr 30), .ref (rr 31), .ref (rr 32), .ref (rr 33), .int 0, .int 0, .long 0, .long 0, .int 0, .int 0, .ref (rr 40), .ref (rr 41), .ref (rr 42), .ref (rr 43), .ref (rr 44), .ref (rr 45), .int 0, .ref (rr 47), .ref (rr 48)]))] s.heap := hP
  have hl := lv_entry ([.ref m0, .int f0, .int g0, .int d0]) (n := 6) (Nat.le_of_ble_eq_true rfl)
  rw [lg_entry_eq]
  generalize (lg_sl ([.ref m0, .int f0, .int g0, .int d0]) ++ List.replicate (6 - (lg_sl ([.ref m0, .int f0, .int g0, .int d0])).length) Slot.unset).toArray = ls at hl ⊢
  have hl : lv_has ls 6 [(0, .ref m0), (1, .int f0), (2, .int g0), (3, .int d0)] := hl
  refine lv_aload_n hx hb dX12_fits_0 rfl (lv_at hl 0 rfl) ?_
  refine lv_iload_n hx hb dX12_fits_1 rfl (lv_at hl 1 rfl) ?_
  have hPc := hP.sub (ws' := [(m0, .inr (12, [.ref (rr 0), .int 0, .int 0, .ref (rr 3), .ref (rr 4), .ref (rr 5), .ref (rr 6), .ref (rr 7), .ref (rr 8), .int 0, .ref (rr 10), .ref (rr 11), .ref (rr 12), .ref (rr 13), .ref (rr 14), .ref (rr 15), .ref (rr 16), .ref (rr 17), .ref (rr 18), .ref (rr 19), .int 1, .int 0, .int 0, .ref (rr 23), .ref (rr 24), .ref (rr 25), .int 0, .ref (rr 27), .int 0, .ref (rr 29), .ref (rr 30), .ref (rr 31), .ref (rr 32), .ref (rr 33), .int 0, .int 0, .long 0, .long 0, .int 0, .int 0, .ref (rr 40), .ref (rr 41), .ref (rr 42), .ref (rr 43), .ref (rr 44), .ref (rr 45), .int 0, .ref (rr 47), .ref (rr 48)]))]) [0] rfl
  have hKc := hK.sub (tys' := []) [] rfl
  refine vp_callSi (va_Run.run (va_runV (As := [.int f0]) (rest := []) ⟨hx, hb, hml, hown, hts⟩ (m_isForm0 l dC dI m0 rr f0) (cwV 1 hts gX12_fits_X12_isForm rfl rfl rfl (by decide +kernel) ⟨Nat.le_of_ble_eq_true rfl, Nat.le_of_ble_eq_true rfl⟩) ⟨fun a U g mk q => by obtain ⟨q0, qP, qK⟩ := q; exact ⟨q0, qP, va_K.moved (u := U) (U := U.calling g mk a) (Vm.Alike.refl U.vm) qK⟩, va_recv hKc hPc (ci := 12) (q0 := 0) rfl rfl, fun U hU hW => ⟨rfl, by rw [hU]; exact hPc, va_K.moved hW.alike hKc⟩⟩ rfl rfl hl.1 rfl (lv_room (Nat.le_of_ble_eq_true rfl)) dX12_fits_2 ⟨Nat.le_of_ble_eq_true rfl, Nat.le_of_ble_eq_true rfl⟩)) (fun r_2 hw_1 => ?_)
  obtain rfl : r_2 = 0 := hw_1
  refine lv_if_eq (tgt := 23) hx hb dX12_fits_5 (by decide) (fun c_3 => ?_) (fun c_3 => ?_)
  rotate_left
  · exact absurd (by decide) c_3
  refine lv_iconst (v := (-1)) hx hb dX12_fits_23 (by decide) ?_
  exact W.iret (v := (-1)) hx hb hr (fun t ht hW => ⟨(-1), rfl, rfl, ht⟩) (fun q h => absurd h List.not_mem_nil) dX12_fits_24
set_option maxHeartbeats 4000000 in
set_option maxRecDepth 100000 in
/-- X12_fitting -/
theorem m_fitting0 (l : Launch) (dC : Nat → ClassId) (dI : Nat → Nat → Nat) (m0 : Nat) (rr : Nat → Nat) (f0 : Int32) (g0 : Int32) (d0 : Int32) (k0 : Int32) : Met l yX12_fitting wsX12_fitting ({ frames := 2, cells := 0, slots := 0, locals := 43 }) (va_Pc [.ref m0, .int f0, .int g0, .int d0, .int k0] (fun U => va_P (dC, dI) vwCl [(m0, .inr (12, [.ref (rr 0), .int 0, .int 0, .ref (rr 3), .ref (rr 4), .ref (rr 5), .ref (rr 6), .ref (rr 7), .ref (rr 8), .int 0, .ref (rr 10), .ref (rr 11), .ref (rr 12), .ref (rr 13), .ref (rr 14), .ref (rr 15), .ref (rr 16), .ref (rr 17), .ref (rr 18), .ref (rr 19), .int 1, .int 0, .int 0, .ref (rr 23), .ref (rr 24), .ref (rr 25), .int 0, .ref (rr 27), .int 0, .ref (rr 29), .ref (rr 30), .ref (rr 31), .ref (rr 32), .ref (rr 33), .int 0, .int 0, .long 0, .long 0, .int 0, .int 0, .ref (rr 40), .ref (rr 41), .ref (rr 42), .ref (rr 43), .ref (rr 44), .ref (rr 45), .int 0, .ref (rr 47), .ref (rr 48)]))] U.heap ∧ va_K (dC, dI) vwCl [] U)) (vp_Si (fun r => r = -1)) 0 0 (fun _ => False) := by
  refine Met.ofW (cc := cX12_fitting) (maxL := 7) (ret := (some .int)) (by decide) rfl ?_
  intro p e s m args below meth c s₁ B hml hv
  obtain ⟨rfl, hP, hK⟩ := hv
  have hx := B.exec
  have hb := B.bytes
  have hr := B.returns
  have hts := atoms_spec (ws := wsX12_fitting) B.pre
  have hown : s.vm.findClass RX12 = some m.cls := findClass_of_methodNamed B.named
  have hlocks := B.notSynchronized
  have hP : va_P (dC, dI) vwCl [(m0, .inr (12, [.ref (rr 0), .int 0, .int 0, .ref (rr 3), .ref (rr 4), .ref (rr 5), .ref (rr 6), .ref (rr 7), .ref (rr 8), .int 0, .ref (rr 10), .ref (rr 11), .ref (rr 12), .ref (rr 13), .ref (rr 14), .ref (rr 15), .ref (rr 16), .ref (rr 17), .ref (rr 18), .ref (rr 19), .int 1, .int 0, .int 0, .ref (rr 23), .ref (rr 24), .ref (rr 25), .int 0, .ref (rr 27), .int 0, .ref (rr 29), .ref (rr 30), .ref (rr 31), .ref (rr 32), .ref (rr 33), .int 0, .int 0, .long 0, .long 0, .int 0, .int 0, .ref (rr 40), .ref (rr 41), .ref (rr 42), .ref (rr 43), .ref (rr 44), .ref (rr 45), .int 0, .ref (rr 47), .ref (rr 48)]))] s.heap := hP
  have hl := lv_entry ([.ref m0, .int f0, .int g0, .int d0, .int k0]) (n := 7) (Nat.le_of_ble_eq_true rfl)
  rw [lg_entry_eq]
  generalize (lg_sl ([.ref m0, .int f0, .int g0, .int d0, .int k0]) ++ List.replicate (7 - (lg_sl ([.ref m0, .int f0, .int g0, .int d0, .int k0])).length) Slot.unset).toArray = ls at hl ⊢
  have hl : lv_has ls 7 [(0, .ref m0), (1, .int f0), (2, .int g0), (3, .int d0), (4, .int k0)] := hl
  refine lv_aload_n hx hb dX12_fitting_0 rfl (lv_at hl 0 rfl) ?_
  refine lv_iload_n hx hb dX12_fitting_1 rfl (lv_at hl 1 rfl) ?_
  have hPc := hP.sub (ws' := [(m0, .inr (12, [.ref (rr 0), .int 0, .int 0, .ref (rr 3), .ref (rr 4), .ref (rr 5), .ref (rr 6), .ref (rr 7), .ref (rr 8), .int 0, .ref (rr 10), .ref (rr 11), .ref (rr 12), .ref (rr 13), .ref (rr 14), .ref (rr 15), .ref (rr 16), .ref (rr 17), .ref (rr 18), .ref (rr 19), .int 1, .int 0, .int 0, .ref (rr 23), .ref (rr 24), .ref (rr 25), .int 0, .ref (rr 27), .int 0, .ref (rr 29), .ref (rr 30), .ref (rr 31), .ref (rr 32), .ref (rr 33), .int 0, .int 0, .long 0, .long 0, .int 0, .int 0, .ref (rr 40), .ref (rr 41), .ref (rr 42), .ref (rr 43), .ref (rr 44), .ref (rr 45), .int 0, .ref (rr 47), .ref (rr 48)]))]) [0] rfl
  have hKc := hK.sub (tys' := []) [] rfl
  refine vp_callSi (va_Run.run (va_runV (As := [.int f0]) (rest := []) ⟨hx, hb, hml, hown, hts⟩ (m_isForm0 l dC dI m0 rr f0) (cwV 1 hts gX12_fitting_X12_isForm rfl rfl rfl (by decide +kernel) ⟨Nat.le_of_ble_eq_true rfl, Nat.le_of_ble_eq_true rfl⟩) ⟨fun a U g mk q => by obtain ⟨q0, qP, qK⟩ := q; exact ⟨q0, qP, va_K.moved (u := U) (U := U.calling g mk a) (Vm.Alike.refl U.vm) qK⟩, va_recv hKc hPc (ci := 12) (q0 := 0) rfl rfl, fun U hU hW => ⟨rfl, by rw [hU]; exact hPc, va_K.moved hW.alike hKc⟩⟩ rfl rfl hl.1 rfl (lv_room (Nat.le_of_ble_eq_true rfl)) dX12_fitting_2 ⟨Nat.le_of_ble_eq_true rfl, Nat.le_of_ble_eq_true rfl⟩)) (fun r_2 hw_1 => ?_)
  obtain rfl : r_2 = 0 := hw_1
  refine lv_if_eq (tgt := 23) hx hb dX12_fitting_5 (by decide) (fun c_3 => ?_) (fun c_3 => ?_)
  rotate_left
  · exact absurd (by decide) c_3
  refine lv_iconst (v := (-1)) hx hb dX12_fitting_23 (by decide) ?_
  exact W.iret (v := (-1)) hx hb hr (fun t ht hW => ⟨(-1), rfl, rfl, ht⟩) (fun q h => absurd h List.not_mem_nil) dX12_fitting_24
set_option maxHeartbeats 4000000 in
set_option maxRecDepth 100000 in
/-- X12_row -/
theorem m_row0 (l : Launch) (dC : Nat → ClassId) (dI : Nat → Nat → Nat) (sz : Nat) (m0 : Nat) (rr : Nat → Nat) (d0 : Int32) : Met l yX12_row wsX12_row ({ frames := 2, cells := 0, slots := 0, locals := 42 }) (va_Pc [.ref m0, .int d0] (fun U => U.heap.size = sz ∧ va_P (dC, dI) vwCl [(m0, .inr (12, [.ref (rr 0), .int 0, .int 0, .ref (rr 3), .ref (rr 4), .ref (rr 5), .ref (rr 6), .ref (rr 7), .ref (rr 8), .int 0, .ref (rr 10), .ref (rr 11), .ref (rr 12), .ref (rr 13), .ref (rr 14), .ref (rr 15), .ref (rr 16), .ref (rr 17), .ref (rr 18), .ref (rr 19), .int 1, .int 0, .int 0, .ref (rr 23), .ref (rr 24), .ref (rr 25), .int 0, .ref (rr 27), .int 0, .ref (rr 29), .ref (rr 30), .ref (rr 31), .ref (rr 32), .ref (rr 33), .int 0, .int 0, .long 0, .long 0, .int 0, .int 0, .ref (rr 40), .ref (rr 41), .ref (rr 42), .ref (rr 43), .ref (rr 44), .ref (rr 45), .int 0, .ref (rr 47), .ref (rr 48)]))] U.heap ∧ va_K (dC, dI) vwCl [] U ∧ va_D (fun _ => True) [(m0, .inr (12, [.ref (rr 0), .int 0, .int 0, .ref (rr 3), .ref (rr 4), .ref (rr 5), .ref (rr 6), .ref (rr 7), .ref (rr 8), .int 0, .ref (rr 10), .ref (rr 11), .ref (rr 12), .ref (rr 13), .ref (rr 14), .ref (rr 15), .ref (rr 16), .ref (rr 17), .ref (rr 18), .ref (rr 19), .int 1, .int 0, .int 0, .ref (rr 23), .ref (rr 24), .ref (rr 25), .int 0, .ref (rr 27), .int 0, .ref (rr 29), .ref (rr 30), .ref (rr 31), .ref (rr 32), .ref (rr 33), .int 0, .int 0, .long 0, .long 0, .int 0, .int 0, .ref (rr 40), .ref (rr 41), .ref (rr 42), .ref (rr 43), .ref (rr 44), .ref (rr 45), .int 0, .ref (rr 47), .ref (rr 48)]))])) (va_Qi (fun (r : Int32) (_ : Unit) => vP r (inR d0 0 999) 0 (-1)) (fun (_ : Unit) (_ : State) => True) (va_A [(m0, .inr (12, [.ref (rr 0), .int 0, .int 0, .ref (rr 3), .ref (rr 4), .ref (rr 5), .ref (rr 6), .ref (rr 7), .ref (rr 8), .int 0, .ref (rr 10), .ref (rr 11), .ref (rr 12), .ref (rr 13), .ref (rr 14), .ref (rr 15), .ref (rr 16), .ref (rr 17), .ref (rr 18), .ref (rr 19), .int 1, .int 0, .int 0, .ref (rr 23), .ref (rr 24), .ref (rr 25), .int 0, .ref (rr 27), .int 0, .ref (rr 29), .ref (rr 30), .ref (rr 31), .ref (rr 32), .ref (rr 33), .int 0, .int 0, .long 0, .long 0, .int 0, .int 0, .ref (rr 40), .ref (rr 41), .ref (rr 42), .ref (rr 43), .ref (rr 44), .ref (rr 45), .int 0, .ref (rr 47), .ref (rr 48)]))] sz)) 0 0 (va_A [(m0, .inr (12, [.ref (rr 0), .int 0, .int 0, .ref (rr 3), .ref (rr 4), .ref (rr 5), .ref (rr 6), .ref (rr 7), .ref (rr 8), .int 0, .ref (rr 10), .ref (rr 11), .ref (rr 12), .ref (rr 13), .ref (rr 14), .ref (rr 15), .ref (rr 16), .ref (rr 17), .ref (rr 18), .ref (rr 19), .int 1, .int 0, .int 0, .ref (rr 23), .ref (rr 24), .ref (rr 25), .int 0, .ref (rr 27), .int 0, .ref (rr 29), .ref (rr 30), .ref (rr 31), .ref (rr 32), .ref (rr 33), .int 0, .int 0, .long 0, .long 0, .int 0, .int 0, .ref (rr 40), .ref (rr 41), .ref (rr 42), .ref (rr 43), .ref (rr 44), .ref (rr 45), .int 0, .ref (rr 47), .ref (rr 48)]))] sz) := by
  refine Met.ofW (cc := cX12_row) (maxL := 3) (ret := (some .int)) (by decide) rfl ?_
  intro p e s m args below meth c s₁ B hml hv
  obtain ⟨rfl, hsz, hP, hK, hD0⟩ := hv
  have hx := B.exec
  have hb := B.bytes
  have hr := B.returns
  have hts := atoms_spec (ws := wsX12_row) B.pre
  have hown : s.vm.findClass RX12 = some m.cls := findClass_of_methodNamed B.named
  have hlocks := B.notSynchronized
  subst hsz
  have hD := hD0.self (sz := s.heap.size)
  generalize hAe : va_A [(m0, .inr (12, [.ref (rr 0), .int 0, .int 0, .ref (rr 3), .ref (rr 4), .ref (rr 5), .ref (rr 6), .ref (rr 7), .ref (rr 8), .int 0, .ref (rr 10), .ref (rr 11), .ref (rr 12), .ref (rr 13), .ref (rr 14), .ref (rr 15), .ref (rr 16), .ref (rr 17), .ref (rr 18), .ref (rr 19), .int 1, .int 0, .int 0, .ref (rr 23), .ref (rr 24), .ref (rr 25), .int 0, .ref (rr 27), .int 0, .ref (rr 29), .ref (rr 30), .ref (rr 31), .ref (rr 32), .ref (rr 33), .int 0, .int 0, .long 0, .long 0, .int 0, .int 0, .ref (rr 40), .ref (rr 41), .ref (rr 42), .ref (rr 43), .ref (rr 44), .ref (rr 45), .int 0, .ref (rr 47), .ref (rr 48)]))] s.heap.size = A at hD ⊢
  have hA : ∀ q : Nat, s.heap.size ≤ q → A q := fun q h => by rw [← hAe]; exact Or.inr h
  obtain ⟨H, hH⟩ : ∃ H : Heap, H = s.heap := ⟨_, rfl⟩
  have hS : va_S A s.heap H [] := by rw [hH]; exact va_S.rf
  rw [← hH] at hP ⊢
  have hP : va_P (dC, dI) vwCl [(m0, .inr (12, [.ref (rr 0), .int 0, .int 0, .ref (rr 3), .ref (rr 4), .ref (rr 5), .ref (rr 6), .ref (rr 7), .ref (rr 8), .int 0, .ref (rr 10), .ref (rr 11), .ref (rr 12), .ref (rr 13), .ref (rr 14), .ref (rr 15), .ref (rr 16), .ref (rr 17), .ref (rr 18), .ref (rr 19), .int 1, .int 0, .int 0, .ref (rr 23), .ref (rr 24), .ref (rr 25), .int 0, .ref (rr 27), .int 0, .ref (rr 29), .ref (rr 30), .ref (rr 31), .ref (rr 32), .ref (rr 33), .int 0, .int 0, .long 0, .long 0, .int 0, .int 0, .ref (rr 40), .ref (rr 41), .ref (rr 42), .ref (rr 43), .ref (rr 44), .ref (rr 45), .int 0, .ref (rr 47), .ref (rr 48)]))] H := hP
  have hl := lv_entry ([.ref m0, .int d0]) (n := 3) (Nat.le_of_ble_eq_true rfl)
  rw [lg_entry_eq]
  generalize (lg_sl ([.ref m0, .int d0]) ++ List.replicate (3 - (lg_sl ([.ref m0, .int d0])).length) Slot.unset).toArray = ls at hl ⊢
  have hl : lv_has ls 3 [(0, .ref m0), (1, .int d0)] := hl
  refine lv_iload_n hx hb dX12_row_0 rfl (lv_at hl 1 rfl) ?_
  have hPc := hP.sub (ws' := []) [] rfl
  have hKc := hK.sub (tys' := []) [] rfl
  refine vp_callSi (va_Run.run (va_runS (As := [.int d0]) (rest := []) ⟨hx, hb, hml, hown, hts⟩ (m_isDay l dC dI d0) (va_cwS 1 hts gX12_row_X12_isDay rfl rfl rfl (by decide +kernel) ⟨Nat.le_of_ble_eq_true rfl, Nat.le_of_ble_eq_true rfl⟩) ⟨fun a U g mk q => by obtain ⟨q0, qP, qK⟩ := q; exact ⟨q0, qP, va_K.moved (u := U) (U := U.calling g mk a) (Vm.Alike.refl U.vm) qK⟩, fun U hU hW => ⟨rfl, by rw [hU]; exact hPc, va_K.moved hW.alike hKc⟩⟩ rfl rfl hl.1 rfl (lv_room (Nat.le_of_ble_eq_true rfl)) dX12_row_1 ⟨Nat.le_of_ble_eq_true rfl, Nat.le_of_ble_eq_true rfl⟩)) (fun r_2 hw_1 => ?_)
  rcases hw_1 with ⟨rfl, hw_1⟩ | ⟨rfl, hw_1⟩
  · refine lv_if_ne (tgt := 9) hx hb dX12_row_4 (by decide) (fun c_3 => ?_) (fun c_3 => ?_)
    rotate_left
    · exact absurd c_3 (by decide)
    refine lv_aload_n hx hb dX12_row_9 rfl (lv_at hl 0 rfl) ?_
    refine va_get (D := (dC, dI)) (ci := 12) (v := .int 0) (C := RX12) (T := TX12) (N := 49) hx hb hts (by decide +kernel) hown hK hP 0 rfl rfl 22 (by decide) (hts (.fieldLink RX12 155 "JoinBenchModel" "rowMany" "I") (by decide +kernel)) (fun _ h9 => h9) rfl dX12_row_10 ?_
    refine lv_istore_n (lv' := [(2, .int 0), (0, .ref m0), (1, .int d0)]) hx hb dX12_row_13 rfl hl (by decide) rfl (fun ls hl => ?_)
    refine lv_aload_n hx hb dX12_row_14 rfl (lv_at hl 1 rfl) ?_
    refine lv_iconst (v := 0) hx hb dX12_row_15 (by decide) ?_
    refine va_put (D := (dC, dI)) (ci := 12) (v := .int 0) (ty := .int) (C := RX12) (T := TX12) (N := 49) hx hb hts (by decide +kernel) tyX12 tyX12_ok nmX12 hown hK hP hD hS 0 rfl rfl 22 (by decide) (hts (.fieldLink RX12 155 "JoinBenchModel" "rowMany" "I") (by decide +kernel)) (fun _ h9 => h9) rfl (by decide +kernel) rfl rfl (Nat.le_of_ble_eq_true rfl) dX12_row_16 (fun H locs hP hD hS => ?_)
    have hP : va_P (dC, dI) vwCl [(m0, .inr (12, [.ref (rr 0), .int 0, .int 0, .ref (rr 3), .ref (rr 4), .ref (rr 5), .ref (rr 6), .ref (rr 7), .ref (rr 8), .int 0, .ref (rr 10), .ref (rr 11), .ref (rr 12), .ref (rr 13), .ref (rr 14), .ref (rr 15), .ref (rr 16), .ref (rr 17), .ref (rr 18), .ref (rr 19), .int 1, .int 0, .int 0, .ref (rr 23), .ref (rr 24), .ref (rr 25), .int 0, .ref (rr 27), .int 0, .ref (rr 29), .ref (rr 30), .ref (rr 31), .ref (rr 32), .ref (rr 33), .int 0, .int 0, .long 0, .long 0, .int 0, .int 0, .ref (rr 40), .ref (rr 41), .ref (rr 42), .ref (rr 43), .ref (rr 44), .ref (rr 45), .int 0, .ref (rr 47), .ref (rr 48)]))] H := hP
    have hD : va_D A [(m0, .inr (12, [.ref (rr 0), .int 0, .int 0, .ref (rr 3), .ref (rr 4), .ref (rr 5), .ref (rr 6), .ref (rr 7), .ref (rr 8), .int 0, .ref (rr 10), .ref (rr 11), .ref (rr 12), .ref (rr 13), .ref (rr 14), .ref (rr 15), .ref (rr 16), .ref (rr 17), .ref (rr 18), .ref (rr 19), .int 1, .int 0, .int 0, .ref (rr 23), .ref (rr 24), .ref (rr 25), .int 0, .ref (rr 27), .int 0, .ref (rr 29), .ref (rr 30), .ref (rr 31), .ref (rr 32), .ref (rr 33), .int 0, .int 0, .long 0, .long 0, .int 0, .int 0, .ref (rr 40), .ref (rr 41), .ref (rr 42), .ref (rr 43), .ref (rr 44), .ref (rr 45), .int 0, .ref (rr 47), .ref (rr 48)]))] := hD
    refine lv_aload_n hx hb dX12_row_19 rfl (lv_at hl 1 rfl) ?_
    refine lv_iload_n hx hb dX12_row_20 rfl (lv_at hl 2 rfl) ?_
    refine va_put (D := (dC, dI)) (ci := 12) (v := .int d0) (ty := .int) (C := RX12) (T := TX12) (N := 49) hx hb hts (by decide +kernel) tyX12 tyX12_ok nmX12 hown hK hP hD hS 0 rfl rfl 21 (by decide) (hts (.fieldLink RX12 158 "JoinBenchModel" "rowDay" "I") (by decide +kernel)) (fun _ h9 => h9) rfl (by decide +kernel) rfl rfl (Nat.le_of_ble_eq_true rfl) dX12_row_21 (fun H locs hP hD hS => ?_)
    have hP : va_P (dC, dI) vwCl [(m0, .inr (12, [.ref (rr 0), .int 0, .int 0, .ref (rr 3), .ref (rr 4), .ref (rr 5), .ref (rr 6), .ref (rr 7), .ref (rr 8), .int 0, .ref (rr 10), .ref (rr 11), .ref (rr 12), .ref (rr 13), .ref (rr 14), .ref (rr 15), .ref (rr 16), .ref (rr 17), .ref (rr 18), .ref (rr 19), .int 1, .int d0, .int 0, .ref (rr 23), .ref (rr 24), .ref (rr 25), .int 0, .ref (rr 27), .int 0, .ref (rr 29), .ref (rr 30), .ref (rr 31), .ref (rr 32), .ref (rr 33), .int 0, .int 0, .long 0, .long 0, .int 0, .int 0, .ref (rr 40), .ref (rr 41), .ref (rr 42), .ref (rr 43), .ref (rr 44), .ref (rr 45), .int 0, .ref (rr 47), .ref (rr 48)]))] H := hP
    have hD : va_D A [(m0, .inr (12, [.ref (rr 0), .int 0, .int 0, .ref (rr 3), .ref (rr 4), .ref (rr 5), .ref (rr 6), .ref (rr 7), .ref (rr 8), .int 0, .ref (rr 10), .ref (rr 11), .ref (rr 12), .ref (rr 13), .ref (rr 14), .ref (rr 15), .ref (rr 16), .ref (rr 17), .ref (rr 18), .ref (rr 19), .int 1, .int d0, .int 0, .ref (rr 23), .ref (rr 24), .ref (rr 25), .int 0, .ref (rr 27), .int 0, .ref (rr 29), .ref (rr 30), .ref (rr 31), .ref (rr 32), .ref (rr 33), .int 0, .int 0, .long 0, .long 0, .int 0, .int 0, .ref (rr 40), .ref (rr 41), .ref (rr 42), .ref (rr 43), .ref (rr 44), .ref (rr 45), .int 0, .ref (rr 47), .ref (rr 48)]))] := hD
    refine lv_iload_n hx hb dX12_row_24 rfl (lv_at hl 0 rfl) ?_
    refine W.widen (k := 0) (n := 0) (Nat.le_of_ble_eq_true rfl) (Nat.le_of_ble_eq_true rfl) ?_
    exact W.iret (v := 0) hx hb hr (fun t ht hW => ⟨⟨0, (), rfl, vP_t (by simp [hw_1]), trivial⟩, hS.F ht⟩) hS.2.2 dX12_row_25
  · refine lv_if_ne (tgt := 9) hx hb dX12_row_4 (by decide) (fun c_4 => ?_) (fun c_4 => ?_)
    · exact absurd (by decide) c_4
    refine lv_iconst (v := (-1)) hx hb dX12_row_7 (by decide) ?_
    refine W.widen (k := 0) (n := 0) (Nat.le_of_ble_eq_true rfl) (Nat.le_of_ble_eq_true rfl) ?_
    exact W.iret (v := (-1)) hx hb hr (fun t ht hW => ⟨⟨(-1), (), rfl, vP_f (by simp [hw_1]), trivial⟩, hS.F ht⟩) hS.2.2 dX12_row_8
set_option maxHeartbeats 4000000 in
set_option maxRecDepth 100000 in
/-- X12_joins -/
theorem m_joins0 (l : Launch) (dC : Nat → ClassId) (dI : Nat → Nat → Nat) (m0 : Nat) (rr : Nat → Nat) (f0 : Int32) (r0 : Int32) : Met l yX12_joins wsX12_joins ({ frames := 2, cells := 0, slots := 0, locals := 43 }) (va_Pc [.ref m0, .int f0, .int r0] (fun U => va_P (dC, dI) vwCl [(m0, .inr (12, [.ref (rr 0), .int 0, .int 0, .ref (rr 3), .ref (rr 4), .ref (rr 5), .ref (rr 6), .ref (rr 7), .ref (rr 8), .int 0, .ref (rr 10), .ref (rr 11), .ref (rr 12), .ref (rr 13), .ref (rr 14), .ref (rr 15), .ref (rr 16), .ref (rr 17), .ref (rr 18), .ref (rr 19), .int 1, .int 0, .int 0, .ref (rr 23), .ref (rr 24), .ref (rr 25), .int 0, .ref (rr 27), .int 0, .ref (rr 29), .ref (rr 30), .ref (rr 31), .ref (rr 32), .ref (rr 33), .int 0, .int 0, .long 0, .long 0, .int 0, .int 0, .ref (rr 40), .ref (rr 41), .ref (rr 42), .ref (rr 43), .ref (rr 44), .ref (rr 45), .int 0, .ref (rr 47), .ref (rr 48)]))] U.heap ∧ va_K (dC, dI) vwCl [] U)) (vp_Si (fun r => r = -1)) 0 0 (fun _ => False) := by
  refine Met.ofW (cc := cX12_joins) (maxL := 4) (ret := (some .int)) (by decide) rfl ?_
  intro p e s m args below meth c s₁ B hml hv
  obtain ⟨rfl, hP, hK⟩ := hv
  have hx := B.exec
  have hb := B.bytes
  have hr := B.returns
  have hts := atoms_spec (ws := wsX12_joins) B.pre
  have hown : s.vm.findClass RX12 = some m.cls := findClass_of_methodNamed B.named
  have hlocks := B.notSynchronized
  have hP : va_P (dC, dI) vwCl [(m0, .inr (12, [.ref (rr 0), .int 0, .int 0, .ref (rr 3), .ref (rr 4), .ref (rr 5), .ref (rr 6), .ref (rr 7), .ref (rr 8), .int 0, .ref (rr 10), .ref (rr 11), .ref (rr 12), .ref (rr 13), .ref (rr 14), .ref (rr 15), .ref (rr 16), .ref (rr 17), .ref (rr 18), .ref (rr 19), .int 1, .int 0, .int 0, .ref (rr 23), .ref (rr 24), .ref (rr 25), .int 0, .ref (rr 27), .int 0, .ref (rr 29), .ref (rr 30), .ref (rr 31), .ref (rr 32), .ref (rr 33), .int 0, .int 0, .long 0, .long 0, .int 0, .int 0, .ref (rr 40), .ref (rr 41), .ref (rr 42), .ref (rr 43), .ref (rr 44), .ref (rr 45), .int 0, .ref (rr 47), .ref (rr 48)]))] s.heap := hP
  have hl := lv_entry ([.ref m0, .int f0, .int r0]) (n := 4) (Nat.le_of_ble_eq_true rfl)
  rw [lg_entry_eq]
  generalize (lg_sl ([.ref m0, .int f0, .int r0]) ++ List.replicate (4 - (lg_sl ([.ref m0, .int f0, .int r0])).length) Slot.unset).toArray = ls at hl ⊢
  have hl : lv_has ls 4 [(0, .ref m0), (1, .int f0), (2, .int r0)] := hl
  refine lv_aload_n hx hb dX12_joins_0 rfl (lv_at hl 0 rfl) ?_
  refine va_get (D := (dC, dI)) (ci := 12) (v := .int 0) (C := RX12) (T := TX12) (N := 49) hx hb hts (by decide +kernel) hown hK hP 0 rfl rfl 22 (by decide) (hts (.fieldLink RX12 155 "JoinBenchModel" "rowMany" "I") (by decide +kernel)) (fun _ h9 => h9) rfl dX12_joins_1 ?_
  refine lv_bipush (v := 40) hx hb dX12_joins_4 (by decide) ?_
  refine lv_icmp_eq (tgt := 17) hx hb dX12_joins_6 (by decide) (fun c_1 => ?_) (fun c_1 => ?_)
  · exact absurd c_1 (by decide)
  refine lv_aload_n hx hb dX12_joins_9 rfl (lv_at hl 0 rfl) ?_
  refine lv_iload_n hx hb dX12_joins_10 rfl (lv_at hl 1 rfl) ?_
  have hPc := hP.sub (ws' := [(m0, .inr (12, [.ref (rr 0), .int 0, .int 0, .ref (rr 3), .ref (rr 4), .ref (rr 5), .ref (rr 6), .ref (rr 7), .ref (rr 8), .int 0, .ref (rr 10), .ref (rr 11), .ref (rr 12), .ref (rr 13), .ref (rr 14), .ref (rr 15), .ref (rr 16), .ref (rr 17), .ref (rr 18), .ref (rr 19), .int 1, .int 0, .int 0, .ref (rr 23), .ref (rr 24), .ref (rr 25), .int 0, .ref (rr 27), .int 0, .ref (rr 29), .ref (rr 30), .ref (rr 31), .ref (rr 32), .ref (rr 33), .int 0, .int 0, .long 0, .long 0, .int 0, .int 0, .ref (rr 40), .ref (rr 41), .ref (rr 42), .ref (rr 43), .ref (rr 44), .ref (rr 45), .int 0, .ref (rr 47), .ref (rr 48)]))]) [0] rfl
  have hKc := hK.sub (tys' := []) [] rfl
  refine vp_callSi (va_Run.run (va_runV (As := [.int f0]) (rest := []) ⟨hx, hb, hml, hown, hts⟩ (m_isForm0 l dC dI m0 rr f0) (cwV 1 hts gX12_joins_X12_isForm rfl rfl rfl (by decide +kernel) ⟨Nat.le_of_ble_eq_true rfl, Nat.le_of_ble_eq_true rfl⟩) ⟨fun a U g mk q => by obtain ⟨q0, qP, qK⟩ := q; exact ⟨q0, qP, va_K.moved (u := U) (U := U.calling g mk a) (Vm.Alike.refl U.vm) qK⟩, va_recv hKc hPc (ci := 12) (q0 := 0) rfl rfl, fun U hU hW => ⟨rfl, by rw [hU]; exact hPc, va_K.moved hW.alike hKc⟩⟩ rfl rfl hl.1 rfl (lv_room (Nat.le_of_ble_eq_true rfl)) dX12_joins_11 ⟨Nat.le_of_ble_eq_true rfl, Nat.le_of_ble_eq_true rfl⟩)) (fun r_3 hw_2 => ?_)
  obtain rfl : r_3 = 0 := hw_2
  refine lv_if_ne (tgt := 19) hx hb dX12_joins_14 (by decide) (fun c_4 => ?_) (fun c_4 => ?_)
  · exact absurd (by decide) c_4
  refine lv_iconst (v := (-1)) hx hb dX12_joins_17 (by decide) ?_
  exact W.iret (v := (-1)) hx hb hr (fun t ht hW => ⟨(-1), rfl, rfl, ht⟩) (fun q h => absurd h List.not_mem_nil) dX12_joins_18
set_option maxHeartbeats 4000000 in
set_option maxRecDepth 100000 in
/-- X12_joined -/
theorem m_joined0 (l : Launch) (dC : Nat → ClassId) (dI : Nat → Nat → Nat) (sz : Nat) (m0 : Nat) (rr : Nat → Nat) : Met l yX12_joined wsX12_joined ({ frames := 0, cells := 0, slots := 0, locals := 0 }) (va_Pc [.ref m0] (fun U => U.heap.size = sz ∧ va_P (dC, dI) vwCl [(m0, .inr (12, [.ref (rr 0), .int 0, .int 0, .ref (rr 3), .ref (rr 4), .ref (rr 5), .ref (rr 6), .ref (rr 7), .ref (rr 8), .int 0, .ref (rr 10), .ref (rr 11), .ref (rr 12), .ref (rr 13), .ref (rr 14), .ref (rr 15), .ref (rr 16), .ref (rr 17), .ref (rr 18), .ref (rr 19), .int 1, .int 0, .int 0, .ref (rr 23), .ref (rr 24), .ref (rr 25), .int 0, .ref (rr 27), .int 0, .ref (rr 29), .ref (rr 30), .ref (rr 31), .ref (rr 32), .ref (rr 33), .int 0, .int 0, .long 0, .long 0, .int 0, .int 0, .ref (rr 40), .ref (rr 41), .ref (rr 42), .ref (rr 43), .ref (rr 44), .ref (rr 45), .int 0, .ref (rr 47), .ref (rr 48)]))] U.heap ∧ va_K (dC, dI) vwCl [] U ∧ va_D (fun _ => True) [(m0, .inr (12, [.ref (rr 0), .int 0, .int 0, .ref (rr 3), .ref (rr 4), .ref (rr 5), .ref (rr 6), .ref (rr 7), .ref (rr 8), .int 0, .ref (rr 10), .ref (rr 11), .ref (rr 12), .ref (rr 13), .ref (rr 14), .ref (rr 15), .ref (rr 16), .ref (rr 17), .ref (rr 18), .ref (rr 19), .int 1, .int 0, .int 0, .ref (rr 23), .ref (rr 24), .ref (rr 25), .int 0, .ref (rr 27), .int 0, .ref (rr 29), .ref (rr 30), .ref (rr 31), .ref (rr 32), .ref (rr 33), .int 0, .int 0, .long 0, .long 0, .int 0, .int 0, .ref (rr 40), .ref (rr 41), .ref (rr 42), .ref (rr 43), .ref (rr 44), .ref (rr 45), .int 0, .ref (rr 47), .ref (rr 48)]))])) (va_Qi (fun (r : Int32) (_ : Unit) => r = 0) (fun (_ : Unit) (_ : State) => True) (va_A [(m0, .inr (12, [.ref (rr 0), .int 0, .int 0, .ref (rr 3), .ref (rr 4), .ref (rr 5), .ref (rr 6), .ref (rr 7), .ref (rr 8), .int 0, .ref (rr 10), .ref (rr 11), .ref (rr 12), .ref (rr 13), .ref (rr 14), .ref (rr 15), .ref (rr 16), .ref (rr 17), .ref (rr 18), .ref (rr 19), .int 1, .int 0, .int 0, .ref (rr 23), .ref (rr 24), .ref (rr 25), .int 0, .ref (rr 27), .int 0, .ref (rr 29), .ref (rr 30), .ref (rr 31), .ref (rr 32), .ref (rr 33), .int 0, .int 0, .long 0, .long 0, .int 0, .int 0, .ref (rr 40), .ref (rr 41), .ref (rr 42), .ref (rr 43), .ref (rr 44), .ref (rr 45), .int 0, .ref (rr 47), .ref (rr 48)]))] sz)) 0 0 (va_A [(m0, .inr (12, [.ref (rr 0), .int 0, .int 0, .ref (rr 3), .ref (rr 4), .ref (rr 5), .ref (rr 6), .ref (rr 7), .ref (rr 8), .int 0, .ref (rr 10), .ref (rr 11), .ref (rr 12), .ref (rr 13), .ref (rr 14), .ref (rr 15), .ref (rr 16), .ref (rr 17), .ref (rr 18), .ref (rr 19), .int 1, .int 0, .int 0, .ref (rr 23), .ref (rr 24), .ref (rr 25), .int 0, .ref (rr 27), .int 0, .ref (rr 29), .ref (rr 30), .ref (rr 31), .ref (rr 32), .ref (rr 33), .int 0, .int 0, .long 0, .long 0, .int 0, .int 0, .ref (rr 40), .ref (rr 41), .ref (rr 42), .ref (rr 43), .ref (rr 44), .ref (rr 45), .int 0, .ref (rr 47), .ref (rr 48)]))] sz) := by
  refine Met.ofW (cc := cX12_joined) (maxL := 6) (ret := (some .int)) (by decide) rfl ?_
  intro p e s m args below meth c s₁ B hml hv
  obtain ⟨rfl, hsz, hP, hK, hD0⟩ := hv
  have hx := B.exec
  have hb := B.bytes
  have hr := B.returns
  have hts := atoms_spec (ws := wsX12_joined) B.pre
  have hown : s.vm.findClass RX12 = some m.cls := findClass_of_methodNamed B.named
  have hlocks := B.notSynchronized
  subst hsz
  have hD := hD0.self (sz := s.heap.size)
  generalize hAe : va_A [(m0, .inr (12, [.ref (rr 0), .int 0, .int 0, .ref (rr 3), .ref (rr 4), .ref (rr 5), .ref (rr 6), .ref (rr 7), .ref (rr 8), .int 0, .ref (rr 10), .ref (rr 11), .ref (rr 12), .ref (rr 13), .ref (rr 14), .ref (rr 15), .ref (rr 16), .ref (rr 17), .ref (rr 18), .ref (rr 19), .int 1, .int 0, .int 0, .ref (rr 23), .ref (rr 24), .ref (rr 25), .int 0, .ref (rr 27), .int 0, .ref (rr 29), .ref (rr 30), .ref (rr 31), .ref (rr 32), .ref (rr 33), .int 0, .int 0, .long 0, .long 0, .int 0, .int 0, .ref (rr 40), .ref (rr 41), .ref (rr 42), .ref (rr 43), .ref (rr 44), .ref (rr 45), .int 0, .ref (rr 47), .ref (rr 48)]))] s.heap.size = A at hD ⊢
  have hA : ∀ q : Nat, s.heap.size ≤ q → A q := fun q h => by rw [← hAe]; exact Or.inr h
  obtain ⟨H, hH⟩ : ∃ H : Heap, H = s.heap := ⟨_, rfl⟩
  have hS : va_S A s.heap H [] := by rw [hH]; exact va_S.rf
  rw [← hH] at hP ⊢
  have hP : va_P (dC, dI) vwCl [(m0, .inr (12, [.ref (rr 0), .int 0, .int 0, .ref (rr 3), .ref (rr 4), .ref (rr 5), .ref (rr 6), .ref (rr 7), .ref (rr 8), .int 0, .ref (rr 10), .ref (rr 11), .ref (rr 12), .ref (rr 13), .ref (rr 14), .ref (rr 15), .ref (rr 16), .ref (rr 17), .ref (rr 18), .ref (rr 19), .int 1, .int 0, .int 0, .ref (rr 23), .ref (rr 24), .ref (rr 25), .int 0, .ref (rr 27), .int 0, .ref (rr 29), .ref (rr 30), .ref (rr 31), .ref (rr 32), .ref (rr 33), .int 0, .int 0, .long 0, .long 0, .int 0, .int 0, .ref (rr 40), .ref (rr 41), .ref (rr 42), .ref (rr 43), .ref (rr 44), .ref (rr 45), .int 0, .ref (rr 47), .ref (rr 48)]))] H := hP
  have hl := lv_entry ([.ref m0]) (n := 6) (Nat.le_of_ble_eq_true rfl)
  rw [lg_entry_eq]
  generalize (lg_sl ([.ref m0]) ++ List.replicate (6 - (lg_sl ([.ref m0])).length) Slot.unset).toArray = ls at hl ⊢
  have hl : lv_has ls 6 [(0, .ref m0)] := hl
  refine lv_aload_n hx hb dX12_joined_0 rfl (lv_at hl 0 rfl) ?_
  refine lv_iconst (v := 0) hx hb dX12_joined_1 (by decide) ?_
  refine va_put (D := (dC, dI)) (ci := 12) (v := .int 0) (ty := .int) (C := RX12) (T := TX12) (N := 49) hx hb hts (by decide +kernel) tyX12 tyX12_ok nmX12 hown hK hP hD hS 0 rfl rfl 26 (by decide) (hts (.fieldLink RX12 169 "JoinBenchModel" "outMany" "I") (by decide +kernel)) (fun _ h9 => h9) rfl (by decide +kernel) rfl rfl (Nat.le_of_ble_eq_true rfl) dX12_joined_2 (fun H locs hP hD hS => ?_)
  have hP : va_P (dC, dI) vwCl [(m0, .inr (12, [.ref (rr 0), .int 0, .int 0, .ref (rr 3), .ref (rr 4), .ref (rr 5), .ref (rr 6), .ref (rr 7), .ref (rr 8), .int 0, .ref (rr 10), .ref (rr 11), .ref (rr 12), .ref (rr 13), .ref (rr 14), .ref (rr 15), .ref (rr 16), .ref (rr 17), .ref (rr 18), .ref (rr 19), .int 1, .int 0, .int 0, .ref (rr 23), .ref (rr 24), .ref (rr 25), .int 0, .ref (rr 27), .int 0, .ref (rr 29), .ref (rr 30), .ref (rr 31), .ref (rr 32), .ref (rr 33), .int 0, .int 0, .long 0, .long 0, .int 0, .int 0, .ref (rr 40), .ref (rr 41), .ref (rr 42), .ref (rr 43), .ref (rr 44), .ref (rr 45), .int 0, .ref (rr 47), .ref (rr 48)]))] H := hP
  have hD : va_D A [(m0, .inr (12, [.ref (rr 0), .int 0, .int 0, .ref (rr 3), .ref (rr 4), .ref (rr 5), .ref (rr 6), .ref (rr 7), .ref (rr 8), .int 0, .ref (rr 10), .ref (rr 11), .ref (rr 12), .ref (rr 13), .ref (rr 14), .ref (rr 15), .ref (rr 16), .ref (rr 17), .ref (rr 18), .ref (rr 19), .int 1, .int 0, .int 0, .ref (rr 23), .ref (rr 24), .ref (rr 25), .int 0, .ref (rr 27), .int 0, .ref (rr 29), .ref (rr 30), .ref (rr 31), .ref (rr 32), .ref (rr 33), .int 0, .int 0, .long 0, .long 0, .int 0, .int 0, .ref (rr 40), .ref (rr 41), .ref (rr 42), .ref (rr 43), .ref (rr 44), .ref (rr 45), .int 0, .ref (rr 47), .ref (rr 48)]))] := hD
  refine lv_iconst (v := 0) hx hb dX12_joined_5 (by decide) ?_
  refine lv_istore_n (lv' := [(1, .int 0), (0, .ref m0)]) hx hb dX12_joined_6 rfl hl (by decide) rfl (fun ls hl => ?_)
  refine lv_iload_n hx hb dX12_joined_7 rfl (lv_at hl 0 rfl) ?_
  refine lv_aload_n hx hb dX12_joined_8 rfl (lv_at hl 1 rfl) ?_
  refine va_get (D := (dC, dI)) (ci := 12) (v := .int 0) (C := RX12) (T := TX12) (N := 49) hx hb hts (by decide +kernel) hown hK hP 0 rfl rfl 22 (by decide) (hts (.fieldLink RX12 155 "JoinBenchModel" "rowMany" "I") (by decide +kernel)) (fun _ h9 => h9) rfl dX12_joined_9 ?_
  refine lv_icmp_ge (tgt := 172) hx hb dX12_joined_12 (by decide) (fun c_1 => ?_) (fun c_1 => ?_)
  rotate_left
  · exact absurd (by decide) c_1
  refine lv_aload_n hx hb dX12_joined_172 rfl (lv_at hl 1 rfl) ?_
  refine va_get (D := (dC, dI)) (ci := 12) (v := .int 0) (C := RX12) (T := TX12) (N := 49) hx hb hts (by decide +kernel) hown hK hP 0 rfl rfl 26 (by decide) (hts (.fieldLink RX12 169 "JoinBenchModel" "outMany" "I") (by decide +kernel)) (fun _ h9 => h9) rfl dX12_joined_173 ?_
  refine W.widen (k := 0) (n := 0) (Nat.le_of_ble_eq_true rfl) (Nat.le_of_ble_eq_true rfl) ?_
  exact W.iret (v := 0) hx hb hr (fun t ht hW => ⟨⟨0, (), rfl, rfl, trivial⟩, hS.F ht⟩) hS.2.2 dX12_joined_176
set_option maxHeartbeats 4000000 in
set_option maxRecDepth 100000 in
/-- X12_letter -/
theorem m_letter0 (l : Launch) (dC : Nat → ClassId) (dI : Nat → Nat → Nat) (m0 : Nat) (rr : Nat → Nat) (i0 : Int32) : Met l yX12_letter wsX12_letter ({ frames := 1, cells := 0, slots := 0, locals := 22 }) (va_Pc [.ref m0, .int i0] (fun U => va_P (dC, dI) vwCl [(m0, .inr (12, [.ref (rr 0), .int 0, .int 0, .ref (rr 3), .ref (rr 4), .ref (rr 5), .ref (rr 6), .ref (rr 7), .ref (rr 8), .int 0, .ref (rr 10), .ref (rr 11), .ref (rr 12), .ref (rr 13), .ref (rr 14), .ref (rr 15), .ref (rr 16), .ref (rr 17), .ref (rr 18), .ref (rr 19), .int 1, .int 0, .int 0, .ref (rr 23), .ref (rr 24), .ref (rr 25), .int 0, .ref (rr 27), .int 0, .ref (rr 29), .ref (rr 30), .ref (rr 31), .ref (rr 32), .ref (rr 33), .int 0, .int 0, .long 0, .long 0, .int 0, .int 0, .ref (rr 40), .ref (rr 41), .ref (rr 42), .ref (rr 43), .ref (rr 44), .ref (rr 45), .int 0, .ref (rr 47), .ref (rr 48)]))] U.heap ∧ va_K (dC, dI) vwCl [] U)) (vp_Si (fun r => r = -1)) 0 0 (fun _ => False) := by
  refine Met.ofW (cc := cX12_letter) (maxL := 2) (ret := (some .int)) (by decide) rfl ?_
  intro p e s m args below meth c s₁ B hml hv
  obtain ⟨rfl, hP, hK⟩ := hv
  have hx := B.exec
  have hb := B.bytes
  have hr := B.returns
  have hts := atoms_spec (ws := wsX12_letter) B.pre
  have hown : s.vm.findClass RX12 = some m.cls := findClass_of_methodNamed B.named
  have hlocks := B.notSynchronized
  have hP : va_P (dC, dI) vwCl [(m0, .inr (12, [.ref (rr 0), .int 0, .int 0, .ref (rr 3), .ref (rr 4), .ref (rr 5), .ref (rr 6), .ref (rr 7), .ref (rr 8), .int 0, .ref (rr 10), .ref (rr 11), .ref (rr 12), .ref (rr 13), .ref (rr 14), .ref (rr 15), .ref (rr 16), .ref (rr 17), .ref (rr 18), .ref (rr 19), .int 1, .int 0, .int 0, .ref (rr 23), .ref (rr 24), .ref (rr 25), .int 0, .ref (rr 27), .int 0, .ref (rr 29), .ref (rr 30), .ref (rr 31), .ref (rr 32), .ref (rr 33), .int 0, .int 0, .long 0, .long 0, .int 0, .int 0, .ref (rr 40), .ref (rr 41), .ref (rr 42), .ref (rr 43), .ref (rr 44), .ref (rr 45), .int 0, .ref (rr 47), .ref (rr 48)]))] s.heap := hP
  have hl := lv_entry ([.ref m0, .int i0]) (n := 2) (Nat.le_of_ble_eq_true rfl)
  rw [lg_entry_eq]
  generalize (lg_sl ([.ref m0, .int i0]) ++ List.replicate (2 - (lg_sl ([.ref m0, .int i0])).length) Slot.unset).toArray = ls at hl ⊢
  have hl : lv_has ls 2 [(0, .ref m0), (1, .int i0)] := hl
  refine lv_iload_n hx hb dX12_letter_0 rfl (lv_at hl 1 rfl) ?_
  refine lv_iconst (v := 0) hx hb dX12_letter_1 (by decide) ?_
  refine lv_aload_n hx hb dX12_letter_2 rfl (lv_at hl 0 rfl) ?_
  refine va_get (D := (dC, dI)) (ci := 12) (v := .int 0) (C := RX12) (T := TX12) (N := 49) hx hb hts (by decide +kernel) hown hK hP 0 rfl rfl 26 (by decide) (hts (.fieldLink RX12 169 "JoinBenchModel" "outMany" "I") (by decide +kernel)) (fun _ h9 => h9) rfl dX12_letter_3 ?_
  refine lv_iconst (v := 1) hx hb dX12_letter_6 (by decide) ?_
  refine lv_isub hx hb dX12_letter_7 ?_
  refine lv_topi (fun y_1 ey_1 => ?_)
  obtain rfl : y_1 = (-1) := ey_1.trans (by decide)
  have hPc := hP.sub (ws' := []) [] rfl
  have hKc := hK.sub (tys' := []) [] rfl
  refine vp_callSi (va_Run.run (va_runS (As := [.int i0, .int 0, .int (-1)]) (rest := []) ⟨hx, hb, hml, hown, hts⟩ (m_in l dC dI i0 0 (-1)) (va_cwS 3 hts gX12_letter_X12_in rfl rfl rfl (by decide +kernel) ⟨Nat.le_of_ble_eq_true rfl, Nat.le_of_ble_eq_true rfl⟩) ⟨fun a U g mk q => by obtain ⟨q0, qP, qK⟩ := q; exact ⟨q0, qP, va_K.moved (u := U) (U := U.calling g mk a) (Vm.Alike.refl U.vm) qK⟩, fun U hU hW => ⟨rfl, by rw [hU]; exact hPc, va_K.moved hW.alike hKc⟩⟩ rfl rfl hl.1 rfl (lv_room (Nat.le_of_ble_eq_true rfl)) dX12_letter_8 ⟨Nat.le_of_ble_eq_true rfl, Nat.le_of_ble_eq_true rfl⟩)) (fun r_3 hw_2 => ?_)
  rcases hw_2 with ⟨rfl, hw_2⟩ | ⟨rfl, hw_2⟩
  · exact absurd hw_2 (inR_d (by decide))
  refine lv_if_eq (tgt := 23) hx hb dX12_letter_11 (by decide) (fun c_4 => ?_) (fun c_4 => ?_)
  rotate_left
  · exact absurd (by decide) c_4
  refine lv_iconst (v := (-1)) hx hb dX12_letter_23 (by decide) ?_
  exact W.iret (v := (-1)) hx hb hr (fun t ht hW => ⟨(-1), rfl, rfl, ht⟩) (fun q h => absurd h List.not_mem_nil) dX12_letter_24
set_option maxHeartbeats 4000000 in
set_option maxRecDepth 100000 in
/-- X12_back -/
theorem m_back0 (l : Launch) (dC : Nat → ClassId) (dI : Nat → Nat → Nat) (sz : Nat) (m0 : Nat) (rr : Nat → Nat) : Met l yX12_back wsX12_back ({ frames := 0, cells := 0, slots := 0, locals := 0 }) (va_Pc [.ref m0] (fun U => U.heap.size = sz ∧ va_P (dC, dI) vwCl [(m0, .inr (12, [.ref (rr 0), .int 0, .int 0, .ref (rr 3), .ref (rr 4), .ref (rr 5), .ref (rr 6), .ref (rr 7), .ref (rr 8), .int 0, .ref (rr 10), .ref (rr 11), .ref (rr 12), .ref (rr 13), .ref (rr 14), .ref (rr 15), .ref (rr 16), .ref (rr 17), .ref (rr 18), .ref (rr 19), .int 1, .int 0, .int 0, .ref (rr 23), .ref (rr 24), .ref (rr 25), .int 0, .ref (rr 27), .int 0, .ref (rr 29), .ref (rr 30), .ref (rr 31), .ref (rr 32), .ref (rr 33), .int 0, .int 0, .long 0, .long 0, .int 0, .int 0, .ref (rr 40), .ref (rr 41), .ref (rr 42), .ref (rr 43), .ref (rr 44), .ref (rr 45), .int 0, .ref (rr 47), .ref (rr 48)]))] U.heap ∧ va_K (dC, dI) vwCl [] U ∧ va_D (fun _ => True) [(m0, .inr (12, [.ref (rr 0), .int 0, .int 0, .ref (rr 3), .ref (rr 4), .ref (rr 5), .ref (rr 6), .ref (rr 7), .ref (rr 8), .int 0, .ref (rr 10), .ref (rr 11), .ref (rr 12), .ref (rr 13), .ref (rr 14), .ref (rr 15), .ref (rr 16), .ref (rr 17), .ref (rr 18), .ref (rr 19), .int 1, .int 0, .int 0, .ref (rr 23), .ref (rr 24), .ref (rr 25), .int 0, .ref (rr 27), .int 0, .ref (rr 29), .ref (rr 30), .ref (rr 31), .ref (rr 32), .ref (rr 33), .int 0, .int 0, .long 0, .long 0, .int 0, .int 0, .ref (rr 40), .ref (rr 41), .ref (rr 42), .ref (rr 43), .ref (rr 44), .ref (rr 45), .int 0, .ref (rr 47), .ref (rr 48)]))])) (va_Qi (fun (r : Int32) (_ : Unit) => r = 0) (fun (_ : Unit) (_ : State) => True) (va_A [(m0, .inr (12, [.ref (rr 0), .int 0, .int 0, .ref (rr 3), .ref (rr 4), .ref (rr 5), .ref (rr 6), .ref (rr 7), .ref (rr 8), .int 0, .ref (rr 10), .ref (rr 11), .ref (rr 12), .ref (rr 13), .ref (rr 14), .ref (rr 15), .ref (rr 16), .ref (rr 17), .ref (rr 18), .ref (rr 19), .int 1, .int 0, .int 0, .ref (rr 23), .ref (rr 24), .ref (rr 25), .int 0, .ref (rr 27), .int 0, .ref (rr 29), .ref (rr 30), .ref (rr 31), .ref (rr 32), .ref (rr 33), .int 0, .int 0, .long 0, .long 0, .int 0, .int 0, .ref (rr 40), .ref (rr 41), .ref (rr 42), .ref (rr 43), .ref (rr 44), .ref (rr 45), .int 0, .ref (rr 47), .ref (rr 48)]))] sz)) 0 0 (va_A [(m0, .inr (12, [.ref (rr 0), .int 0, .int 0, .ref (rr 3), .ref (rr 4), .ref (rr 5), .ref (rr 6), .ref (rr 7), .ref (rr 8), .int 0, .ref (rr 10), .ref (rr 11), .ref (rr 12), .ref (rr 13), .ref (rr 14), .ref (rr 15), .ref (rr 16), .ref (rr 17), .ref (rr 18), .ref (rr 19), .int 1, .int 0, .int 0, .ref (rr 23), .ref (rr 24), .ref (rr 25), .int 0, .ref (rr 27), .int 0, .ref (rr 29), .ref (rr 30), .ref (rr 31), .ref (rr 32), .ref (rr 33), .int 0, .int 0, .long 0, .long 0, .int 0, .int 0, .ref (rr 40), .ref (rr 41), .ref (rr 42), .ref (rr 43), .ref (rr 44), .ref (rr 45), .int 0, .ref (rr 47), .ref (rr 48)]))] sz) := by
  refine Met.ofW (cc := cX12_back) (maxL := 2) (ret := (some .int)) (by decide) rfl ?_
  intro p e s m args below meth c s₁ B hml hv
  obtain ⟨rfl, hsz, hP, hK, hD0⟩ := hv
  have hx := B.exec
  have hb := B.bytes
  have hr := B.returns
  have hts := atoms_spec (ws := wsX12_back) B.pre
  have hown : s.vm.findClass RX12 = some m.cls := findClass_of_methodNamed B.named
  have hlocks := B.notSynchronized
  subst hsz
  have hD := hD0.self (sz := s.heap.size)
  generalize hAe : va_A [(m0, .inr (12, [.ref (rr 0), .int 0, .int 0, .ref (rr 3), .ref (rr 4), .ref (rr 5), .ref (rr 6), .ref (rr 7), .ref (rr 8), .int 0, .ref (rr 10), .ref (rr 11), .ref (rr 12), .ref (rr 13), .ref (rr 14), .ref (rr 15), .ref (rr 16), .ref (rr 17), .ref (rr 18), .ref (rr 19), .int 1, .int 0, .int 0, .ref (rr 23), .ref (rr 24), .ref (rr 25), .int 0, .ref (rr 27), .int 0, .ref (rr 29), .ref (rr 30), .ref (rr 31), .ref (rr 32), .ref (rr 33), .int 0, .int 0, .long 0, .long 0, .int 0, .int 0, .ref (rr 40), .ref (rr 41), .ref (rr 42), .ref (rr 43), .ref (rr 44), .ref (rr 45), .int 0, .ref (rr 47), .ref (rr 48)]))] s.heap.size = A at hD ⊢
  have hA : ∀ q : Nat, s.heap.size ≤ q → A q := fun q h => by rw [← hAe]; exact Or.inr h
  obtain ⟨H, hH⟩ : ∃ H : Heap, H = s.heap := ⟨_, rfl⟩
  have hS : va_S A s.heap H [] := by rw [hH]; exact va_S.rf
  rw [← hH] at hP ⊢
  have hP : va_P (dC, dI) vwCl [(m0, .inr (12, [.ref (rr 0), .int 0, .int 0, .ref (rr 3), .ref (rr 4), .ref (rr 5), .ref (rr 6), .ref (rr 7), .ref (rr 8), .int 0, .ref (rr 10), .ref (rr 11), .ref (rr 12), .ref (rr 13), .ref (rr 14), .ref (rr 15), .ref (rr 16), .ref (rr 17), .ref (rr 18), .ref (rr 19), .int 1, .int 0, .int 0, .ref (rr 23), .ref (rr 24), .ref (rr 25), .int 0, .ref (rr 27), .int 0, .ref (rr 29), .ref (rr 30), .ref (rr 31), .ref (rr 32), .ref (rr 33), .int 0, .int 0, .long 0, .long 0, .int 0, .int 0, .ref (rr 40), .ref (rr 41), .ref (rr 42), .ref (rr 43), .ref (rr 44), .ref (rr 45), .int 0, .ref (rr 47), .ref (rr 48)]))] H := hP
  have hl := lv_entry ([.ref m0]) (n := 2) (Nat.le_of_ble_eq_true rfl)
  rw [lg_entry_eq]
  generalize (lg_sl ([.ref m0]) ++ List.replicate (2 - (lg_sl ([.ref m0])).length) Slot.unset).toArray = ls at hl ⊢
  have hl : lv_has ls 2 [(0, .ref m0)] := hl
  refine lv_aload_n hx hb dX12_back_0 rfl (lv_at hl 0 rfl) ?_
  refine va_get (D := (dC, dI)) (ci := 12) (v := .int 0) (C := RX12) (T := TX12) (N := 49) hx hb hts (by decide +kernel) hown hK hP 0 rfl rfl 1 (by decide) (hts (.fieldLink RX12 120 "JoinBenchModel" "taped" "I") (by decide +kernel)) (fun _ h9 => h9) rfl dX12_back_1 ?_
  refine lv_aload_n hx hb dX12_back_4 rfl (lv_at hl 0 rfl) ?_
  refine va_get (D := (dC, dI)) (ci := 12) (v := .int 0) (C := RX12) (T := TX12) (N := 49) hx hb hts (by decide +kernel) hown hK hP 0 rfl rfl 26 (by decide) (hts (.fieldLink RX12 169 "JoinBenchModel" "outMany" "I") (by decide +kernel)) (fun _ h9 => h9) rfl dX12_back_5 ?_
  refine lv_iadd hx hb dX12_back_8 ?_
  refine lv_topi (fun y_1 ey_1 => ?_)
  obtain rfl : y_1 = 0 := ey_1.trans (by decide)
  refine lv_bipush (v := 60) hx hb dX12_back_9 (by decide) ?_
  refine lv_icmp_le (tgt := 16) hx hb dX12_back_11 (by decide) (fun c_2 => ?_) (fun c_2 => ?_)
  rotate_left
  · exact absurd (by decide) c_2
  refine lv_iconst (v := 0) hx hb dX12_back_16 (by decide) ?_
  refine lv_istore_n (lv' := [(1, .int 0), (0, .ref m0)]) hx hb dX12_back_17 rfl hl (by decide) rfl (fun ls hl => ?_)
  refine lv_iload_n hx hb dX12_back_18 rfl (lv_at hl 0 rfl) ?_
  refine lv_aload_n hx hb dX12_back_19 rfl (lv_at hl 1 rfl) ?_
  refine va_get (D := (dC, dI)) (ci := 12) (v := .int 0) (C := RX12) (T := TX12) (N := 49) hx hb hts (by decide +kernel) hown hK hP 0 rfl rfl 26 (by decide) (hts (.fieldLink RX12 169 "JoinBenchModel" "outMany" "I") (by decide +kernel)) (fun _ h9 => h9) rfl dX12_back_20 ?_
  refine lv_icmp_ge (tgt := 49) hx hb dX12_back_23 (by decide) (fun c_3 => ?_) (fun c_3 => ?_)
  rotate_left
  · exact absurd (by decide) c_3
  refine lv_aload_n hx hb dX12_back_49 rfl (lv_at hl 1 rfl) ?_
  refine lv_dup hx hb dX12_back_50 rfl ?_
  refine va_get (D := (dC, dI)) (ci := 12) (v := .int 0) (C := RX12) (T := TX12) (N := 49) hx hb hts (by decide +kernel) hown hK hP 0 rfl rfl 1 (by decide) (hts (.fieldLink RX12 120 "JoinBenchModel" "taped" "I") (by decide +kernel)) (fun _ h9 => h9) rfl dX12_back_51 ?_
  refine lv_aload_n hx hb dX12_back_54 rfl (lv_at hl 1 rfl) ?_
  refine va_get (D := (dC, dI)) (ci := 12) (v := .int 0) (C := RX12) (T := TX12) (N := 49) hx hb hts (by decide +kernel) hown hK hP 0 rfl rfl 26 (by decide) (hts (.fieldLink RX12 169 "JoinBenchModel" "outMany" "I") (by decide +kernel)) (fun _ h9 => h9) rfl dX12_back_55 ?_
  refine lv_iadd hx hb dX12_back_58 ?_
  refine lv_topi (fun y_4 ey_4 => ?_)
  obtain rfl : y_4 = 0 := ey_4.trans (by decide)
  refine va_put (D := (dC, dI)) (ci := 12) (v := .int 0) (ty := .int) (C := RX12) (T := TX12) (N := 49) hx hb hts (by decide +kernel) tyX12 tyX12_ok nmX12 hown hK hP hD hS 0 rfl rfl 1 (by decide) (hts (.fieldLink RX12 120 "JoinBenchModel" "taped" "I") (by decide +kernel)) (fun _ h9 => h9) rfl (by decide +kernel) rfl rfl (Nat.le_of_ble_eq_true rfl) dX12_back_59 (fun H locs hP hD hS => ?_)
  have hP : va_P (dC, dI) vwCl [(m0, .inr (12, [.ref (rr 0), .int 0, .int 0, .ref (rr 3), .ref (rr 4), .ref (rr 5), .ref (rr 6), .ref (rr 7), .ref (rr 8), .int 0, .ref (rr 10), .ref (rr 11), .ref (rr 12), .ref (rr 13), .ref (rr 14), .ref (rr 15), .ref (rr 16), .ref (rr 17), .ref (rr 18), .ref (rr 19), .int 1, .int 0, .int 0, .ref (rr 23), .ref (rr 24), .ref (rr 25), .int 0, .ref (rr 27), .int 0, .ref (rr 29), .ref (rr 30), .ref (rr 31), .ref (rr 32), .ref (rr 33), .int 0, .int 0, .long 0, .long 0, .int 0, .int 0, .ref (rr 40), .ref (rr 41), .ref (rr 42), .ref (rr 43), .ref (rr 44), .ref (rr 45), .int 0, .ref (rr 47), .ref (rr 48)]))] H := hP
  have hD : va_D A [(m0, .inr (12, [.ref (rr 0), .int 0, .int 0, .ref (rr 3), .ref (rr 4), .ref (rr 5), .ref (rr 6), .ref (rr 7), .ref (rr 8), .int 0, .ref (rr 10), .ref (rr 11), .ref (rr 12), .ref (rr 13), .ref (rr 14), .ref (rr 15), .ref (rr 16), .ref (rr 17), .ref (rr 18), .ref (rr 19), .int 1, .int 0, .int 0, .ref (rr 23), .ref (rr 24), .ref (rr 25), .int 0, .ref (rr 27), .int 0, .ref (rr 29), .ref (rr 30), .ref (rr 31), .ref (rr 32), .ref (rr 33), .int 0, .int 0, .long 0, .long 0, .int 0, .int 0, .ref (rr 40), .ref (rr 41), .ref (rr 42), .ref (rr 43), .ref (rr 44), .ref (rr 45), .int 0, .ref (rr 47), .ref (rr 48)]))] := hD
  refine lv_aload_n hx hb dX12_back_62 rfl (lv_at hl 1 rfl) ?_
  refine lv_iconst (v := 0) hx hb dX12_back_63 (by decide) ?_
  refine va_put (D := (dC, dI)) (ci := 12) (v := .int 0) (ty := .int) (C := RX12) (T := TX12) (N := 49) hx hb hts (by decide +kernel) tyX12 tyX12_ok nmX12 hown hK hP hD hS 0 rfl rfl 26 (by decide) (hts (.fieldLink RX12 169 "JoinBenchModel" "outMany" "I") (by decide +kernel)) (fun _ h9 => h9) rfl (by decide +kernel) rfl rfl (Nat.le_of_ble_eq_true rfl) dX12_back_64 (fun H locs hP hD hS => ?_)
  have hP : va_P (dC, dI) vwCl [(m0, .inr (12, [.ref (rr 0), .int 0, .int 0, .ref (rr 3), .ref (rr 4), .ref (rr 5), .ref (rr 6), .ref (rr 7), .ref (rr 8), .int 0, .ref (rr 10), .ref (rr 11), .ref (rr 12), .ref (rr 13), .ref (rr 14), .ref (rr 15), .ref (rr 16), .ref (rr 17), .ref (rr 18), .ref (rr 19), .int 1, .int 0, .int 0, .ref (rr 23), .ref (rr 24), .ref (rr 25), .int 0, .ref (rr 27), .int 0, .ref (rr 29), .ref (rr 30), .ref (rr 31), .ref (rr 32), .ref (rr 33), .int 0, .int 0, .long 0, .long 0, .int 0, .int 0, .ref (rr 40), .ref (rr 41), .ref (rr 42), .ref (rr 43), .ref (rr 44), .ref (rr 45), .int 0, .ref (rr 47), .ref (rr 48)]))] H := hP
  have hD : va_D A [(m0, .inr (12, [.ref (rr 0), .int 0, .int 0, .ref (rr 3), .ref (rr 4), .ref (rr 5), .ref (rr 6), .ref (rr 7), .ref (rr 8), .int 0, .ref (rr 10), .ref (rr 11), .ref (rr 12), .ref (rr 13), .ref (rr 14), .ref (rr 15), .ref (rr 16), .ref (rr 17), .ref (rr 18), .ref (rr 19), .int 1, .int 0, .int 0, .ref (rr 23), .ref (rr 24), .ref (rr 25), .int 0, .ref (rr 27), .int 0, .ref (rr 29), .ref (rr 30), .ref (rr 31), .ref (rr 32), .ref (rr 33), .int 0, .int 0, .long 0, .long 0, .int 0, .int 0, .ref (rr 40), .ref (rr 41), .ref (rr 42), .ref (rr 43), .ref (rr 44), .ref (rr 45), .int 0, .ref (rr 47), .ref (rr 48)]))] := hD
  refine lv_aload_n hx hb dX12_back_67 rfl (lv_at hl 1 rfl) ?_
  refine va_get (D := (dC, dI)) (ci := 12) (v := .int 0) (C := RX12) (T := TX12) (N := 49) hx hb hts (by decide +kernel) hown hK hP 0 rfl rfl 1 (by decide) (hts (.fieldLink RX12 120 "JoinBenchModel" "taped" "I") (by decide +kernel)) (fun _ h9 => h9) rfl dX12_back_68 ?_
  refine W.widen (k := 0) (n := 0) (Nat.le_of_ble_eq_true rfl) (Nat.le_of_ble_eq_true rfl) ?_
  exact W.iret (v := 0) hx hb hr (fun t ht hW => ⟨⟨0, (), rfl, rfl, trivial⟩, hS.F ht⟩) hS.2.2 dX12_back_71
set_option maxHeartbeats 4000000 in
set_option maxRecDepth 100000 in
/-- X12_part -/
theorem m_part0 (l : Launch) (dC : Nat → ClassId) (dI : Nat → Nat → Nat) (sz : Nat) (m0 : Nat) (rr : Nat → Nat) (d0 : Int32) : Met l yX12_part wsX12_part ({ frames := 1, cells := 0, slots := 0, locals := 22 }) (va_Pc [.ref m0, .int d0] (fun U => U.heap.size = sz ∧ va_P (dC, dI) vwCl [(m0, .inr (12, [.ref (rr 0), .int 0, .int 0, .ref (rr 3), .ref (rr 4), .ref (rr 5), .ref (rr 6), .ref (rr 7), .ref (rr 8), .int 0, .ref (rr 10), .ref (rr 11), .ref (rr 12), .ref (rr 13), .ref (rr 14), .ref (rr 15), .ref (rr 16), .ref (rr 17), .ref (rr 18), .ref (rr 19), .int 1, .int 0, .int 0, .ref (rr 23), .ref (rr 24), .ref (rr 25), .int 0, .ref (rr 27), .int 0, .ref (rr 29), .ref (rr 30), .ref (rr 31), .ref (rr 32), .ref (rr 33), .int 0, .int 0, .long 0, .long 0, .int 0, .int 0, .ref (rr 40), .ref (rr 41), .ref (rr 42), .ref (rr 43), .ref (rr 44), .ref (rr 45), .int 0, .ref (rr 47), .ref (rr 48)]))] U.heap ∧ va_K (dC, dI) vwCl [] U ∧ va_D (fun _ => True) [(m0, .inr (12, [.ref (rr 0), .int 0, .int 0, .ref (rr 3), .ref (rr 4), .ref (rr 5), .ref (rr 6), .ref (rr 7), .ref (rr 8), .int 0, .ref (rr 10), .ref (rr 11), .ref (rr 12), .ref (rr 13), .ref (rr 14), .ref (rr 15), .ref (rr 16), .ref (rr 17), .ref (rr 18), .ref (rr 19), .int 1, .int 0, .int 0, .ref (rr 23), .ref (rr 24), .ref (rr 25), .int 0, .ref (rr 27), .int 0, .ref (rr 29), .ref (rr 30), .ref (rr 31), .ref (rr 32), .ref (rr 33), .int 0, .int 0, .long 0, .long 0, .int 0, .int 0, .ref (rr 40), .ref (rr 41), .ref (rr 42), .ref (rr 43), .ref (rr 44), .ref (rr 45), .int 0, .ref (rr 47), .ref (rr 48)]))])) (va_Ql (fun (r : Int64) (_ : Unit) => r = -1) (fun (_ : Unit) (_ : State) => True) (va_A [(m0, .inr (12, [.ref (rr 0), .int 0, .int 0, .ref (rr 3), .ref (rr 4), .ref (rr 5), .ref (rr 6), .ref (rr 7), .ref (rr 8), .int 0, .ref (rr 10), .ref (rr 11), .ref (rr 12), .ref (rr 13), .ref (rr 14), .ref (rr 15), .ref (rr 16), .ref (rr 17), .ref (rr 18), .ref (rr 19), .int 1, .int 0, .int 0, .ref (rr 23), .ref (rr 24), .ref (rr 25), .int 0, .ref (rr 27), .int 0, .ref (rr 29), .ref (rr 30), .ref (rr 31), .ref (rr 32), .ref (rr 33), .int 0, .int 0, .long 0, .long 0, .int 0, .int 0, .ref (rr 40), .ref (rr 41), .ref (rr 42), .ref (rr 43), .ref (rr 44), .ref (rr 45), .int 0, .ref (rr 47), .ref (rr 48)]))] sz)) 0 0 (va_A [(m0, .inr (12, [.ref (rr 0), .int 0, .int 0, .ref (rr 3), .ref (rr 4), .ref (rr 5), .ref (rr 6), .ref (rr 7), .ref (rr 8), .int 0, .ref (rr 10), .ref (rr 11), .ref (rr 12), .ref (rr 13), .ref (rr 14), .ref (rr 15), .ref (rr 16), .ref (rr 17), .ref (rr 18), .ref (rr 19), .int 1, .int 0, .int 0, .ref (rr 23), .ref (rr 24), .ref (rr 25), .int 0, .ref (rr 27), .int 0, .ref (rr 29), .ref (rr 30), .ref (rr 31), .ref (rr 32), .ref (rr 33), .int 0, .int 0, .long 0, .long 0, .int 0, .int 0, .ref (rr 40), .ref (rr 41), .ref (rr 42), .ref (rr 43), .ref (rr 44), .ref (rr 45), .int 0, .ref (rr 47), .ref (rr 48)]))] sz) := by
  refine Met.ofW (cc := cX12_part) (maxL := 9) (ret := (some .long)) (by decide) rfl ?_
  intro p e s m args below meth c s₁ B hml hv
  obtain ⟨rfl, hsz, hP, hK, hD0⟩ := hv
  have hx := B.exec
  have hb := B.bytes
  have hr := B.returns
  have hts := atoms_spec (ws := wsX12_part) B.pre
  have hown : s.vm.findClass RX12 = some m.cls := findClass_of_methodNamed B.named
  have hlocks := B.notSynchronized
  subst hsz
  have hD := hD0.self (sz := s.heap.size)
  generalize hAe : va_A [(m0, .inr (12, [.ref (rr 0), .int 0, .int 0, .ref (rr 3), .ref (rr 4), .ref (rr 5), .ref (rr 6), .ref (rr 7), .ref (rr 8), .int 0, .ref (rr 10), .ref (rr 11), .ref (rr 12), .ref (rr 13), .ref (rr 14), .ref (rr 15), .ref (rr 16), .ref (rr 17), .ref (rr 18), .ref (rr 19), .int 1, .int 0, .int 0, .ref (rr 23), .ref (rr 24), .ref (rr 25), .int 0, .ref (rr 27), .int 0, .ref (rr 29), .ref (rr 30), .ref (rr 31), .ref (rr 32), .ref (rr 33), .int 0, .int 0, .long 0, .long 0, .int 0, .int 0, .ref (rr 40), .ref (rr 41), .ref (rr 42), .ref (rr 43), .ref (rr 44), .ref (rr 45), .int 0, .ref (rr 47), .ref (rr 48)]))] s.heap.size = A at hD ⊢
  have hA : ∀ q : Nat, s.heap.size ≤ q → A q := fun q h => by rw [← hAe]; exact Or.inr h
  obtain ⟨H, hH⟩ : ∃ H : Heap, H = s.heap := ⟨_, rfl⟩
  have hS : va_S A s.heap H [] := by rw [hH]; exact va_S.rf
  rw [← hH] at hP ⊢
  have hP : va_P (dC, dI) vwCl [(m0, .inr (12, [.ref (rr 0), .int 0, .int 0, .ref (rr 3), .ref (rr 4), .ref (rr 5), .ref (rr 6), .ref (rr 7), .ref (rr 8), .int 0, .ref (rr 10), .ref (rr 11), .ref (rr 12), .ref (rr 13), .ref (rr 14), .ref (rr 15), .ref (rr 16), .ref (rr 17), .ref (rr 18), .ref (rr 19), .int 1, .int 0, .int 0, .ref (rr 23), .ref (rr 24), .ref (rr 25), .int 0, .ref (rr 27), .int 0, .ref (rr 29), .ref (rr 30), .ref (rr 31), .ref (rr 32), .ref (rr 33), .int 0, .int 0, .long 0, .long 0, .int 0, .int 0, .ref (rr 40), .ref (rr 41), .ref (rr 42), .ref (rr 43), .ref (rr 44), .ref (rr 45), .int 0, .ref (rr 47), .ref (rr 48)]))] H := hP
  have hl := lv_entry ([.ref m0, .int d0]) (n := 9) (Nat.le_of_ble_eq_true rfl)
  rw [lg_entry_eq]
  generalize (lg_sl ([.ref m0, .int d0]) ++ List.replicate (9 - (lg_sl ([.ref m0, .int d0])).length) Slot.unset).toArray = ls at hl ⊢
  have hl : lv_has ls 9 [(0, .ref m0), (1, .int d0)] := hl
  refine lv_aload_n hx hb dX12_part_0 rfl (lv_at hl 0 rfl) ?_
  refine va_get (D := (dC, dI)) (ci := 12) (v := .int 0) (C := RX12) (T := TX12) (N := 49) hx hb hts (by decide +kernel) hown hK hP 0 rfl rfl 1 (by decide) (hts (.fieldLink RX12 120 "JoinBenchModel" "taped" "I") (by decide +kernel)) (fun _ h9 => h9) rfl dX12_part_1 ?_
  refine lv_istore_n (lv' := [(2, .int 0), (0, .ref m0), (1, .int d0)]) hx hb dX12_part_4 rfl hl (by decide) rfl (fun ls hl => ?_)
  refine lv_aload_n hx hb dX12_part_5 rfl (lv_at hl 1 rfl) ?_
  have hPc := hP.sub (ws' := [(m0, .inr (12, [.ref (rr 0), .int 0, .int 0, .ref (rr 3), .ref (rr 4), .ref (rr 5), .ref (rr 6), .ref (rr 7), .ref (rr 8), .int 0, .ref (rr 10), .ref (rr 11), .ref (rr 12), .ref (rr 13), .ref (rr 14), .ref (rr 15), .ref (rr 16), .ref (rr 17), .ref (rr 18), .ref (rr 19), .int 1, .int 0, .int 0, .ref (rr 23), .ref (rr 24), .ref (rr 25), .int 0, .ref (rr 27), .int 0, .ref (rr 29), .ref (rr 30), .ref (rr 31), .ref (rr 32), .ref (rr 33), .int 0, .int 0, .long 0, .long 0, .int 0, .int 0, .ref (rr 40), .ref (rr 41), .ref (rr 42), .ref (rr 43), .ref (rr 44), .ref (rr 45), .int 0, .ref (rr 47), .ref (rr 48)]))]) [0] rfl
  have hKc := hK.sub (tys' := []) [] rfl
  refine vp_callSi (va_Run.run (va_runV (As := []) (rest := []) ⟨hx, hb, hml, hown, hts⟩ (m_isText0 l dC dI m0 rr) (cwV 0 hts gX12_part_X12_isText rfl rfl rfl (by decide +kernel) ⟨Nat.le_of_ble_eq_true rfl, Nat.le_of_ble_eq_true rfl⟩) ⟨fun a U g mk q => by obtain ⟨q0, qP, qK⟩ := q; exact ⟨q0, qP, va_K.moved (u := U) (U := U.calling g mk a) (Vm.Alike.refl U.vm) qK⟩, va_recv hKc hPc (ci := 12) (q0 := 0) rfl rfl, fun U hU hW => ⟨rfl, by rw [hU]; exact hPc, va_K.moved hW.alike hKc⟩⟩ rfl rfl hl.1 rfl (lv_room (Nat.le_of_ble_eq_true rfl)) dX12_part_6 ⟨Nat.le_of_ble_eq_true rfl, Nat.le_of_ble_eq_true rfl⟩)) (fun r_2 hw_1 => ?_)
  obtain rfl : r_2 = 1 := hw_1
  refine lv_if_eq (tgt := 33) hx hb dX12_part_9 (by decide) (fun c_3 => ?_) (fun c_3 => ?_)
  · exact absurd c_3 (by decide)
  refine lv_iload_n hx hb dX12_part_12 rfl (lv_at hl 0 rfl) ?_
  refine lv_iconst (v := 1) hx hb dX12_part_13 (by decide) ?_
  refine lv_bipush (v := 40) hx hb dX12_part_14 (by decide) ?_
  have hPc := hP.sub (ws' := []) [] rfl
  have hKc := hK.sub (tys' := []) [] rfl
  refine vp_callSi (va_Run.run (va_runS (As := [.int 0, .int 1, .int 40]) (rest := []) ⟨hx, hb, hml, hown, hts⟩ (m_in l dC dI 0 1 40) (va_cwS 3 hts gX12_part_X12_in rfl rfl rfl (by decide +kernel) ⟨Nat.le_of_ble_eq_true rfl, Nat.le_of_ble_eq_true rfl⟩) ⟨fun a U g mk q => by obtain ⟨q0, qP, qK⟩ := q; exact ⟨q0, qP, va_K.moved (u := U) (U := U.calling g mk a) (Vm.Alike.refl U.vm) qK⟩, fun U hU hW => ⟨rfl, by rw [hU]; exact hPc, va_K.moved hW.alike hKc⟩⟩ rfl rfl hl.1 rfl (lv_room (Nat.le_of_ble_eq_true rfl)) dX12_part_16 ⟨Nat.le_of_ble_eq_true rfl, Nat.le_of_ble_eq_true rfl⟩)) (fun r_5 hw_4 => ?_)
  rcases hw_4 with ⟨rfl, hw_4⟩ | ⟨rfl, hw_4⟩
  · exact absurd hw_4 (show ¬ inR 0 1 40 from fun q => absurd q (by unfold inR; decide))
  refine lv_if_eq (tgt := 33) hx hb dX12_part_19 (by decide) (fun c_6 => ?_) (fun c_6 => ?_)
  rotate_left
  · exact absurd (by decide) c_6
  refine lv_iconst (v := 0) hx hb dX12_part_33 (by decide) ?_
  refine lv_istore_n (lv' := [(3, .int 0), (2, .int 0), (0, .ref m0), (1, .int d0)]) hx hb dX12_part_34 rfl hl (by decide) rfl (fun ls hl => ?_)
  refine lv_aload_n hx hb dX12_part_35 rfl (lv_at hl 2 rfl) ?_
  refine lv_iconst (v := 0) hx hb dX12_part_36 (by decide) ?_
  refine va_put (D := (dC, dI)) (ci := 12) (v := .int 0) (ty := .int) (C := RX12) (T := TX12) (N := 49) hx hb hts (by decide +kernel) tyX12 tyX12_ok nmX12 hown hK hP hD hS 0 rfl rfl 1 (by decide) (hts (.fieldLink RX12 120 "JoinBenchModel" "taped" "I") (by decide +kernel)) (fun _ h9 => h9) rfl (by decide +kernel) rfl rfl (Nat.le_of_ble_eq_true rfl) dX12_part_37 (fun H locs hP hD hS => ?_)
  have hP : va_P (dC, dI) vwCl [(m0, .inr (12, [.ref (rr 0), .int 0, .int 0, .ref (rr 3), .ref (rr 4), .ref (rr 5), .ref (rr 6), .ref (rr 7), .ref (rr 8), .int 0, .ref (rr 10), .ref (rr 11), .ref (rr 12), .ref (rr 13), .ref (rr 14), .ref (rr 15), .ref (rr 16), .ref (rr 17), .ref (rr 18), .ref (rr 19), .int 1, .int 0, .int 0, .ref (rr 23), .ref (rr 24), .ref (rr 25), .int 0, .ref (rr 27), .int 0, .ref (rr 29), .ref (rr 30), .ref (rr 31), .ref (rr 32), .ref (rr 33), .int 0, .int 0, .long 0, .long 0, .int 0, .int 0, .ref (rr 40), .ref (rr 41), .ref (rr 42), .ref (rr 43), .ref (rr 44), .ref (rr 45), .int 0, .ref (rr 47), .ref (rr 48)]))] H := hP
  have hD : va_D A [(m0, .inr (12, [.ref (rr 0), .int 0, .int 0, .ref (rr 3), .ref (rr 4), .ref (rr 5), .ref (rr 6), .ref (rr 7), .ref (rr 8), .int 0, .ref (rr 10), .ref (rr 11), .ref (rr 12), .ref (rr 13), .ref (rr 14), .ref (rr 15), .ref (rr 16), .ref (rr 17), .ref (rr 18), .ref (rr 19), .int 1, .int 0, .int 0, .ref (rr 23), .ref (rr 24), .ref (rr 25), .int 0, .ref (rr 27), .int 0, .ref (rr 29), .ref (rr 30), .ref (rr 31), .ref (rr 32), .ref (rr 33), .int 0, .int 0, .long 0, .long 0, .int 0, .int 0, .ref (rr 40), .ref (rr 41), .ref (rr 42), .ref (rr 43), .ref (rr 44), .ref (rr 45), .int 0, .ref (rr 47), .ref (rr 48)]))] := hD
  refine lv_iload_n hx hb dX12_part_40 rfl (lv_at hl 0 rfl) ?_
  refine lv_if_ne (tgt := 48) hx hb dX12_part_41 (by decide) (fun c_7 => ?_) (fun c_7 => ?_)
  · exact absurd (by decide) c_7
  refine lv_ldc2 (own := RX12) (v := (-1)) hx hb hown (hts (.constantLong RX12 221 (-1)) (by decide +kernel)) dX12_part_44 ?_
  refine W.widen (k := 0) (n := 0) (Nat.le_of_ble_eq_true rfl) (Nat.le_of_ble_eq_true rfl) ?_
  exact W.lret (v := (-1)) hx hb hr (fun t ht hW => ⟨⟨(-1), (), rfl, rfl, trivial⟩, hS.F ht⟩) hS.2.2 dX12_part_47
set_option maxHeartbeats 4000000 in
set_option maxRecDepth 100000 in
/-- X12_parted -/
theorem m_parted0 (l : Launch) (dC : Nat → ClassId) (dI : Nat → Nat → Nat) (m0 : Nat) (rr : Nat → Nat) (w0 : Int32) : Met l yX12_parted wsX12_parted ({ frames := 0, cells := 0, slots := 0, locals := 0 }) (va_Pc [.ref m0, .int w0] (fun U => va_P (dC, dI) vwCl [(m0, .inr (12, [.ref (rr 0), .int 0, .int 0, .ref (rr 3), .ref (rr 4), .ref (rr 5), .ref (rr 6), .ref (rr 7), .ref (rr 8), .int 0, .ref (rr 10), .ref (rr 11), .ref (rr 12), .ref (rr 13), .ref (rr 14), .ref (rr 15), .ref (rr 16), .ref (rr 17), .ref (rr 18), .ref (rr 19), .int 1, .int 0, .int 0, .ref (rr 23), .ref (rr 24), .ref (rr 25), .int 0, .ref (rr 27), .int 0, .ref (rr 29), .ref (rr 30), .ref (rr 31), .ref (rr 32), .ref (rr 33), .int 0, .int 0, .long 0, .long 0, .int 0, .int 0, .ref (rr 40), .ref (rr 41), .ref (rr 42), .ref (rr 43), .ref (rr 44), .ref (rr 45), .int 0, .ref (rr 47), .ref (rr 48)]))] U.heap ∧ va_K (dC, dI) vwCl [] U)) (vp_Sl (fun r => r = -1)) 0 0 (fun _ => False) := by
  refine Met.ofW (cc := cX12_parted) (maxL := 2) (ret := (some .long)) (by decide) rfl ?_
  intro p e s m args below meth c s₁ B hml hv
  obtain ⟨rfl, hP, hK⟩ := hv
  have hx := B.exec
  have hb := B.bytes
  have hr := B.returns
  have hts := atoms_spec (ws := wsX12_parted) B.pre
  have hown : s.vm.findClass RX12 = some m.cls := findClass_of_methodNamed B.named
  have hlocks := B.notSynchronized
  have hP : va_P (dC, dI) vwCl [(m0, .inr (12, [.ref (rr 0), .int 0, .int 0, .ref (rr 3), .ref (rr 4), .ref (rr 5), .ref (rr 6), .ref (rr 7), .ref (rr 8), .int 0, .ref (rr 10), .ref (rr 11), .ref (rr 12), .ref (rr 13), .ref (rr 14), .ref (rr 15), .ref (rr 16), .ref (rr 17), .ref (rr 18), .ref (rr 19), .int 1, .int 0, .int 0, .ref (rr 23), .ref (rr 24), .ref (rr 25), .int 0, .ref (rr 27), .int 0, .ref (rr 29), .ref (rr 30), .ref (rr 31), .ref (rr 32), .ref (rr 33), .int 0, .int 0, .long 0, .long 0, .int 0, .int 0, .ref (rr 40), .ref (rr 41), .ref (rr 42), .ref (rr 43), .ref (rr 44), .ref (rr 45), .int 0, .ref (rr 47), .ref (rr 48)]))] s.heap := hP
  have hl := lv_entry ([.ref m0, .int w0]) (n := 2) (Nat.le_of_ble_eq_true rfl)
  rw [lg_entry_eq]
  generalize (lg_sl ([.ref m0, .int w0]) ++ List.replicate (2 - (lg_sl ([.ref m0, .int w0])).length) Slot.unset).toArray = ls at hl ⊢
  have hl : lv_has ls 2 [(0, .ref m0), (1, .int w0)] := hl
  refine lv_aload_n hx hb dX12_parted_0 rfl (lv_at hl 0 rfl) ?_
  refine va_get (D := (dC, dI)) (ci := 12) (v := .int 0) (C := RX12) (T := TX12) (N := 49) hx hb hts (by decide +kernel) hown hK hP 0 rfl rfl 35 (by decide) (hts (.fieldLink RX12 223 "JoinBenchModel" "hasParted" "Z") (by decide +kernel)) (fun _ h9 => h9) rfl dX12_parted_1 ?_
  refine lv_if_ne (tgt := 11) hx hb dX12_parted_4 (by decide) (fun c_1 => ?_) (fun c_1 => ?_)
  · exact absurd (by decide) c_1
  refine lv_ldc2 (own := RX12) (v := (-1)) hx hb hown (hts (.constantLong RX12 221 (-1)) (by decide +kernel)) dX12_parted_7 ?_
  exact W.lret (v := (-1)) hx hb hr (fun t ht hW => ⟨(-1), rfl, rfl, ht⟩) (fun q h => absurd h List.not_mem_nil) dX12_parted_10
set_option maxHeartbeats 4000000 in
set_option maxRecDepth 100000 in
/-- X12_isTold -/
theorem m_isTold0 (l : Launch) (dC : Nat → ClassId) (dI : Nat → Nat → Nat) (m0 : Nat) (rr : Nat → Nat) (k0 : Int32) : Met l yX12_isTold wsX12_isTold ({ frames := 0, cells := 0, slots := 0, locals := 0 }) (va_Pc [.ref m0, .int k0] (fun U => va_P (dC, dI) vwCl [(m0, .inr (12, [.ref (rr 0), .int 0, .int 0, .ref (rr 3), .ref (rr 4), .ref (rr 5), .ref (rr 6), .ref (rr 7), .ref (rr 8), .int 0, .ref (rr 10), .ref (rr 11), .ref (rr 12), .ref (rr 13), .ref (rr 14), .ref (rr 15), .ref (rr 16), .ref (rr 17), .ref (rr 18), .ref (rr 19), .int 1, .int 0, .int 0, .ref (rr 23), .ref (rr 24), .ref (rr 25), .int 0, .ref (rr 27), .int 0, .ref (rr 29), .ref (rr 30), .ref (rr 31), .ref (rr 32), .ref (rr 33), .int 0, .int 0, .long 0, .long 0, .int 0, .int 0, .ref (rr 40), .ref (rr 41), .ref (rr 42), .ref (rr 43), .ref (rr 44), .ref (rr 45), .int 0, .ref (rr 47), .ref (rr 48)]))] U.heap ∧ va_K (dC, dI) vwCl [] U)) (vp_Si (fun r => r = 0)) 0 0 (fun _ => False) := by
  refine Met.ofW (cc := cX12_isTold) (maxL := 2) (ret := (some .boolean)) (by decide) rfl ?_
  intro p e s m args below meth c s₁ B hml hv
  obtain ⟨rfl, hP, hK⟩ := hv
  have hx := B.exec
  have hb := B.bytes
  have hr := B.returns
  have hts := atoms_spec (ws := wsX12_isTold) B.pre
  have hown : s.vm.findClass RX12 = some m.cls := findClass_of_methodNamed B.named
  have hlocks := B.notSynchronized
  have hP : va_P (dC, dI) vwCl [(m0, .inr (12, [.ref (rr 0), .int 0, .int 0, .ref (rr 3), .ref (rr 4), .ref (rr 5), .ref (rr 6), .ref (rr 7), .ref (rr 8), .int 0, .ref (rr 10), .ref (rr 11), .ref (rr 12), .ref (rr 13), .ref (rr 14), .ref (rr 15), .ref (rr 16), .ref (rr 17), .ref (rr 18), .ref (rr 19), .int 1, .int 0, .int 0, .ref (rr 23), .ref (rr 24), .ref (rr 25), .int 0, .ref (rr 27), .int 0, .ref (rr 29), .ref (rr 30), .ref (rr 31), .ref (rr 32), .ref (rr 33), .int 0, .int 0, .long 0, .long 0, .int 0, .int 0, .ref (rr 40), .ref (rr 41), .ref (rr 42), .ref (rr 43), .ref (rr 44), .ref (rr 45), .int 0, .ref (rr 47), .ref (rr 48)]))] s.heap := hP
  have hl := lv_entry ([.ref m0, .int k0]) (n := 2) (Nat.le_of_ble_eq_true rfl)
  rw [lg_entry_eq]
  generalize (lg_sl ([.ref m0, .int k0]) ++ List.replicate (2 - (lg_sl ([.ref m0, .int k0])).length) Slot.unset).toArray = ls at hl ⊢
  have hl : lv_has ls 2 [(0, .ref m0), (1, .int k0)] := hl
  refine lv_aload_n hx hb dX12_isTold_0 rfl (lv_at hl 0 rfl) ?_
  refine va_get (D := (dC, dI)) (ci := 12) (v := .int 0) (C := RX12) (T := TX12) (N := 49) hx hb hts (by decide +kernel) hown hK hP 0 rfl rfl 35 (by decide) (hts (.fieldLink RX12 223 "JoinBenchModel" "hasParted" "Z") (by decide +kernel)) (fun _ h9 => h9) rfl dX12_isTold_1 ?_
  refine lv_if_eq (tgt := 25) hx hb dX12_isTold_4 (by decide) (fun c_1 => ?_) (fun c_1 => ?_)
  rotate_left
  · exact absurd (by decide) c_1
  refine lv_iconst (v := 0) hx hb dX12_isTold_25 (by decide) ?_
  exact W.zret (v := 0) hx hb hr rfl (fun t ht hW => ⟨0, rfl, rfl, ht⟩) (fun q h => absurd h List.not_mem_nil) dX12_isTold_26
set_option maxHeartbeats 4000000 in
set_option maxRecDepth 100000 in
/-- X12_parting -/
theorem m_parting0 (l : Launch) (dC : Nat → ClassId) (dI : Nat → Nat → Nat) (m0 : Nat) (rr : Nat → Nat) (k0 : Int32) (w0 : Int32) : Met l yX12_parting wsX12_parting ({ frames := 1, cells := 0, slots := 0, locals := 21 }) (va_Pc [.ref m0, .int k0, .int w0] (fun U => va_P (dC, dI) vwCl [(m0, .inr (12, [.ref (rr 0), .int 0, .int 0, .ref (rr 3), .ref (rr 4), .ref (rr 5), .ref (rr 6), .ref (rr 7), .ref (rr 8), .int 0, .ref (rr 10), .ref (rr 11), .ref (rr 12), .ref (rr 13), .ref (rr 14), .ref (rr 15), .ref (rr 16), .ref (rr 17), .ref (rr 18), .ref (rr 19), .int 1, .int 0, .int 0, .ref (rr 23), .ref (rr 24), .ref (rr 25), .int 0, .ref (rr 27), .int 0, .ref (rr 29), .ref (rr 30), .ref (rr 31), .ref (rr 32), .ref (rr 33), .int 0, .int 0, .long 0, .long 0, .int 0, .int 0, .ref (rr 40), .ref (rr 41), .ref (rr 42), .ref (rr 43), .ref (rr 44), .ref (rr 45), .int 0, .ref (rr 47), .ref (rr 48)]))] U.heap ∧ va_K (dC, dI) vwCl [] U)) (vp_Si (fun r => r = -1)) 0 0 (fun _ => False) := by
  refine Met.ofW (cc := cX12_parting) (maxL := 3) (ret := (some .int)) (by decide) rfl ?_
  intro p e s m args below meth c s₁ B hml hv
  obtain ⟨rfl, hP, hK⟩ := hv
  have hx := B.exec
  have hb := B.bytes
  have hr := B.returns
  have hts := atoms_spec (ws := wsX12_parting) B.pre
  have hown : s.vm.findClass RX12 = some m.cls := findClass_of_methodNamed B.named
  have hlocks := B.notSynchronized
  have hP : va_P (dC, dI) vwCl [(m0, .inr (12, [.ref (rr 0), .int 0, .int 0, .ref (rr 3), .ref (rr 4), .ref (rr 5), .ref (rr 6), .ref (rr 7), .ref (rr 8), .int 0, .ref (rr 10), .ref (rr 11), .ref (rr 12), .ref (rr 13), .ref (rr 14), .ref (rr 15), .ref (rr 16), .ref (rr 17), .ref (rr 18), .ref (rr 19), .int 1, .int 0, .int 0, .ref (rr 23), .ref (rr 24), .ref (rr 25), .int 0, .ref (rr 27), .int 0, .ref (rr 29), .ref (rr 30), .ref (rr 31), .ref (rr 32), .ref (rr 33), .int 0, .int 0, .long 0, .long 0, .int 0, .int 0, .ref (rr 40), .ref (rr 41), .ref (rr 42), .ref (rr 43), .ref (rr 44), .ref (rr 45), .int 0, .ref (rr 47), .ref (rr 48)]))] s.heap := hP
  have hl := lv_entry ([.ref m0, .int k0, .int w0]) (n := 3) (Nat.le_of_ble_eq_true rfl)
  rw [lg_entry_eq]
  generalize (lg_sl ([.ref m0, .int k0, .int w0]) ++ List.replicate (3 - (lg_sl ([.ref m0, .int k0, .int w0])).length) Slot.unset).toArray = ls at hl ⊢
  have hl : lv_has ls 3 [(0, .ref m0), (1, .int k0), (2, .int w0)] := hl
  refine lv_aload_n hx hb dX12_parting_0 rfl (lv_at hl 0 rfl) ?_
  refine lv_iload_n hx hb dX12_parting_1 rfl (lv_at hl 1 rfl) ?_
  have hPc := hP.sub (ws' := [(m0, .inr (12, [.ref (rr 0), .int 0, .int 0, .ref (rr 3), .ref (rr 4), .ref (rr 5), .ref (rr 6), .ref (rr 7), .ref (rr 8), .int 0, .ref (rr 10), .ref (rr 11), .ref (rr 12), .ref (rr 13), .ref (rr 14), .ref (rr 15), .ref (rr 16), .ref (rr 17), .ref (rr 18), .ref (rr 19), .int 1, .int 0, .int 0, .ref (rr 23), .ref (rr 24), .ref (rr 25), .int 0, .ref (rr 27), .int 0, .ref (rr 29), .ref (rr 30), .ref (rr 31), .ref (rr 32), .ref (rr 33), .int 0, .int 0, .long 0, .long 0, .int 0, .int 0, .ref (rr 40), .ref (rr 41), .ref (rr 42), .ref (rr 43), .ref (rr 44), .ref (rr 45), .int 0, .ref (rr 47), .ref (rr 48)]))]) [0] rfl
  have hKc := hK.sub (tys' := []) [] rfl
  refine vp_callSi (va_Run.run (va_runV (As := [.int k0]) (rest := []) ⟨hx, hb, hml, hown, hts⟩ (m_isTold0 l dC dI m0 rr k0) (cwV 1 hts gX12_parting_X12_isTold rfl rfl rfl (by decide +kernel) ⟨Nat.le_of_ble_eq_true rfl, Nat.le_of_ble_eq_true rfl⟩) ⟨fun a U g mk q => by obtain ⟨q0, qP, qK⟩ := q; exact ⟨q0, qP, va_K.moved (u := U) (U := U.calling g mk a) (Vm.Alike.refl U.vm) qK⟩, va_recv hKc hPc (ci := 12) (q0 := 0) rfl rfl, fun U hU hW => ⟨rfl, by rw [hU]; exact hPc, va_K.moved hW.alike hKc⟩⟩ rfl rfl hl.1 rfl (lv_room (Nat.le_of_ble_eq_true rfl)) dX12_parting_2 ⟨Nat.le_of_ble_eq_true rfl, Nat.le_of_ble_eq_true rfl⟩)) (fun r_2 hw_1 => ?_)
  obtain rfl : r_2 = 0 := hw_1
  refine lv_if_ne (tgt := 10) hx hb dX12_parting_5 (by decide) (fun c_3 => ?_) (fun c_3 => ?_)
  · exact absurd (by decide) c_3
  refine lv_iconst (v := (-1)) hx hb dX12_parting_8 (by decide) ?_
  exact W.iret (v := (-1)) hx hb hr (fun t ht hW => ⟨(-1), rfl, rfl, ht⟩) (fun q h => absurd h List.not_mem_nil) dX12_parting_9
set_option maxHeartbeats 4000000 in
set_option maxRecDepth 100000 in
/-- X12_formOf -/
theorem m_formOf0 (l : Launch) (dC : Nat → ClassId) (dI : Nat → Nat → Nat) (m0 : Nat) (rr : Nat → Nat) (k0 : Int32) (w0 : Int32) : Met l yX12_formOf wsX12_formOf ({ frames := 1, cells := 0, slots := 0, locals := 21 }) (va_Pc [.ref m0, .int k0, .int w0] (fun U => va_P (dC, dI) vwCl [(m0, .inr (12, [.ref (rr 0), .int 0, .int 0, .ref (rr 3), .ref (rr 4), .ref (rr 5), .ref (rr 6), .ref (rr 7), .ref (rr 8), .int 0, .ref (rr 10), .ref (rr 11), .ref (rr 12), .ref (rr 13), .ref (rr 14), .ref (rr 15), .ref (rr 16), .ref (rr 17), .ref (rr 18), .ref (rr 19), .int 1, .int 0, .int 0, .ref (rr 23), .ref (rr 24), .ref (rr 25), .int 0, .ref (rr 27), .int 0, .ref (rr 29), .ref (rr 30), .ref (rr 31), .ref (rr 32), .ref (rr 33), .int 0, .int 0, .long 0, .long 0, .int 0, .int 0, .ref (rr 40), .ref (rr 41), .ref (rr 42), .ref (rr 43), .ref (rr 44), .ref (rr 45), .int 0, .ref (rr 47), .ref (rr 48)]))] U.heap ∧ va_K (dC, dI) vwCl [] U)) (vp_Si (fun r => r = -1)) 0 0 (fun _ => False) := by
  refine Met.ofW (cc := cX12_formOf) (maxL := 3) (ret := (some .int)) (by decide) rfl ?_
  intro p e s m args below meth c s₁ B hml hv
  obtain ⟨rfl, hP, hK⟩ := hv
  have hx := B.exec
  have hb := B.bytes
  have hr := B.returns
  have hts := atoms_spec (ws := wsX12_formOf) B.pre
  have hown : s.vm.findClass RX12 = some m.cls := findClass_of_methodNamed B.named
  have hlocks := B.notSynchronized
  have hP : va_P (dC, dI) vwCl [(m0, .inr (12, [.ref (rr 0), .int 0, .int 0, .ref (rr 3), .ref (rr 4), .ref (rr 5), .ref (rr 6), .ref (rr 7), .ref (rr 8), .int 0, .ref (rr 10), .ref (rr 11), .ref (rr 12), .ref (rr 13), .ref (rr 14), .ref (rr 15), .ref (rr 16), .ref (rr 17), .ref (rr 18), .ref (rr 19), .int 1, .int 0, .int 0, .ref (rr 23), .ref (rr 24), .ref (rr 25), .int 0, .ref (rr 27), .int 0, .ref (rr 29), .ref (rr 30), .ref (rr 31), .ref (rr 32), .ref (rr 33), .int 0, .int 0, .long 0, .long 0, .int 0, .int 0, .ref (rr 40), .ref (rr 41), .ref (rr 42), .ref (rr 43), .ref (rr 44), .ref (rr 45), .int 0, .ref (rr 47), .ref (rr 48)]))] s.heap := hP
  have hl := lv_entry ([.ref m0, .int k0, .int w0]) (n := 3) (Nat.le_of_ble_eq_true rfl)
  rw [lg_entry_eq]
  generalize (lg_sl ([.ref m0, .int k0, .int w0]) ++ List.replicate (3 - (lg_sl ([.ref m0, .int k0, .int w0])).length) Slot.unset).toArray = ls at hl ⊢
  have hl : lv_has ls 3 [(0, .ref m0), (1, .int k0), (2, .int w0)] := hl
  refine lv_aload_n hx hb dX12_formOf_0 rfl (lv_at hl 0 rfl) ?_
  refine lv_iload_n hx hb dX12_formOf_1 rfl (lv_at hl 1 rfl) ?_
  have hPc := hP.sub (ws' := [(m0, .inr (12, [.ref (rr 0), .int 0, .int 0, .ref (rr 3), .ref (rr 4), .ref (rr 5), .ref (rr 6), .ref (rr 7), .ref (rr 8), .int 0, .ref (rr 10), .ref (rr 11), .ref (rr 12), .ref (rr 13), .ref (rr 14), .ref (rr 15), .ref (rr 16), .ref (rr 17), .ref (rr 18), .ref (rr 19), .int 1, .int 0, .int 0, .ref (rr 23), .ref (rr 24), .ref (rr 25), .int 0, .ref (rr 27), .int 0, .ref (rr 29), .ref (rr 30), .ref (rr 31), .ref (rr 32), .ref (rr 33), .int 0, .int 0, .long 0, .long 0, .int 0, .int 0, .ref (rr 40), .ref (rr 41), .ref (rr 42), .ref (rr 43), .ref (rr 44), .ref (rr 45), .int 0, .ref (rr 47), .ref (rr 48)]))]) [0] rfl
  have hKc := hK.sub (tys' := []) [] rfl
  refine vp_callSi (va_Run.run (va_runV (As := [.int k0]) (rest := []) ⟨hx, hb, hml, hown, hts⟩ (m_isTold0 l dC dI m0 rr k0) (cwV 1 hts gX12_formOf_X12_isTold rfl rfl rfl (by decide +kernel) ⟨Nat.le_of_ble_eq_true rfl, Nat.le_of_ble_eq_true rfl⟩) ⟨fun a U g mk q => by obtain ⟨q0, qP, qK⟩ := q; exact ⟨q0, qP, va_K.moved (u := U) (U := U.calling g mk a) (Vm.Alike.refl U.vm) qK⟩, va_recv hKc hPc (ci := 12) (q0 := 0) rfl rfl, fun U hU hW => ⟨rfl, by rw [hU]; exact hPc, va_K.moved hW.alike hKc⟩⟩ rfl rfl hl.1 rfl (lv_room (Nat.le_of_ble_eq_true rfl)) dX12_formOf_2 ⟨Nat.le_of_ble_eq_true rfl, Nat.le_of_ble_eq_true rfl⟩)) (fun r_2 hw_1 => ?_)
  obtain rfl : r_2 = 0 := hw_1
  refine lv_if_eq (tgt := 38) hx hb dX12_formOf_5 (by decide) (fun c_3 => ?_) (fun c_3 => ?_)
  rotate_left
  · exact absurd (by decide) c_3
  refine lv_iconst (v := (-1)) hx hb dX12_formOf_38 (by decide) ?_
  exact W.iret (v := (-1)) hx hb hr (fun t ht hW => ⟨(-1), rfl, rfl, ht⟩) (fun q h => absurd h List.not_mem_nil) dX12_formOf_39
set_option maxHeartbeats 4000000 in
set_option maxRecDepth 100000 in
/-- X12_ruleOf -/
theorem m_ruleOf0 (l : Launch) (dC : Nat → ClassId) (dI : Nat → Nat → Nat) (m0 : Nat) (rr : Nat → Nat) (k0 : Int32) (w0 : Int32) : Met l yX12_ruleOf wsX12_ruleOf ({ frames := 1, cells := 0, slots := 0, locals := 21 }) (va_Pc [.ref m0, .int k0, .int w0] (fun U => va_P (dC, dI) vwCl [(m0, .inr (12, [.ref (rr 0), .int 0, .int 0, .ref (rr 3), .ref (rr 4), .ref (rr 5), .ref (rr 6), .ref (rr 7), .ref (rr 8), .int 0, .ref (rr 10), .ref (rr 11), .ref (rr 12), .ref (rr 13), .ref (rr 14), .ref (rr 15), .ref (rr 16), .ref (rr 17), .ref (rr 18), .ref (rr 19), .int 1, .int 0, .int 0, .ref (rr 23), .ref (rr 24), .ref (rr 25), .int 0, .ref (rr 27), .int 0, .ref (rr 29), .ref (rr 30), .ref (rr 31), .ref (rr 32), .ref (rr 33), .int 0, .int 0, .long 0, .long 0, .int 0, .int 0, .ref (rr 40), .ref (rr 41), .ref (rr 42), .ref (rr 43), .ref (rr 44), .ref (rr 45), .int 0, .ref (rr 47), .ref (rr 48)]))] U.heap ∧ va_K (dC, dI) vwCl [] U)) (vp_Si (fun r => r = -1)) 0 0 (fun _ => False) := by
  refine Met.ofW (cc := cX12_ruleOf) (maxL := 3) (ret := (some .int)) (by decide) rfl ?_
  intro p e s m args below meth c s₁ B hml hv
  obtain ⟨rfl, hP, hK⟩ := hv
  have hx := B.exec
  have hb := B.bytes
  have hr := B.returns
  have hts := atoms_spec (ws := wsX12_ruleOf) B.pre
  have hown : s.vm.findClass RX12 = some m.cls := findClass_of_methodNamed B.named
  have hlocks := B.notSynchronized
  have hP : va_P (dC, dI) vwCl [(m0, .inr (12, [.ref (rr 0), .int 0, .int 0, .ref (rr 3), .ref (rr 4), .ref (rr 5), .ref (rr 6), .ref (rr 7), .ref (rr 8), .int 0, .ref (rr 10), .ref (rr 11), .ref (rr 12), .ref (rr 13), .ref (rr 14), .ref (rr 15), .ref (rr 16), .ref (rr 17), .ref (rr 18), .ref (rr 19), .int 1, .int 0, .int 0, .ref (rr 23), .ref (rr 24), .ref (rr 25), .int 0, .ref (rr 27), .int 0, .ref (rr 29), .ref (rr 30), .ref (rr 31), .ref (rr 32), .ref (rr 33), .int 0, .int 0, .long 0, .long 0, .int 0, .int 0, .ref (rr 40), .ref (rr 41), .ref (rr 42), .ref (rr 43), .ref (rr 44), .ref (rr 45), .int 0, .ref (rr 47), .ref (rr 48)]))] s.heap := hP
  have hl := lv_entry ([.ref m0, .int k0, .int w0]) (n := 3) (Nat.le_of_ble_eq_true rfl)
  rw [lg_entry_eq]
  generalize (lg_sl ([.ref m0, .int k0, .int w0]) ++ List.replicate (3 - (lg_sl ([.ref m0, .int k0, .int w0])).length) Slot.unset).toArray = ls at hl ⊢
  have hl : lv_has ls 3 [(0, .ref m0), (1, .int k0), (2, .int w0)] := hl
  refine lv_aload_n hx hb dX12_ruleOf_0 rfl (lv_at hl 0 rfl) ?_
  refine lv_iload_n hx hb dX12_ruleOf_1 rfl (lv_at hl 1 rfl) ?_
  have hPc := hP.sub (ws' := [(m0, .inr (12, [.ref (rr 0), .int 0, .int 0, .ref (rr 3), .ref (rr 4), .ref (rr 5), .ref (rr 6), .ref (rr 7), .ref (rr 8), .int 0, .ref (rr 10), .ref (rr 11), .ref (rr 12), .ref (rr 13), .ref (rr 14), .ref (rr 15), .ref (rr 16), .ref (rr 17), .ref (rr 18), .ref (rr 19), .int 1, .int 0, .int 0, .ref (rr 23), .ref (rr 24), .ref (rr 25), .int 0, .ref (rr 27), .int 0, .ref (rr 29), .ref (rr 30), .ref (rr 31), .ref (rr 32), .ref (rr 33), .int 0, .int 0, .long 0, .long 0, .int 0, .int 0, .ref (rr 40), .ref (rr 41), .ref (rr 42), .ref (rr 43), .ref (rr 44), .ref (rr 45), .int 0, .ref (rr 47), .ref (rr 48)]))]) [0] rfl
  have hKc := hK.sub (tys' := []) [] rfl
  refine vp_callSi (va_Run.run (va_runV (As := [.int k0]) (rest := []) ⟨hx, hb, hml, hown, hts⟩ (m_isTold0 l dC dI m0 rr k0) (cwV 1 hts gX12_ruleOf_X12_isTold rfl rfl rfl (by decide +kernel) ⟨Nat.le_of_ble_eq_true rfl, Nat.le_of_ble_eq_true rfl⟩) ⟨fun a U g mk q => by obtain ⟨q0, qP, qK⟩ := q; exact ⟨q0, qP, va_K.moved (u := U) (U := U.calling g mk a) (Vm.Alike.refl U.vm) qK⟩, va_recv hKc hPc (ci := 12) (q0 := 0) rfl rfl, fun U hU hW => ⟨rfl, by rw [hU]; exact hPc, va_K.moved hW.alike hKc⟩⟩ rfl rfl hl.1 rfl (lv_room (Nat.le_of_ble_eq_true rfl)) dX12_ruleOf_2 ⟨Nat.le_of_ble_eq_true rfl, Nat.le_of_ble_eq_true rfl⟩)) (fun r_2 hw_1 => ?_)
  obtain rfl : r_2 = 0 := hw_1
  refine lv_if_eq (tgt := 38) hx hb dX12_ruleOf_5 (by decide) (fun c_3 => ?_) (fun c_3 => ?_)
  rotate_left
  · exact absurd (by decide) c_3
  refine lv_iconst (v := (-1)) hx hb dX12_ruleOf_38 (by decide) ?_
  exact W.iret (v := (-1)) hx hb hr (fun t ht hW => ⟨(-1), rfl, rfl, ht⟩) (fun q h => absurd h List.not_mem_nil) dX12_ruleOf_39
set_option maxHeartbeats 4000000 in
set_option maxRecDepth 100000 in
/-- X12_trees -/
theorem m_trees0 (l : Launch) (dC : Nat → ClassId) (dI : Nat → Nat → Nat) (m0 : Nat) (rr : Nat → Nat) (k0 : Int32) (w0 : Int32) : Met l yX12_trees wsX12_trees ({ frames := 1, cells := 0, slots := 0, locals := 21 }) (va_Pc [.ref m0, .int k0, .int w0] (fun U => va_P (dC, dI) vwCl [(m0, .inr (12, [.ref (rr 0), .int 0, .int 0, .ref (rr 3), .ref (rr 4), .ref (rr 5), .ref (rr 6), .ref (rr 7), .ref (rr 8), .int 0, .ref (rr 10), .ref (rr 11), .ref (rr 12), .ref (rr 13), .ref (rr 14), .ref (rr 15), .ref (rr 16), .ref (rr 17), .ref (rr 18), .ref (rr 19), .int 1, .int 0, .int 0, .ref (rr 23), .ref (rr 24), .ref (rr 25), .int 0, .ref (rr 27), .int 0, .ref (rr 29), .ref (rr 30), .ref (rr 31), .ref (rr 32), .ref (rr 33), .int 0, .int 0, .long 0, .long 0, .int 0, .int 0, .ref (rr 40), .ref (rr 41), .ref (rr 42), .ref (rr 43), .ref (rr 44), .ref (rr 45), .int 0, .ref (rr 47), .ref (rr 48)]))] U.heap ∧ va_K (dC, dI) vwCl [] U)) (vp_Sl (fun r => r = -1)) 0 0 (fun _ => False) := by
  refine Met.ofW (cc := cX12_trees) (maxL := 10) (ret := (some .long)) (by decide) rfl ?_
  intro p e s m args below meth c s₁ B hml hv
  obtain ⟨rfl, hP, hK⟩ := hv
  have hx := B.exec
  have hb := B.bytes
  have hr := B.returns
  have hts := atoms_spec (ws := wsX12_trees) B.pre
  have hown : s.vm.findClass RX12 = some m.cls := findClass_of_methodNamed B.named
  have hlocks := B.notSynchronized
  have hP : va_P (dC, dI) vwCl [(m0, .inr (12, [.ref (rr 0), .int 0, .int 0, .ref (rr 3), .ref (rr 4), .ref (rr 5), .ref (rr 6), .ref (rr 7), .ref (rr 8), .int 0, .ref (rr 10), .ref (rr 11), .ref (rr 12), .ref (rr 13), .ref (rr 14), .ref (rr 15), .ref (rr 16), .ref (rr 17), .ref (rr 18), .ref (rr 19), .int 1, .int 0, .int 0, .ref (rr 23), .ref (rr 24), .ref (rr 25), .int 0, .ref (rr 27), .int 0, .ref (rr 29), .ref (rr 30), .ref (rr 31), .ref (rr 32), .ref (rr 33), .int 0, .int 0, .long 0, .long 0, .int 0, .int 0, .ref (rr 40), .ref (rr 41), .ref (rr 42), .ref (rr 43), .ref (rr 44), .ref (rr 45), .int 0, .ref (rr 47), .ref (rr 48)]))] s.heap := hP
  have hl := lv_entry ([.ref m0, .int k0, .int w0]) (n := 10) (Nat.le_of_ble_eq_true rfl)
  rw [lg_entry_eq]
  generalize (lg_sl ([.ref m0, .int k0, .int w0]) ++ List.replicate (10 - (lg_sl ([.ref m0, .int k0, .int w0])).length) Slot.unset).toArray = ls at hl ⊢
  have hl : lv_has ls 10 [(0, .ref m0), (1, .int k0), (2, .int w0)] := hl
  refine lv_aload_n hx hb dX12_trees_0 rfl (lv_at hl 0 rfl) ?_
  refine lv_iload_n hx hb dX12_trees_1 rfl (lv_at hl 1 rfl) ?_
  have hPc := hP.sub (ws' := [(m0, .inr (12, [.ref (rr 0), .int 0, .int 0, .ref (rr 3), .ref (rr 4), .ref (rr 5), .ref (rr 6), .ref (rr 7), .ref (rr 8), .int 0, .ref (rr 10), .ref (rr 11), .ref (rr 12), .ref (rr 13), .ref (rr 14), .ref (rr 15), .ref (rr 16), .ref (rr 17), .ref (rr 18), .ref (rr 19), .int 1, .int 0, .int 0, .ref (rr 23), .ref (rr 24), .ref (rr 25), .int 0, .ref (rr 27), .int 0, .ref (rr 29), .ref (rr 30), .ref (rr 31), .ref (rr 32), .ref (rr 33), .int 0, .int 0, .long 0, .long 0, .int 0, .int 0, .ref (rr 40), .ref (rr 41), .ref (rr 42), .ref (rr 43), .ref (rr 44), .ref (rr 45), .int 0, .ref (rr 47), .ref (rr 48)]))]) [0] rfl
  have hKc := hK.sub (tys' := []) [] rfl
  refine vp_callSi (va_Run.run (va_runV (As := [.int k0]) (rest := []) ⟨hx, hb, hml, hown, hts⟩ (m_isTold0 l dC dI m0 rr k0) (cwV 1 hts gX12_trees_X12_isTold rfl rfl rfl (by decide +kernel) ⟨Nat.le_of_ble_eq_true rfl, Nat.le_of_ble_eq_true rfl⟩) ⟨fun a U g mk q => by obtain ⟨q0, qP, qK⟩ := q; exact ⟨q0, qP, va_K.moved (u := U) (U := U.calling g mk a) (Vm.Alike.refl U.vm) qK⟩, va_recv hKc hPc (ci := 12) (q0 := 0) rfl rfl, fun U hU hW => ⟨rfl, by rw [hU]; exact hPc, va_K.moved hW.alike hKc⟩⟩ rfl rfl hl.1 rfl (lv_room (Nat.le_of_ble_eq_true rfl)) dX12_trees_2 ⟨Nat.le_of_ble_eq_true rfl, Nat.le_of_ble_eq_true rfl⟩)) (fun r_2 hw_1 => ?_)
  obtain rfl : r_2 = 0 := hw_1
  refine lv_if_eq (tgt := 15) hx hb dX12_trees_5 (by decide) (fun c_3 => ?_) (fun c_3 => ?_)
  rotate_left
  · exact absurd (by decide) c_3
  refine lv_ldc2 (own := RX12) (v := (-1)) hx hb hown (hts (.constantLong RX12 221 (-1)) (by decide +kernel)) dX12_trees_15 ?_
  exact W.lret (v := (-1)) hx hb hr (fun t ht hW => ⟨(-1), rfl, rfl, ht⟩) (fun q h => absurd h List.not_mem_nil) dX12_trees_18
set_option maxHeartbeats 4000000 in
set_option maxRecDepth 100000 in
/-- X12_choose -/
theorem m_choose0 (l : Launch) (dC : Nat → ClassId) (dI : Nat → Nat → Nat) (m0 : Nat) (rr : Nat → Nat) (k0 : Int32) : Met l yX12_choose wsX12_choose ({ frames := 1, cells := 0, slots := 0, locals := 21 }) (va_Pc [.ref m0, .int k0] (fun U => va_P (dC, dI) vwCl [(m0, .inr (12, [.ref (rr 0), .int 0, .int 0, .ref (rr 3), .ref (rr 4), .ref (rr 5), .ref (rr 6), .ref (rr 7), .ref (rr 8), .int 0, .ref (rr 10), .ref (rr 11), .ref (rr 12), .ref (rr 13), .ref (rr 14), .ref (rr 15), .ref (rr 16), .ref (rr 17), .ref (rr 18), .ref (rr 19), .int 1, .int 0, .int 0, .ref (rr 23), .ref (rr 24), .ref (rr 25), .int 0, .ref (rr 27), .int 0, .ref (rr 29), .ref (rr 30), .ref (rr 31), .ref (rr 32), .ref (rr 33), .int 0, .int 0, .long 0, .long 0, .int 0, .int 0, .ref (rr 40), .ref (rr 41), .ref (rr 42), .ref (rr 43), .ref (rr 44), .ref (rr 45), .int 0, .ref (rr 47), .ref (rr 48)]))] U.heap ∧ va_K (dC, dI) vwCl [] U)) (vp_Si (fun r => r = -1)) 0 0 (fun _ => False) := by
  refine Met.ofW (cc := cX12_choose) (maxL := 5) (ret := (some .int)) (by decide) rfl ?_
  intro p e s m args below meth c s₁ B hml hv
  obtain ⟨rfl, hP, hK⟩ := hv
  have hx := B.exec
  have hb := B.bytes
  have hr := B.returns
  have hts := atoms_spec (ws := wsX12_choose) B.pre
  have hown : s.vm.findClass RX12 = some m.cls := findClass_of_methodNamed B.named
  have hlocks := B.notSynchronized
  have hP : va_P (dC, dI) vwCl [(m0, .inr (12, [.ref (rr 0), .int 0, .int 0, .ref (rr 3), .ref (rr 4), .ref (rr 5), .ref (rr 6), .ref (rr 7), .ref (rr 8), .int 0, .ref (rr 10), .ref (rr 11), .ref (rr 12), .ref (rr 13), .ref (rr 14), .ref (rr 15), .ref (rr 16), .ref (rr 17), .ref (rr 18), .ref (rr 19), .int 1, .int 0, .int 0, .ref (rr 23), .ref (rr 24), .ref (rr 25), .int 0, .ref (rr 27), .int 0, .ref (rr 29), .ref (rr 30), .ref (rr 31), .ref (rr 32), .ref (rr 33), .int 0, .int 0, .long 0, .long 0, .int 0, .int 0, .ref (rr 40), .ref (rr 41), .ref (rr 42), .ref (rr 43), .ref (rr 44), .ref (rr 45), .int 0, .ref (rr 47), .ref (rr 48)]))] s.heap := hP
  have hl := lv_entry ([.ref m0, .int k0]) (n := 5) (Nat.le_of_ble_eq_true rfl)
  rw [lg_entry_eq]
  generalize (lg_sl ([.ref m0, .int k0]) ++ List.replicate (5 - (lg_sl ([.ref m0, .int k0])).length) Slot.unset).toArray = ls at hl ⊢
  have hl : lv_has ls 5 [(0, .ref m0), (1, .int k0)] := hl
  refine lv_aload_n hx hb dX12_choose_0 rfl (lv_at hl 0 rfl) ?_
  refine lv_iload_n hx hb dX12_choose_1 rfl (lv_at hl 1 rfl) ?_
  have hPc := hP.sub (ws' := [(m0, .inr (12, [.ref (rr 0), .int 0, .int 0, .ref (rr 3), .ref (rr 4), .ref (rr 5), .ref (rr 6), .ref (rr 7), .ref (rr 8), .int 0, .ref (rr 10), .ref (rr 11), .ref (rr 12), .ref (rr 13), .ref (rr 14), .ref (rr 15), .ref (rr 16), .ref (rr 17), .ref (rr 18), .ref (rr 19), .int 1, .int 0, .int 0, .ref (rr 23), .ref (rr 24), .ref (rr 25), .int 0, .ref (rr 27), .int 0, .ref (rr 29), .ref (rr 30), .ref (rr 31), .ref (rr 32), .ref (rr 33), .int 0, .int 0, .long 0, .long 0, .int 0, .int 0, .ref (rr 40), .ref (rr 41), .ref (rr 42), .ref (rr 43), .ref (rr 44), .ref (rr 45), .int 0, .ref (rr 47), .ref (rr 48)]))]) [0] rfl
  have hKc := hK.sub (tys' := []) [] rfl
  refine vp_callSi (va_Run.run (va_runV (As := [.int k0]) (rest := []) ⟨hx, hb, hml, hown, hts⟩ (m_isTold0 l dC dI m0 rr k0) (cwV 1 hts gX12_choose_X12_isTold rfl rfl rfl (by decide +kernel) ⟨Nat.le_of_ble_eq_true rfl, Nat.le_of_ble_eq_true rfl⟩) ⟨fun a U g mk q => by obtain ⟨q0, qP, qK⟩ := q; exact ⟨q0, qP, va_K.moved (u := U) (U := U.calling g mk a) (Vm.Alike.refl U.vm) qK⟩, va_recv hKc hPc (ci := 12) (q0 := 0) rfl rfl, fun U hU hW => ⟨rfl, by rw [hU]; exact hPc, va_K.moved hW.alike hKc⟩⟩ rfl rfl hl.1 rfl (lv_room (Nat.le_of_ble_eq_true rfl)) dX12_choose_2 ⟨Nat.le_of_ble_eq_true rfl, Nat.le_of_ble_eq_true rfl⟩)) (fun r_2 hw_1 => ?_)
  obtain rfl : r_2 = 0 := hw_1
  refine lv_if_ne (tgt := 10) hx hb dX12_choose_5 (by decide) (fun c_3 => ?_) (fun c_3 => ?_)
  · exact absurd (by decide) c_3
  refine lv_iconst (v := (-1)) hx hb dX12_choose_8 (by decide) ?_
  exact W.iret (v := (-1)) hx hb hr (fun t ht hW => ⟨(-1), rfl, rfl, ht⟩) (fun q h => absurd h List.not_mem_nil) dX12_choose_9
set_option maxHeartbeats 4000000 in
set_option maxRecDepth 100000 in
/-- X12_undo -/
theorem m_undo0 (l : Launch) (dC : Nat → ClassId) (dI : Nat → Nat → Nat) (m0 : Nat) (rr : Nat → Nat) : Met l yX12_undo wsX12_undo ({ frames := 0, cells := 0, slots := 0, locals := 0 }) (va_Pc [.ref m0] (fun U => va_P (dC, dI) vwCl [(m0, .inr (12, [.ref (rr 0), .int 0, .int 0, .ref (rr 3), .ref (rr 4), .ref (rr 5), .ref (rr 6), .ref (rr 7), .ref (rr 8), .int 0, .ref (rr 10), .ref (rr 11), .ref (rr 12), .ref (rr 13), .ref (rr 14), .ref (rr 15), .ref (rr 16), .ref (rr 17), .ref (rr 18), .ref (rr 19), .int 1, .int 0, .int 0, .ref (rr 23), .ref (rr 24), .ref (rr 25), .int 0, .ref (rr 27), .int 0, .ref (rr 29), .ref (rr 30), .ref (rr 31), .ref (rr 32), .ref (rr 33), .int 0, .int 0, .long 0, .long 0, .int 0, .int 0, .ref (rr 40), .ref (rr 41), .ref (rr 42), .ref (rr 43), .ref (rr 44), .ref (rr 45), .int 0, .ref (rr 47), .ref (rr 48)]))] U.heap ∧ va_K (dC, dI) vwCl [] U)) (vp_Si (fun r => r = 0)) 0 0 (fun _ => False) := by
  refine Met.ofW (cc := cX12_undo) (maxL := 2) (ret := (some .boolean)) (by decide) rfl ?_
  intro p e s m args below meth c s₁ B hml hv
  obtain ⟨rfl, hP, hK⟩ := hv
  have hx := B.exec
  have hb := B.bytes
  have hr := B.returns
  have hts := atoms_spec (ws := wsX12_undo) B.pre
  have hown : s.vm.findClass RX12 = some m.cls := findClass_of_methodNamed B.named
  have hlocks := B.notSynchronized
  have hP : va_P (dC, dI) vwCl [(m0, .inr (12, [.ref (rr 0), .int 0, .int 0, .ref (rr 3), .ref (rr 4), .ref (rr 5), .ref (rr 6), .ref (rr 7), .ref (rr 8), .int 0, .ref (rr 10), .ref (rr 11), .ref (rr 12), .ref (rr 13), .ref (rr 14), .ref (rr 15), .ref (rr 16), .ref (rr 17), .ref (rr 18), .ref (rr 19), .int 1, .int 0, .int 0, .ref (rr 23), .ref (rr 24), .ref (rr 25), .int 0, .ref (rr 27), .int 0, .ref (rr 29), .ref (rr 30), .ref (rr 31), .ref (rr 32), .ref (rr 33), .int 0, .int 0, .long 0, .long 0, .int 0, .int 0, .ref (rr 40), .ref (rr 41), .ref (rr 42), .ref (rr 43), .ref (rr 44), .ref (rr 45), .int 0, .ref (rr 47), .ref (rr 48)]))] s.heap := hP
  have hl := lv_entry ([.ref m0]) (n := 2) (Nat.le_of_ble_eq_true rfl)
  rw [lg_entry_eq]
  generalize (lg_sl ([.ref m0]) ++ List.replicate (2 - (lg_sl ([.ref m0])).length) Slot.unset).toArray = ls at hl ⊢
  have hl : lv_has ls 2 [(0, .ref m0)] := hl
  refine lv_aload_n hx hb dX12_undo_0 rfl (lv_at hl 0 rfl) ?_
  refine va_get (D := (dC, dI)) (ci := 12) (v := .int 0) (C := RX12) (T := TX12) (N := 49) hx hb hts (by decide +kernel) hown hK hP 0 rfl rfl 46 (by decide) (hts (.fieldLink RX12 250 "JoinBenchModel" "choices" "I") (by decide +kernel)) (fun _ h9 => h9) rfl dX12_undo_1 ?_
  refine lv_if_ne (tgt := 9) hx hb dX12_undo_4 (by decide) (fun c_1 => ?_) (fun c_1 => ?_)
  · exact absurd (by decide) c_1
  refine lv_iconst (v := 0) hx hb dX12_undo_7 (by decide) ?_
  exact W.zret (v := 0) hx hb hr rfl (fun t ht hW => ⟨0, rfl, rfl, ht⟩) (fun q h => absurd h List.not_mem_nil) dX12_undo_8
set_option maxHeartbeats 4000000 in
set_option maxRecDepth 100000 in
/-- X12_step -/
theorem m_step0 (l : Launch) (dC : Nat → ClassId) (dI : Nat → Nat → Nat) (sz : Nat) (m0 : Nat) (rr : Nat → Nat) (n : Int32) : Met l yX12_step wsX12_step ({ frames := 1, cells := 0, slots := 0, locals := 22 }) (va_Pc [.ref m0, .int n] (fun U => U.heap.size = sz ∧ va_P (dC, dI) vwCl [(m0, .inr (12, [.ref (rr 0), .int 0, .int 0, .ref (rr 3), .ref (rr 4), .ref (rr 5), .ref (rr 6), .ref (rr 7), .ref (rr 8), .int 0, .ref (rr 10), .ref (rr 11), .ref (rr 12), .ref (rr 13), .ref (rr 14), .ref (rr 15), .ref (rr 16), .ref (rr 17), .ref (rr 18), .ref (rr 19), .int 1, .int 0, .int 0, .ref (rr 23), .ref (rr 24), .ref (rr 25), .int 0, .ref (rr 27), .int 0, .ref (rr 29), .ref (rr 30), .ref (rr 31), .ref (rr 32), .ref (rr 33), .int 0, .int 0, .long 0, .long 0, .int 0, .int 0, .ref (rr 40), .ref (rr 41), .ref (rr 42), .ref (rr 43), .ref (rr 44), .ref (rr 45), .int 0, .ref (rr 47), .ref (rr 48)]))] U.heap ∧ va_K (dC, dI) vwCl [] U ∧ va_D (fun _ => True) [(m0, .inr (12, [.ref (rr 0), .int 0, .int 0, .ref (rr 3), .ref (rr 4), .ref (rr 5), .ref (rr 6), .ref (rr 7), .ref (rr 8), .int 0, .ref (rr 10), .ref (rr 11), .ref (rr 12), .ref (rr 13), .ref (rr 14), .ref (rr 15), .ref (rr 16), .ref (rr 17), .ref (rr 18), .ref (rr 19), .int 1, .int 0, .int 0, .ref (rr 23), .ref (rr 24), .ref (rr 25), .int 0, .ref (rr 27), .int 0, .ref (rr 29), .ref (rr 30), .ref (rr 31), .ref (rr 32), .ref (rr 33), .int 0, .int 0, .long 0, .long 0, .int 0, .int 0, .ref (rr 40), .ref (rr 41), .ref (rr 42), .ref (rr 43), .ref (rr 44), .ref (rr 45), .int 0, .ref (rr 47), .ref (rr 48)]))])) (va_Qi (fun (r : Int32) (_ : Unit) => vP r (inR n 0 20) 1 (-1)) (fun (_ : Unit) (_ : State) => True) (va_A [(m0, .inr (12, [.ref (rr 0), .int 0, .int 0, .ref (rr 3), .ref (rr 4), .ref (rr 5), .ref (rr 6), .ref (rr 7), .ref (rr 8), .int 0, .ref (rr 10), .ref (rr 11), .ref (rr 12), .ref (rr 13), .ref (rr 14), .ref (rr 15), .ref (rr 16), .ref (rr 17), .ref (rr 18), .ref (rr 19), .int 1, .int 0, .int 0, .ref (rr 23), .ref (rr 24), .ref (rr 25), .int 0, .ref (rr 27), .int 0, .ref (rr 29), .ref (rr 30), .ref (rr 31), .ref (rr 32), .ref (rr 33), .int 0, .int 0, .long 0, .long 0, .int 0, .int 0, .ref (rr 40), .ref (rr 41), .ref (rr 42), .ref (rr 43), .ref (rr 44), .ref (rr 45), .int 0, .ref (rr 47), .ref (rr 48)]))] sz)) 0 0 (va_A [(m0, .inr (12, [.ref (rr 0), .int 0, .int 0, .ref (rr 3), .ref (rr 4), .ref (rr 5), .ref (rr 6), .ref (rr 7), .ref (rr 8), .int 0, .ref (rr 10), .ref (rr 11), .ref (rr 12), .ref (rr 13), .ref (rr 14), .ref (rr 15), .ref (rr 16), .ref (rr 17), .ref (rr 18), .ref (rr 19), .int 1, .int 0, .int 0, .ref (rr 23), .ref (rr 24), .ref (rr 25), .int 0, .ref (rr 27), .int 0, .ref (rr 29), .ref (rr 30), .ref (rr 31), .ref (rr 32), .ref (rr 33), .int 0, .int 0, .long 0, .long 0, .int 0, .int 0, .ref (rr 40), .ref (rr 41), .ref (rr 42), .ref (rr 43), .ref (rr 44), .ref (rr 45), .int 0, .ref (rr 47), .ref (rr 48)]))] sz) := by
  refine Met.ofW (cc := cX12_step) (maxL := 3) (ret := (some .int)) (by decide) rfl ?_
  intro p e s m args below meth c s₁ B hml hv
  obtain ⟨rfl, hsz, hP, hK, hD0⟩ := hv
  have hx := B.exec
  have hb := B.bytes
  have hr := B.returns
  have hts := atoms_spec (ws := wsX12_step) B.pre
  have hown : s.vm.findClass RX12 = some m.cls := findClass_of_methodNamed B.named
  have hlocks := B.notSynchronized
  subst hsz
  have hD := hD0.self (sz := s.heap.size)
  generalize hAe : va_A [(m0, .inr (12, [.ref (rr 0), .int 0, .int 0, .ref (rr 3), .ref (rr 4), .ref (rr 5), .ref (rr 6), .ref (rr 7), .ref (rr 8), .int 0, .ref (rr 10), .ref (rr 11), .ref (rr 12), .ref (rr 13), .ref (rr 14), .ref (rr 15), .ref (rr 16), .ref (rr 17), .ref (rr 18), .ref (rr 19), .int 1, .int 0, .int 0, .ref (rr 23), .ref (rr 24), .ref (rr 25), .int 0, .ref (rr 27), .int 0, .ref (rr 29), .ref (rr 30), .ref (rr 31), .ref (rr 32), .ref (rr 33), .int 0, .int 0, .long 0, .long 0, .int 0, .int 0, .ref (rr 40), .ref (rr 41), .ref (rr 42), .ref (rr 43), .ref (rr 44), .ref (rr 45), .int 0, .ref (rr 47), .ref (rr 48)]))] s.heap.size = A at hD ⊢
  have hA : ∀ q : Nat, s.heap.size ≤ q → A q := fun q h => by rw [← hAe]; exact Or.inr h
  obtain ⟨H, hH⟩ : ∃ H : Heap, H = s.heap := ⟨_, rfl⟩
  have hS : va_S A s.heap H [] := by rw [hH]; exact va_S.rf
  rw [← hH] at hP ⊢
  have hP : va_P (dC, dI) vwCl [(m0, .inr (12, [.ref (rr 0), .int 0, .int 0, .ref (rr 3), .ref (rr 4), .ref (rr 5), .ref (rr 6), .ref (rr 7), .ref (rr 8), .int 0, .ref (rr 10), .ref (rr 11), .ref (rr 12), .ref (rr 13), .ref (rr 14), .ref (rr 15), .ref (rr 16), .ref (rr 17), .ref (rr 18), .ref (rr 19), .int 1, .int 0, .int 0, .ref (rr 23), .ref (rr 24), .ref (rr 25), .int 0, .ref (rr 27), .int 0, .ref (rr 29), .ref (rr 30), .ref (rr 31), .ref (rr 32), .ref (rr 33), .int 0, .int 0, .long 0, .long 0, .int 0, .int 0, .ref (rr 40), .ref (rr 41), .ref (rr 42), .ref (rr 43), .ref (rr 44), .ref (rr 45), .int 0, .ref (rr 47), .ref (rr 48)]))] H := hP
  have hl := lv_entry ([.ref m0, .int n]) (n := 3) (Nat.le_of_ble_eq_true rfl)
  rw [lg_entry_eq]
  generalize (lg_sl ([.ref m0, .int n]) ++ List.replicate (3 - (lg_sl ([.ref m0, .int n])).length) Slot.unset).toArray = ls at hl ⊢
  have hl : lv_has ls 3 [(0, .ref m0), (1, .int n)] := hl
  refine lv_iload_n hx hb dX12_step_0 rfl (lv_at hl 1 rfl) ?_
  refine lv_iconst (v := 0) hx hb dX12_step_1 (by decide) ?_
  refine lv_bipush (v := 20) hx hb dX12_step_2 (by decide) ?_
  have hPc := hP.sub (ws' := []) [] rfl
  have hKc := hK.sub (tys' := []) [] rfl
  refine vp_callSi (va_Run.run (va_runS (As := [.int n, .int 0, .int 20]) (rest := []) ⟨hx, hb, hml, hown, hts⟩ (m_in l dC dI n 0 20) (va_cwS 3 hts gX12_step_X12_in rfl rfl rfl (by decide +kernel) ⟨Nat.le_of_ble_eq_true rfl, Nat.le_of_ble_eq_true rfl⟩) ⟨fun a U g mk q => by obtain ⟨q0, qP, qK⟩ := q; exact ⟨q0, qP, va_K.moved (u := U) (U := U.calling g mk a) (Vm.Alike.refl U.vm) qK⟩, fun U hU hW => ⟨rfl, by rw [hU]; exact hPc, va_K.moved hW.alike hKc⟩⟩ rfl rfl hl.1 rfl (lv_room (Nat.le_of_ble_eq_true rfl)) dX12_step_4 ⟨Nat.le_of_ble_eq_true rfl, Nat.le_of_ble_eq_true rfl⟩)) (fun r_2 hw_1 => ?_)
  rcases hw_1 with ⟨rfl, hw_1⟩ | ⟨rfl, hw_1⟩
  · refine lv_if_ne (tgt := 12) hx hb dX12_step_7 (by decide) (fun c_3 => ?_) (fun c_3 => ?_)
    rotate_left
    · exact absurd c_3 (by decide)
    refine lv_aload_n hx hb dX12_step_12 rfl (lv_at hl 0 rfl) ?_
    refine va_get (D := (dC, dI)) (ci := 12) (v := .int 1) (C := RX12) (T := TX12) (N := 49) hx hb hts (by decide +kernel) hown hK hP 0 rfl rfl 20 (by decide) (hts (.fieldLink RX12 63 "JoinBenchModel" "step" "I") (by decide +kernel)) (fun _ h9 => h9) rfl dX12_step_13 ?_
    refine lv_istore_n (lv' := [(2, .int 1), (0, .ref m0), (1, .int n)]) hx hb dX12_step_16 rfl hl (by decide) rfl (fun ls hl => ?_)
    refine lv_aload_n hx hb dX12_step_17 rfl (lv_at hl 1 rfl) ?_
    refine lv_iload_n hx hb dX12_step_18 rfl (lv_at hl 2 rfl) ?_
    refine va_put (D := (dC, dI)) (ci := 12) (v := .int n) (ty := .int) (C := RX12) (T := TX12) (N := 49) hx hb hts (by decide +kernel) tyX12 tyX12_ok nmX12 hown hK hP hD hS 0 rfl rfl 20 (by decide) (hts (.fieldLink RX12 63 "JoinBenchModel" "step" "I") (by decide +kernel)) (fun _ h9 => h9) rfl (by decide +kernel) rfl rfl (Nat.le_of_ble_eq_true rfl) dX12_step_19 (fun H locs hP hD hS => ?_)
    have hP : va_P (dC, dI) vwCl [(m0, .inr (12, [.ref (rr 0), .int 0, .int 0, .ref (rr 3), .ref (rr 4), .ref (rr 5), .ref (rr 6), .ref (rr 7), .ref (rr 8), .int 0, .ref (rr 10), .ref (rr 11), .ref (rr 12), .ref (rr 13), .ref (rr 14), .ref (rr 15), .ref (rr 16), .ref (rr 17), .ref (rr 18), .ref (rr 19), .int n, .int 0, .int 0, .ref (rr 23), .ref (rr 24), .ref (rr 25), .int 0, .ref (rr 27), .int 0, .ref (rr 29), .ref (rr 30), .ref (rr 31), .ref (rr 32), .ref (rr 33), .int 0, .int 0, .long 0, .long 0, .int 0, .int 0, .ref (rr 40), .ref (rr 41), .ref (rr 42), .ref (rr 43), .ref (rr 44), .ref (rr 45), .int 0, .ref (rr 47), .ref (rr 48)]))] H := hP
    have hD : va_D A [(m0, .inr (12, [.ref (rr 0), .int 0, .int 0, .ref (rr 3), .ref (rr 4), .ref (rr 5), .ref (rr 6), .ref (rr 7), .ref (rr 8), .int 0, .ref (rr 10), .ref (rr 11), .ref (rr 12), .ref (rr 13), .ref (rr 14), .ref (rr 15), .ref (rr 16), .ref (rr 17), .ref (rr 18), .ref (rr 19), .int n, .int 0, .int 0, .ref (rr 23), .ref (rr 24), .ref (rr 25), .int 0, .ref (rr 27), .int 0, .ref (rr 29), .ref (rr 30), .ref (rr 31), .ref (rr 32), .ref (rr 33), .int 0, .int 0, .long 0, .long 0, .int 0, .int 0, .ref (rr 40), .ref (rr 41), .ref (rr 42), .ref (rr 43), .ref (rr 44), .ref (rr 45), .int 0, .ref (rr 47), .ref (rr 48)]))] := hD
    refine lv_iload_n hx hb dX12_step_22 rfl (lv_at hl 0 rfl) ?_
    refine W.widen (k := 0) (n := 0) (Nat.le_of_ble_eq_true rfl) (Nat.le_of_ble_eq_true rfl) ?_
    exact W.iret (v := 1) hx hb hr (fun t ht hW => ⟨⟨1, (), rfl, vP_t (by simp [hw_1]), trivial⟩, hS.F ht⟩) hS.2.2 dX12_step_23
  · refine lv_if_ne (tgt := 12) hx hb dX12_step_7 (by decide) (fun c_4 => ?_) (fun c_4 => ?_)
    · exact absurd (by decide) c_4
    refine lv_iconst (v := (-1)) hx hb dX12_step_10 (by decide) ?_
    refine W.widen (k := 0) (n := 0) (Nat.le_of_ble_eq_true rfl) (Nat.le_of_ble_eq_true rfl) ?_
    exact W.iret (v := (-1)) hx hb hr (fun t ht hW => ⟨⟨(-1), (), rfl, vP_f (by simp [hw_1]), trivial⟩, hS.F ht⟩) hS.2.2 dX12_step_11
set_option maxHeartbeats 4000000 in
set_option maxRecDepth 100000 in
/-- X12_uses -/
theorem m_uses0 (l : Launch) (dC : Nat → ClassId) (dI : Nat → Nat → Nat) (m0 : Nat) (rr : Nat → Nat) (cU : ClassId) (t0 : Int32) : Met l yX12_uses wsX12_uses ({ frames := 1, cells := 0, slots := 0, locals := 22 }) (va_Pc [.ref m0, .int t0] (fun U => va_P (dC, dI) vwCl [(m0, .inr (12, [.ref (rr 0), .int 0, .int 0, .ref (rr 3), .ref (rr 4), .ref (rr 5), .ref (rr 6), .ref (rr 7), .ref (rr 8), .int 0, .ref (rr 10), .ref (rr 11), .ref (rr 12), .ref (rr 13), .ref (rr 14), .ref (rr 15), .ref (rr 16), .ref (rr 17), .ref (rr 18), .ref (rr 19), .int 1, .int 0, .int 0, .ref (rr 23), .ref (rr 24), .ref (rr 25), .int 0, .ref (rr 27), .int 0, .ref (rr 29), .ref (rr 30), .ref (rr 31), .ref (rr 32), .ref (rr 33), .int 0, .int 0, .long 0, .long 0, .int 0, .int 0, .ref (rr 40), .ref (rr 41), .ref (rr 42), .ref (rr 43), .ref (rr 44), .ref (rr 45), .int 0, .ref (rr 47), .ref (rr 48)])), ((rr 19), .inl (cU, 20, .inl (fun _ => 0)))] U.heap ∧ va_K (dC, dI) vwCl [(cU, .int)] U)) (vp_Si (fun r => vP r (inR t0 0 19) 0 (-1))) 0 0 (fun _ => False) := by
  refine Met.ofW (cc := cX12_uses) (maxL := 2) (ret := (some .int)) (by decide) rfl ?_
  intro p e s m args below meth c s₁ B hml hv
  obtain ⟨rfl, hP, hK⟩ := hv
  have hx := B.exec
  have hb := B.bytes
  have hr := B.returns
  have hts := atoms_spec (ws := wsX12_uses) B.pre
  have hown : s.vm.findClass RX12 = some m.cls := findClass_of_methodNamed B.named
  have hlocks := B.notSynchronized
  have hP : va_P (dC, dI) vwCl [(m0, .inr (12, [.ref (rr 0), .int 0, .int 0, .ref (rr 3), .ref (rr 4), .ref (rr 5), .ref (rr 6), .ref (rr 7), .ref (rr 8), .int 0, .ref (rr 10), .ref (rr 11), .ref (rr 12), .ref (rr 13), .ref (rr 14), .ref (rr 15), .ref (rr 16), .ref (rr 17), .ref (rr 18), .ref (rr 19), .int 1, .int 0, .int 0, .ref (rr 23), .ref (rr 24), .ref (rr 25), .int 0, .ref (rr 27), .int 0, .ref (rr 29), .ref (rr 30), .ref (rr 31), .ref (rr 32), .ref (rr 33), .int 0, .int 0, .long 0, .long 0, .int 0, .int 0, .ref (rr 40), .ref (rr 41), .ref (rr 42), .ref (rr 43), .ref (rr 44), .ref (rr 45), .int 0, .ref (rr 47), .ref (rr 48)])), ((rr 19), .inl (cU, 20, .inl (fun _ => 0)))] s.heap := hP
  have hl := lv_entry ([.ref m0, .int t0]) (n := 2) (Nat.le_of_ble_eq_true rfl)
  rw [lg_entry_eq]
  generalize (lg_sl ([.ref m0, .int t0]) ++ List.replicate (2 - (lg_sl ([.ref m0, .int t0])).length) Slot.unset).toArray = ls at hl ⊢
  have hl : lv_has ls 2 [(0, .ref m0), (1, .int t0)] := hl
  refine lv_iload_n hx hb dX12_uses_0 rfl (lv_at hl 1 rfl) ?_
  refine lv_iconst (v := 0) hx hb dX12_uses_1 (by decide) ?_
  refine lv_bipush (v := 19) hx hb dX12_uses_2 (by decide) ?_
  have hPc := hP.sub (ws' := []) [] rfl
  have hKc := hK.sub (tys' := []) [] rfl
  refine vp_callSi (va_Run.run (va_runS (As := [.int t0, .int 0, .int 19]) (rest := []) ⟨hx, hb, hml, hown, hts⟩ (m_in l dC dI t0 0 19) (va_cwS 3 hts gX12_uses_X12_in rfl rfl rfl (by decide +kernel) ⟨Nat.le_of_ble_eq_true rfl, Nat.le_of_ble_eq_true rfl⟩) ⟨fun a U g mk q => by obtain ⟨q0, qP, qK⟩ := q; exact ⟨q0, qP, va_K.moved (u := U) (U := U.calling g mk a) (Vm.Alike.refl U.vm) qK⟩, fun U hU hW => ⟨rfl, by rw [hU]; exact hPc, va_K.moved hW.alike hKc⟩⟩ rfl rfl hl.1 rfl (lv_room (Nat.le_of_ble_eq_true rfl)) dX12_uses_4 ⟨Nat.le_of_ble_eq_true rfl, Nat.le_of_ble_eq_true rfl⟩)) (fun r_2 hw_1 => ?_)
  rcases hw_1 with ⟨rfl, hw_1⟩ | ⟨rfl, hw_1⟩
  · refine lv_if_eq (tgt := 19) hx hb dX12_uses_7 (by decide) (fun c_3 => ?_) (fun c_3 => ?_)
    · exact absurd c_3 (by decide)
    refine lv_aload_n hx hb dX12_uses_10 rfl (lv_at hl 0 rfl) ?_
    refine va_get (D := (dC, dI)) (ci := 12) (v := .ref (rr 19)) (C := RX12) (T := TX12) (N := 49) hx hb hts (by decide +kernel) hown hK hP 0 rfl rfl 19 (by decide) (hts (.fieldLink RX12 60 "JoinBenchModel" "uses" "[I") (by decide +kernel)) (fun _ h9 => h9) rfl dX12_uses_11 ?_
    refine lv_iload_n hx hb dX12_uses_14 rfl (lv_at hl 1 rfl) ?_
    refine va_iald hx hb hK hP 1 0 rfl rfl (by obtain ⟨j, hj, rfl⟩ := inR_n (n := 19) (by decide) hw_1; exact vp_in_nI (by omega) (by decide)) dX12_uses_15 ?_
    refine lv_topi (fun y_4 ey_4 => ?_)
    obtain rfl : y_4 = 0 := ey_4
    refine lv_goto (tgt := 20) hx hb dX12_uses_16 (by decide) ?_
    exact W.iret (v := 0) hx hb hr (fun t ht hW => ⟨0, rfl, vP_t (by simp [hw_1]), ht⟩) (fun q h => absurd h List.not_mem_nil) dX12_uses_20
  · refine lv_if_eq (tgt := 19) hx hb dX12_uses_7 (by decide) (fun c_5 => ?_) (fun c_5 => ?_)
    rotate_left
    · exact absurd (by decide) c_5
    refine lv_iconst (v := (-1)) hx hb dX12_uses_19 (by decide) ?_
    exact W.iret (v := (-1)) hx hb hr (fun t ht hW => ⟨(-1), rfl, vP_f (by simp [hw_1]), ht⟩) (fun q h => absurd h List.not_mem_nil) dX12_uses_20
set_option maxHeartbeats 4000000 in
set_option maxRecDepth 100000 in
/-- X12_about -/
theorem m_about0 (l : Launch) (dC : Nat → ClassId) (dI : Nat → Nat → Nat) (m0 : Nat) (rr : Nat → Nat) (f0 : Int32) (w0 : Int32) : Met l yX12_about wsX12_about ({ frames := 2, cells := 0, slots := 0, locals := 43 }) (va_Pc [.ref m0, .int f0, .int w0] (fun U => va_P (dC, dI) vwCl [(m0, .inr (12, [.ref (rr 0), .int 0, .int 0, .ref (rr 3), .ref (rr 4), .ref (rr 5), .ref (rr 6), .ref (rr 7), .ref (rr 8), .int 0, .ref (rr 10), .ref (rr 11), .ref (rr 12), .ref (rr 13), .ref (rr 14), .ref (rr 15), .ref (rr 16), .ref (rr 17), .ref (rr 18), .ref (rr 19), .int 1, .int 0, .int 0, .ref (rr 23), .ref (rr 24), .ref (rr 25), .int 0, .ref (rr 27), .int 0, .ref (rr 29), .ref (rr 30), .ref (rr 31), .ref (rr 32), .ref (rr 33), .int 0, .int 0, .long 0, .long 0, .int 0, .int 0, .ref (rr 40), .ref (rr 41), .ref (rr 42), .ref (rr 43), .ref (rr 44), .ref (rr 45), .int 0, .ref (rr 47), .ref (rr 48)]))] U.heap ∧ va_K (dC, dI) vwCl [] U)) (vp_Si (fun r => r = -1)) 0 0 (fun _ => False) := by
  refine Met.ofW (cc := cX12_about) (maxL := 3) (ret := (some .int)) (by decide) rfl ?_
  intro p e s m args below meth c s₁ B hml hv
  obtain ⟨rfl, hP, hK⟩ := hv
  have hx := B.exec
  have hb := B.bytes
  have hr := B.returns
  have hts := atoms_spec (ws := wsX12_about) B.pre
  have hown : s.vm.findClass RX12 = some m.cls := findClass_of_methodNamed B.named
  have hlocks := B.notSynchronized
  have hP : va_P (dC, dI) vwCl [(m0, .inr (12, [.ref (rr 0), .int 0, .int 0, .ref (rr 3), .ref (rr 4), .ref (rr 5), .ref (rr 6), .ref (rr 7), .ref (rr 8), .int 0, .ref (rr 10), .ref (rr 11), .ref (rr 12), .ref (rr 13), .ref (rr 14), .ref (rr 15), .ref (rr 16), .ref (rr 17), .ref (rr 18), .ref (rr 19), .int 1, .int 0, .int 0, .ref (rr 23), .ref (rr 24), .ref (rr 25), .int 0, .ref (rr 27), .int 0, .ref (rr 29), .ref (rr 30), .ref (rr 31), .ref (rr 32), .ref (rr 33), .int 0, .int 0, .long 0, .long 0, .int 0, .int 0, .ref (rr 40), .ref (rr 41), .ref (rr 42), .ref (rr 43), .ref (rr 44), .ref (rr 45), .int 0, .ref (rr 47), .ref (rr 48)]))] s.heap := hP
  have hl := lv_entry ([.ref m0, .int f0, .int w0]) (n := 3) (Nat.le_of_ble_eq_true rfl)
  rw [lg_entry_eq]
  generalize (lg_sl ([.ref m0, .int f0, .int w0]) ++ List.replicate (3 - (lg_sl ([.ref m0, .int f0, .int w0])).length) Slot.unset).toArray = ls at hl ⊢
  have hl : lv_has ls 3 [(0, .ref m0), (1, .int f0), (2, .int w0)] := hl
  refine lv_aload_n hx hb dX12_about_0 rfl (lv_at hl 0 rfl) ?_
  refine lv_iload_n hx hb dX12_about_1 rfl (lv_at hl 1 rfl) ?_
  have hPc := hP.sub (ws' := [(m0, .inr (12, [.ref (rr 0), .int 0, .int 0, .ref (rr 3), .ref (rr 4), .ref (rr 5), .ref (rr 6), .ref (rr 7), .ref (rr 8), .int 0, .ref (rr 10), .ref (rr 11), .ref (rr 12), .ref (rr 13), .ref (rr 14), .ref (rr 15), .ref (rr 16), .ref (rr 17), .ref (rr 18), .ref (rr 19), .int 1, .int 0, .int 0, .ref (rr 23), .ref (rr 24), .ref (rr 25), .int 0, .ref (rr 27), .int 0, .ref (rr 29), .ref (rr 30), .ref (rr 31), .ref (rr 32), .ref (rr 33), .int 0, .int 0, .long 0, .long 0, .int 0, .int 0, .ref (rr 40), .ref (rr 41), .ref (rr 42), .ref (rr 43), .ref (rr 44), .ref (rr 45), .int 0, .ref (rr 47), .ref (rr 48)]))]) [0] rfl
  have hKc := hK.sub (tys' := []) [] rfl
  refine vp_callSi (va_Run.run (va_runV (As := [.int f0]) (rest := []) ⟨hx, hb, hml, hown, hts⟩ (m_isForm0 l dC dI m0 rr f0) (cwV 1 hts gX12_about_X12_isForm rfl rfl rfl (by decide +kernel) ⟨Nat.le_of_ble_eq_true rfl, Nat.le_of_ble_eq_true rfl⟩) ⟨fun a U g mk q => by obtain ⟨q0, qP, qK⟩ := q; exact ⟨q0, qP, va_K.moved (u := U) (U := U.calling g mk a) (Vm.Alike.refl U.vm) qK⟩, va_recv hKc hPc (ci := 12) (q0 := 0) rfl rfl, fun U hU hW => ⟨rfl, by rw [hU]; exact hPc, va_K.moved hW.alike hKc⟩⟩ rfl rfl hl.1 rfl (lv_room (Nat.le_of_ble_eq_true rfl)) dX12_about_2 ⟨Nat.le_of_ble_eq_true rfl, Nat.le_of_ble_eq_true rfl⟩)) (fun r_2 hw_1 => ?_)
  obtain rfl : r_2 = 0 := hw_1
  refine lv_if_ne (tgt := 10) hx hb dX12_about_5 (by decide) (fun c_3 => ?_) (fun c_3 => ?_)
  · exact absurd (by decide) c_3
  refine lv_iconst (v := (-1)) hx hb dX12_about_8 (by decide) ?_
  exact W.iret (v := (-1)) hx hb hr (fun t ht hW => ⟨(-1), rfl, rfl, ht⟩) (fun q h => absurd h List.not_mem_nil) dX12_about_9
set_option maxHeartbeats 4000000 in
set_option maxRecDepth 100000 in
/-- X12_count -/
theorem m_count0 (l : Launch) (dC : Nat → ClassId) (dI : Nat → Nat → Nat) (m0 : Nat) (rr : Nat → Nat) (w0 : Int32) : Met l yX12_count wsX12_count ({ frames := 0, cells := 0, slots := 0, locals := 0 }) (va_Pc [.ref m0, .int w0] (fun U => va_P (dC, dI) vwCl [(m0, .inr (12, [.ref (rr 0), .int 0, .int 0, .ref (rr 3), .ref (rr 4), .ref (rr 5), .ref (rr 6), .ref (rr 7), .ref (rr 8), .int 0, .ref (rr 10), .ref (rr 11), .ref (rr 12), .ref (rr 13), .ref (rr 14), .ref (rr 15), .ref (rr 16), .ref (rr 17), .ref (rr 18), .ref (rr 19), .int 1, .int 0, .int 0, .ref (rr 23), .ref (rr 24), .ref (rr 25), .int 0, .ref (rr 27), .int 0, .ref (rr 29), .ref (rr 30), .ref (rr 31), .ref (rr 32), .ref (rr 33), .int 0, .int 0, .long 0, .long 0, .int 0, .int 0, .ref (rr 40), .ref (rr 41), .ref (rr 42), .ref (rr 43), .ref (rr 44), .ref (rr 45), .int 0, .ref (rr 47), .ref (rr 48)]))] U.heap ∧ va_K (dC, dI) vwCl [] U)) (vp_Si (fun r => r = cntV w0)) 0 0 (fun _ => False) := by
  refine Met.ofW (cc := cX12_count) (maxL := 4) (ret := (some .int)) (by decide) rfl ?_
  intro p e s m args below meth c s₁ B hml hv
  obtain ⟨rfl, hP, hK⟩ := hv
  have hx := B.exec
  have hb := B.bytes
  have hr := B.returns
  have hts := atoms_spec (ws := wsX12_count) B.pre
  have hown : s.vm.findClass RX12 = some m.cls := findClass_of_methodNamed B.named
  have hlocks := B.notSynchronized
  have hP : va_P (dC, dI) vwCl [(m0, .inr (12, [.ref (rr 0), .int 0, .int 0, .ref (rr 3), .ref (rr 4), .ref (rr 5), .ref (rr 6), .ref (rr 7), .ref (rr 8), .int 0, .ref (rr 10), .ref (rr 11), .ref (rr 12), .ref (rr 13), .ref (rr 14), .ref (rr 15), .ref (rr 16), .ref (rr 17), .ref (rr 18), .ref (rr 19), .int 1, .int 0, .int 0, .ref (rr 23), .ref (rr 24), .ref (rr 25), .int 0, .ref (rr 27), .int 0, .ref (rr 29), .ref (rr 30), .ref (rr 31), .ref (rr 32), .ref (rr 33), .int 0, .int 0, .long 0, .long 0, .int 0, .int 0, .ref (rr 40), .ref (rr 41), .ref (rr 42), .ref (rr 43), .ref (rr 44), .ref (rr 45), .int 0, .ref (rr 47), .ref (rr 48)]))] s.heap := hP
  have hl := lv_entry ([.ref m0, .int w0]) (n := 4) (Nat.le_of_ble_eq_true rfl)
  rw [lg_entry_eq]
  generalize (lg_sl ([.ref m0, .int w0]) ++ List.replicate (4 - (lg_sl ([.ref m0, .int w0])).length) Slot.unset).toArray = ls at hl ⊢
  have hl : lv_has ls 4 [(0, .ref m0), (1, .int w0)] := hl
  refine lv_iconst (v := 0) hx hb dX12_count_0 (by decide) ?_
  refine lv_istore_n (lv' := [(2, .int 0), (0, .ref m0), (1, .int w0)]) hx hb dX12_count_1 rfl hl (by decide) rfl (fun ls hl => ?_)
  refine lv_iload_n hx hb dX12_count_2 rfl (lv_at hl 2 rfl) ?_
  rcases sw_8 w0 with hw_1 | rfl | rfl | rfl | rfl | rfl | rfl | rfl | rfl
  · refine lv_tableOut (tgt := 140) hx hb dX12_count_3 hw_1 (by decide) ?_
    refine lv_iconst (v := (-1)) hx hb dX12_count_140 (by decide) ?_
    exact W.iret (v := (-1)) hx hb hr (fun t ht hW => ⟨(-1), rfl, cnt_out hw_1, ht⟩) (fun q h => absurd h List.not_mem_nil) dX12_count_141
  · refine lv_tableIn (off := 45) (tgt := 48) hx hb dX12_count_3 (by decide) (by decide) rfl (by decide) ?_
    refine lv_aload_n hx hb dX12_count_48 rfl (lv_at hl 1 rfl) ?_
    refine va_get (D := (dC, dI)) (ci := 12) (v := .int 0) (C := RX12) (T := TX12) (N := 49) hx hb hts (by decide +kernel) hown hK hP 0 rfl rfl 2 (by decide) (hts (.fieldLink RX12 131 "JoinBenchModel" "forms" "I") (by decide +kernel)) (fun _ h9 => h9) rfl dX12_count_49 ?_
    exact W.iret (v := 0) hx hb hr (fun t ht hW => ⟨0, rfl, (by decide), ht⟩) (fun q h => absurd h List.not_mem_nil) dX12_count_52
  · refine lv_tableIn (off := 50) (tgt := 53) hx hb dX12_count_3 (by decide) (by decide) rfl (by decide) ?_
    refine lv_aload_n hx hb dX12_count_53 rfl (lv_at hl 1 rfl) ?_
    refine va_get (D := (dC, dI)) (ci := 12) (v := .int 0) (C := RX12) (T := TX12) (N := 49) hx hb hts (by decide +kernel) hown hK hP 0 rfl rfl 9 (by decide) (hts (.fieldLink RX12 138 "JoinBenchModel" "rules" "I") (by decide +kernel)) (fun _ h9 => h9) rfl dX12_count_54 ?_
    exact W.iret (v := 0) hx hb hr (fun t ht hW => ⟨0, rfl, (by decide), ht⟩) (fun q h => absurd h List.not_mem_nil) dX12_count_57
  · refine lv_tableIn (off := 55) (tgt := 58) hx hb dX12_count_3 (by decide) (by decide) rfl (by decide) ?_
    refine lv_aload_n hx hb dX12_count_58 rfl (lv_at hl 1 rfl) ?_
    refine va_get (D := (dC, dI)) (ci := 12) (v := .int 0) (C := RX12) (T := TX12) (N := 49) hx hb hts (by decide +kernel) hown hK hP 0 rfl rfl 1 (by decide) (hts (.fieldLink RX12 120 "JoinBenchModel" "taped" "I") (by decide +kernel)) (fun _ h9 => h9) rfl dX12_count_59 ?_
    exact W.iret (v := 0) hx hb hr (fun t ht hW => ⟨0, rfl, (by decide), ht⟩) (fun q h => absurd h List.not_mem_nil) dX12_count_62
  · refine lv_tableIn (off := 60) (tgt := 63) hx hb dX12_count_3 (by decide) (by decide) rfl (by decide) ?_
    refine lv_aload_n hx hb dX12_count_63 rfl (lv_at hl 1 rfl) ?_
    refine va_get (D := (dC, dI)) (ci := 12) (v := .int 0) (C := RX12) (T := TX12) (N := 49) hx hb hts (by decide +kernel) hown hK hP 0 rfl rfl 26 (by decide) (hts (.fieldLink RX12 169 "JoinBenchModel" "outMany" "I") (by decide +kernel)) (fun _ h9 => h9) rfl dX12_count_64 ?_
    exact W.iret (v := 0) hx hb hr (fun t ht hW => ⟨0, rfl, (by decide), ht⟩) (fun q h => absurd h List.not_mem_nil) dX12_count_67
  · refine lv_tableIn (off := 65) (tgt := 68) hx hb dX12_count_3 (by decide) (by decide) rfl (by decide) ?_
    refine lv_aload_n hx hb dX12_count_68 rfl (lv_at hl 1 rfl) ?_
    refine va_get (D := (dC, dI)) (ci := 12) (v := .int 0) (C := RX12) (T := TX12) (N := 49) hx hb hts (by decide +kernel) hown hK hP 0 rfl rfl 22 (by decide) (hts (.fieldLink RX12 155 "JoinBenchModel" "rowMany" "I") (by decide +kernel)) (fun _ h9 => h9) rfl dX12_count_69 ?_
    exact W.iret (v := 0) hx hb hr (fun t ht hW => ⟨0, rfl, (by decide), ht⟩) (fun q h => absurd h List.not_mem_nil) dX12_count_72
  · refine lv_tableIn (off := 70) (tgt := 73) hx hb dX12_count_3 (by decide) (by decide) rfl (by decide) ?_
    refine lv_aload_n hx hb dX12_count_73 rfl (lv_at hl 1 rfl) ?_
    refine va_get (D := (dC, dI)) (ci := 12) (v := .int 0) (C := RX12) (T := TX12) (N := 49) hx hb hts (by decide +kernel) hown hK hP 0 rfl rfl 46 (by decide) (hts (.fieldLink RX12 250 "JoinBenchModel" "choices" "I") (by decide +kernel)) (fun _ h9 => h9) rfl dX12_count_74 ?_
    exact W.iret (v := 0) hx hb hr (fun t ht hW => ⟨0, rfl, (by decide), ht⟩) (fun q h => absurd h List.not_mem_nil) dX12_count_77
  · refine lv_tableIn (off := 75) (tgt := 78) hx hb dX12_count_3 (by decide) (by decide) rfl (by decide) ?_
    refine lv_aload_n hx hb dX12_count_78 rfl (lv_at hl 1 rfl) ?_
    refine va_get (D := (dC, dI)) (ci := 12) (v := .int 1) (C := RX12) (T := TX12) (N := 49) hx hb hts (by decide +kernel) hown hK hP 0 rfl rfl 20 (by decide) (hts (.fieldLink RX12 63 "JoinBenchModel" "step" "I") (by decide +kernel)) (fun _ h9 => h9) rfl dX12_count_79 ?_
    exact W.iret (v := 1) hx hb hr (fun t ht hW => ⟨1, rfl, (by decide), ht⟩) (fun q h => absurd h List.not_mem_nil) dX12_count_82
  · refine lv_tableIn (off := 80) (tgt := 83) hx hb dX12_count_3 (by decide) (by decide) rfl (by decide) ?_
    refine lv_iconst (v := 0) hx hb dX12_count_83 (by decide) ?_
    refine lv_istore_n (lv' := [(3, .int 0), (2, .int 0), (0, .ref m0), (1, .int 7)]) hx hb dX12_count_84 rfl hl (by decide) rfl (fun ls hl => ?_)
    refine lv_iload_n hx hb dX12_count_85 rfl (lv_at hl 0 rfl) ?_
    refine lv_aload_n hx hb dX12_count_86 rfl (lv_at hl 2 rfl) ?_
    refine va_get (D := (dC, dI)) (ci := 12) (v := .int 0) (C := RX12) (T := TX12) (N := 49) hx hb hts (by decide +kernel) hown hK hP 0 rfl rfl 22 (by decide) (hts (.fieldLink RX12 155 "JoinBenchModel" "rowMany" "I") (by decide +kernel)) (fun _ h9 => h9) rfl dX12_count_87 ?_
    refine lv_icmp_ge (tgt := 138) hx hb dX12_count_90 (by decide) (fun c_2 => ?_) (fun c_2 => ?_)
    rotate_left
    · exact absurd (by decide) c_2
    refine lv_iload_n hx hb dX12_count_138 rfl (lv_at hl 1 rfl) ?_
    exact W.iret (v := 0) hx hb hr (fun t ht hW => ⟨0, rfl, (by decide), ht⟩) (fun q h => absurd h List.not_mem_nil) dX12_count_139
