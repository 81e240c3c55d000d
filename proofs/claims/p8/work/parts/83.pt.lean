set_option maxHeartbeats 4000000 in
set_option maxRecDepth 100000 in
theorem c_hasOnlyLettersE (l : Launch) (dC : Nat → ClassId) (dI : Nat → Nat → Nat) (ca : Nat → ClassId) (a0 bytes_2 : Nat) (size_2 : Int) (f_4 : Nat → Int32) (size_2r : 0 ≤ size_2 ∧ size_2 ≤ 60) : Met l yX8_hasOnlyLetters wsX8_hasOnlyLetters ({ frames := 0, cells := 0, slots := 0, locals := 0 }) (va_Pc [.ref a0] (fun U => jK (dC, dI) ca U ∧ va_at (dC, dI) vwCl (a0, .inr (8, [.ref bytes_2, .int (kz size_2)])) U.heap ∧ va_at (dC, dI) vwCl (bytes_2, .inl (ca 21, 60, .inl f_4)) U.heap)) (vp_Si (fun r => bZ r (∀ z : Int, 0 ≤ z → z < size_2 → 97 ≤ ge1 f_4 z ∧ ge1 f_4 z ≤ 122))) 0 0 (fun _ => False) := by
  refine Met.ofW (cc := cX8_hasOnlyLetters) (maxL := 2) (ret := (some .boolean)) (by decide) rfl ?_
  intro p e s m args below meth c s₁ B hml hv
  obtain ⟨rfl, ⟨hK, hN⟩, co_2, c_f_4⟩ := hv
  have hx := B.exec
  have hb := B.bytes
  have hr := B.returns
  have hts := atoms_spec (ws := wsX8_hasOnlyLetters) B.pre
  have hown : s.vm.findClass RX8 = some m.cls := findClass_of_methodNamed B.named
  have hL15 := hts (.fieldLink RX8 15 "JoinBench$Tape" "size" "I") (by decide +kernel)
  have hL9 := hts (.fieldLink RX8 9 "JoinBench$Tape" "bytes" "[B") (by decide +kernel)
  have hinX8 : ∀ w ∈ u_ws RX8 TX8 2, w ∈ wsX8_hasOnlyLetters := by decide +kernel
  have hl := lv_entry ([.ref a0]) (n := 2) (Nat.le_of_ble_eq_true rfl)
  rw [lg_entry_eq]
  generalize (lg_sl ([.ref a0]) ++ List.replicate (2 - (lg_sl ([.ref a0])).length) Slot.unset).toArray = ls at hl ⊢
  have hl : lv_has ls 2 [(0, .ref a0)] := hl
  refine lv_iconst (v := kz 0) hx hb dX8_hasOnlyLetters_0 rfl ?_
  refine lv_istore_n (lv' := [(1, .int (kz 0)), (0, .ref a0)]) hx hb dX8_hasOnlyLetters_1 rfl hl (by decide) rfl (fun ls hl => ?_)
  refine iz_loopS1 (P := fun N9 k ls => (0 ≤ k) ∧ (k ≤ 60) ∧ 60 - k ≤ (N9 : Int) ∧ lv_has ls 2 [(1, .int (kz k)), (0, .ref a0)] ∧ (∀ z : Int, 0 ≤ z → z < k → 97 ≤ ge1 f_4 z ∧ ge1 f_4 z ≤ 122)) 100000 (x0 := 0) ?_ ⟨by omega, by omega, by omega, lv_sub hl [0, 1] rfl, fun z h1 h2 => absurd h2 (by omega)⟩
  intro n_1 k ls ⟨n_1f0, n_1f1, n_1f2, hl, hall⟩ ihn_1
  refine lv_iload_n hx hb dX8_hasOnlyLetters_2 rfl (lv_at hl 0 rfl) ?_
  refine lv_aload_n hx hb dX8_hasOnlyLetters_3 rfl (lv_at hl 1 rfl) ?_
  refine iz_get (D := (dC, dI)) (ci := 8) (v := .int (kz size_2)) (C := RX8) (T := TX8) (N := 2) hx hb hts hinX8 hown hK co_2 rfl 1 (by decide) hL15 (fun _ h9 => h9) rfl dX8_hasOnlyLetters_4 ?_
  refine iz_ge (tgt := 40) hx hb dX8_hasOnlyLetters_7 (by decide) (by unfold rg2; omega) (fun br_3 => ?_) (fun br_3 => ?_)
  · refine lv_iconst (v := kz 1) hx hb dX8_hasOnlyLetters_40 rfl ?_
    exact W.zret (v := kz 1) hx hb hr (by decide) (fun t9 ht hW => ⟨kz 1, rfl, Or.inl ⟨rfl, fun z h1 h2 => hall z h1 (by omega)⟩, ht⟩) (fun q h => absurd h List.not_mem_nil) dX8_hasOnlyLetters_41
  · refine lv_aload_n hx hb dX8_hasOnlyLetters_10 rfl (lv_at hl 1 rfl) ?_
    refine iz_get (D := (dC, dI)) (ci := 8) (v := .ref bytes_2) (C := RX8) (T := TX8) (N := 2) hx hb hts hinX8 hown hK co_2 rfl 0 (by decide) hL9 (fun _ h9 => h9) rfl dX8_hasOnlyLetters_11 ?_
    refine lv_iload_n hx hb dX8_hasOnlyLetters_14 rfl (lv_at hl 0 rfl) ?_
    refine iz_bald hx hb hK 1 c_f_4 rfl (by omega) (by decide) dX8_hasOnlyLetters_15 ?_
    have v_5a := kz_lo (f_4 (Int.toNat k))
    have v_5b := kz_hi (f_4 (Int.toNat k))
    change _ ≤ ge1 f_4 k at v_5a
    change ge1 f_4 k ≤ _ at v_5b
    obtain ⟨v_5, ev_5⟩ : ∃ z9 : Int, ge1 f_4 k = z9 := ⟨_, rfl⟩
    rw [ev_5] at v_5a v_5b ⊢
    refine lv_bipush (v := kz 97) hx hb dX8_hasOnlyLetters_16 (by decide) ?_
    refine iz_lt (tgt := 32) hx hb dX8_hasOnlyLetters_18 (by decide) (by unfold rg2; omega) (fun br_6 => ?_) (fun br_6 => ?_)
    · refine lv_iconst (v := kz 0) hx hb dX8_hasOnlyLetters_32 rfl ?_
      exact W.zret (v := kz 0) hx hb hr (by decide) (fun t9 ht hW => ⟨kz 0, rfl, Or.inr ⟨rfl, fun h9 => by have h8 := h9 k (by omega) (by omega); rw [ev_5] at h8; omega⟩, ht⟩) (fun q h => absurd h List.not_mem_nil) dX8_hasOnlyLetters_33
    · refine lv_aload_n hx hb dX8_hasOnlyLetters_21 rfl (lv_at hl 1 rfl) ?_
      refine iz_get (D := (dC, dI)) (ci := 8) (v := .ref bytes_2) (C := RX8) (T := TX8) (N := 2) hx hb hts hinX8 hown hK co_2 rfl 0 (by decide) hL9 (fun _ h9 => h9) rfl dX8_hasOnlyLetters_22 ?_
      refine lv_iload_n hx hb dX8_hasOnlyLetters_25 rfl (lv_at hl 0 rfl) ?_
      refine iz_bald hx hb hK 1 c_f_4 rfl (by omega) (by decide) dX8_hasOnlyLetters_26 ?_
      rw [ev_5]
      refine lv_bipush (v := kz 122) hx hb dX8_hasOnlyLetters_27 (by decide) ?_
      refine iz_le (tgt := 34) hx hb dX8_hasOnlyLetters_29 (by decide) (by unfold rg2; omega) (fun br_7 => ?_) (fun br_7 => ?_)
      · refine lv_iinc (v := kz (k + 1)) (lv' := [(1, .int (kz (k + 1))), (0, .ref a0)]) hx hb dX8_hasOnlyLetters_34 hl (k := 0) rfl (kz_add k 1) (by decide) rfl (fun ls hl => ?_)
        refine lv_goto (tgt := 2) hx hb dX8_hasOnlyLetters_37 (by decide) ?_
        exact ihn_1 (n_1 - 1) (by omega) (k + 1) _ ⟨by omega, by omega, by omega, lv_sub hl [0, 1] rfl, fun z h1 h2 => by
          by_cases e9 : z = k
          · rw [e9, ev_5]; omega
          · exact hall z h1 (by omega)⟩
      · refine lv_iconst (v := kz 0) hx hb dX8_hasOnlyLetters_32 rfl ?_
        exact W.zret (v := kz 0) hx hb hr (by decide) (fun t9 ht hW => ⟨kz 0, rfl, Or.inr ⟨rfl, fun h9 => by have h8 := h9 k (by omega) (by omega); rw [ev_5] at h8; omega⟩, ht⟩) (fun q h => absurd h List.not_mem_nil) dX8_hasOnlyLetters_33
set_option maxHeartbeats 4000000 in
set_option maxRecDepth 100000 in
theorem j_partG (l : Launch) (dC : Nat → ClassId) (dI : Nat → Nat → Nat) (ca : Nat → ClassId) (A : Nat → Prop) (X : jG) (hU : jU X) (Hp : Heap) (o : Nat) (j_tape : Nat) (j_tongue : Nat) (j_row : Nat) (j_trees : Nat) (j_choices : Nat) (st : Int) (day : Int) (bytes_1 : Nat) (size_1 : Int) (f1 : Nat → Int32) (g_o : X.1 o = (999, 0, 0, 0, 0)) (hAo : A o) (g_j_tape : X.1 j_tape = (8, 30, 0, 0, 0)) (g_j_tongue : X.1 j_tongue = (9, 30, 0, 0, 0)) (g_j_row : X.1 j_row = (6, 30, 0, 0, 0)) (g_j_trees : X.1 j_trees = (10, 30, 0, 0, 0)) (g_j_choices : X.1 j_choices = (1, 30, 0, 0, 0)) (hst : 0 ≤ st ∧ st ≤ 20) (dayr : -2147483648 ≤ day ∧ day ≤ 2147483647) (hA9 : ∀ q : Nat, Hp.size ≤ q → A q) (hno_4 : ∀ q : Nat, X.1 q ≠ (4, 30, 0, 0, 0)) (hno_226 : ∀ q : Nat, X.1 q ≠ (226, 26, 8, 0, 0)) (hno_227 : ∀ q : Nat, X.1 q ≠ (226, 26, 8, 1, 0)) (hno_228 : ∀ q : Nat, X.1 q ≠ (228, 20, 8, -2147483648, 2147483647)) (hno_3 : ∀ q : Nat, X.1 q ≠ (3, 30, 0, 0, 0)) (hno_219 : ∀ q : Nat, X.1 q ≠ (219, 27, 40, 232, 160)) (hno_204 : ∀ q : Nat, X.1 q ≠ (204, 21, 40, 0, 0)) (hno_220 : ∀ q : Nat, X.1 q ≠ (220, 23, 160, 0, 0)) (hno_221 : ∀ q : Nat, X.1 q ≠ (221, 28, 40, 233, 40)) (hno_222 : ∀ q : Nat, X.1 q ≠ (222, 27, 40, 234, 40)) (hno_223 : ∀ q : Nat, X.1 q ≠ (223, 28, 40, 235, 144)) (hno_224 : ∀ q : Nat, X.1 q ≠ (224, 27, 40, 236, 144)) (hno_225 : ∀ q : Nat, X.1 q ≠ (225, 22, 36, 0, 0)) (hfid : fidL X [0, 1, 2, 3, 4, 5, 6, 7, 8, 9, 10, 11, 12, 13, 14, 15]) (g_bytes_1 : X.1 bytes_1 = (200, 21, 60, 0, 0)) (hsz1 : 1 ≤ size_1 ∧ size_1 ≤ 40) (hlet : (∀ z : Int, 0 ≤ z → z < size_1 → 97 ≤ ge1 f1 z ∧ ge1 f1 z ≤ 122)) (hday : 0 ≤ day ∧ day ≤ 999) : Met l yX11_part wsX11_part ({ frames := 7, cells := 277, slots := 23025, locals := 164 }) (va_Pc [.ref o, .int (kz day)] (fun U => U.heap = Hp ∧ jK (dC, dI) ca U ∧ jv (dC, dI) ca A X U.heap ∧ va_at (dC, dI) vwCl (o, .inr (11, [.ref j_tape, .ref j_tongue, .ref j_row, .ref j_trees, .ref j_choices, va_rf none, .int (kz st)])) U.heap ∧ va_at (dC, dI) vwCl (j_tape, .inr (8, [.ref bytes_1, .int (kz size_1)])) U.heap ∧ va_at (dC, dI) vwCl (bytes_1, .inl (ca 21, 60, .inl f1)) U.heap)) (va_Ql (fun (r : Int64) (u : jG × Int × Option Nat) => prl X u.1 o [0, 3, 4, 5, 204, 210, 211, 219, 220, 221, 222, 223, 224, 225, 226, 228, 232, 233, 234, 235, 236] ∧ u.2.1 = st ∧ (∀ b : Nat, u.2.2 = some b → u.1.1 b = (4, 30, 0, 0, 0)) ∧ (u.2.2 = none → False)) (fun (u : jG × Int × Option Nat) U => jK (dC, dI) ca U ∧ jv (dC, dI) ca A u.1 U.heap ∧ va_at (dC, dI) vwCl (o, .inr (11, [.ref j_tape, .ref j_tongue, .ref j_row, .ref j_trees, .ref j_choices, va_rf u.2.2, .int (kz u.2.1)])) U.heap) A) 277 23025 A := by
  refine Met.ofW (cc := cX11_part) (maxL := 4) (ret := (some .long)) (by decide) rfl ?_
  intro p e s m args below meth c s₁ B hml hv
  obtain ⟨rfl, hHp, ⟨hK, hN⟩, hI, hO, co_1, c_f1⟩ := hv
  have hx := B.exec
  have hb := B.bytes
  have hr := B.returns
  have hts := atoms_spec (ws := wsX11_part) B.pre
  have hown : s.vm.findClass RX11 = some m.cls := findClass_of_methodNamed B.named
  have hL12 := hts (.fieldLink RX11 12 "JoinBench" "tape" "LJoinBench$Tape;") (by decide +kernel)
  have hL60 := hts (.fieldLink RX11 60 "JoinBench$Tape" "size" "I") (by decide +kernel)
  have hL44 := hts (.fieldLink RX11 44 "JoinBench" "parter" "LJoinBench$Parter;") (by decide +kernel)
  have hL19 := hts (.fieldLink RX11 19 "JoinBench" "tongue" "LJoinBench$Tongue;") (by decide +kernel)
  have hL181 := hts (.fieldLink RX11 181 "JoinBench$Tape" "bytes" "[B") (by decide +kernel)
  have hL191 := hts (.fieldLink RX11 191 "JoinBench$Parter" "counted" "J") (by decide +kernel)
  have hinX11 : ∀ w ∈ u_ws RX11 TX11 7, w ∈ wsX11_part := by decide +kernel
  have hinX4 : ∀ w ∈ u_ws RX4 TX4 10, w ∈ wsX11_part := by decide +kernel
  have hinX8 : ∀ w ∈ u_ws RX8 TX8 2, w ∈ wsX11_part := by decide +kernel
  obtain ⟨H, hH⟩ : ∃ H : Heap, H = s.heap := ⟨_, rfl⟩
  have hS : va_S A s.heap H [] := by rw [hH]; exact va_S.rf
  have hF : kfm X [3, 4, 204, 220, 225, 232, 233, 234, 235, 236] Hp H := by rw [hH, hHp]; exact fm_rf _ _ _
  clear hF
  obtain ⟨n0, hn0⟩ : ∃ n9 : Nat, n9 = Hp.size := ⟨_, rfl⟩
  have hA : ∀ q : Nat, n0 ≤ q → A q := by rw [hn0]; exact hA9
  have hsz : s.heap.size = n0 := by rw [hn0, hHp]
  have hP := prl_rf o [0, 3, 4, 5, 204, 210, 211, 219, 220, 221, 222, 223, 224, 225, 226, 228, 232, 233, 234, 235, 236] hU
  rw [← hH] at hI hO co_1 c_f1 ⊢
  clear hH
  have hl := lv_entry ([.ref o, .int (kz day)]) (n := 4) (Nat.le_of_ble_eq_true rfl)
  rw [lg_entry_eq]
  generalize (lg_sl ([.ref o, .int (kz day)]) ++ List.replicate (4 - (lg_sl ([.ref o, .int (kz day)])).length) Slot.unset).toArray = ls at hl ⊢
  have hl : lv_has ls 4 [(0, .ref o), (1, .int (kz day))] := hl
  refine lv_aload_n hx hb dX11_part_0 rfl (lv_at hl 0 rfl) ?_
  refine iz_get (D := (dC, dI)) (ci := 11) (v := .ref j_tape) (C := RX11) (T := TX11) (N := 7) hx hb hts hinX11 hown hK hO rfl 0 (by decide) hL12 (fun _ h9 => h9) rfl dX11_part_1 ?_
  refine iz_get (D := (dC, dI)) (ci := 8) (v := .int (kz size_1)) (C := RX8) (T := TX8) (N := 2) hx hb hts hinX8 hown hK co_1 rfl 1 (by decide) hL60 (fun _ h9 => h9) rfl dX11_part_4 ?_
  refine lv_iconst (v := kz 1) hx hb dX11_part_7 rfl ?_
  refine lv_bipush (v := kz 40) hx hb dX11_part_8 (by decide) ?_
  refine vp_callSi (va_Run.run (va_runS (As := [.int (kz size_1), .int (kz 1), .int (kz 40)]) (rest := []) ⟨hx, hb, hml, hown, hts⟩ (c_within l size_1 1 40 (by omega) (by omega) (by omega)) (va_cwS 3 hts gX11_part_X11_within rfl rfl rfl (by decide +kernel) ⟨Nat.le_of_ble_eq_true rfl, Nat.le_of_ble_eq_true rfl⟩) ⟨fun a U g mk q => q, fun U hU hW => ⟨rfl, trivial⟩⟩ rfl rfl hl.1 rfl (lv_room (Nat.le_of_ble_eq_true rfl)) dX11_part_10 ⟨Nat.le_of_ble_eq_true rfl, Nat.le_of_ble_eq_true rfl⟩)) (fun r_3 hw_2 => ?_)
  rcases hw_2 with ⟨rfl, hw_2⟩ | ⟨rfl, hw_2⟩
  · refine iz_eqz (tgt := 37) hx hb dX11_part_13 (by decide) (by unfold rg2; omega) (fun q9 => absurd q9 (by decide)) (fun _ => ?_)
    refine lv_aload_n hx hb dX11_part_16 rfl (lv_at hl 0 rfl) ?_
    refine iz_get (D := (dC, dI)) (ci := 11) (v := .ref j_tape) (C := RX11) (T := TX11) (N := 7) hx hb hts hinX11 hown hK hO rfl 0 (by decide) hL12 (fun _ h9 => h9) rfl dX11_part_17 ?_
    refine vp_callSi (va_Run.run (va_runV (As := []) (rest := []) ⟨hx, hb, hml, hown, hts⟩ (c_hasOnlyLettersE l dC dI ca j_tape bytes_1 size_1 f1 (by omega)) (cwV 0 hts gX11_part_X8_hasOnlyLetters rfl rfl rfl (by decide +kernel) ⟨Nat.le_of_ble_eq_true rfl, Nat.le_of_ble_eq_true rfl⟩) ⟨fun a U g mk q => by obtain ⟨q0, ⟨qK, qN⟩, qI⟩ := q; exact ⟨q0, ⟨va_K.moved (u := U) (U := U.calling g mk a) (Vm.Alike.refl U.vm) qK, jN_same (U := U.calling g mk a) rfl qN⟩, qI⟩, va_recv hK (at_P co_1) (ci := 8) (q0 := 0) rfl rfl, fun U hU hW => ⟨rfl, jK_warm hW ⟨hK, hN⟩, by rw [hU]; exact ⟨co_1, c_f1⟩⟩⟩ rfl rfl hl.1 rfl (lv_room (Nat.le_of_ble_eq_true rfl)) dX11_part_20 ⟨Nat.le_of_ble_eq_true rfl, Nat.le_of_ble_eq_true rfl⟩)) (fun r_5 hw_4 => ?_)
    rcases hw_4 with ⟨rfl, hw_4⟩ | ⟨rfl, hw_4⟩
    · refine iz_eqz (tgt := 37) hx hb dX11_part_23 (by decide) (by unfold rg2; omega) (fun q9 => absurd q9 (by decide)) (fun _ => ?_)
      refine lv_iload_n hx hb dX11_part_26 rfl (lv_at hl 1 rfl) ?_
      refine vp_callSi (va_Run.run (va_runS (As := [.int (kz day)]) (rest := []) ⟨hx, hb, hml, hown, hts⟩ (c_isDay l day (by omega)) (va_cwS 1 hts gX11_part_X11_isDay rfl rfl rfl (by decide +kernel) ⟨Nat.le_of_ble_eq_true rfl, Nat.le_of_ble_eq_true rfl⟩) ⟨fun a U g mk q => q, fun U hU hW => ⟨rfl, trivial⟩⟩ rfl rfl hl.1 rfl (lv_room (Nat.le_of_ble_eq_true rfl)) dX11_part_27 ⟨Nat.le_of_ble_eq_true rfl, Nat.le_of_ble_eq_true rfl⟩)) (fun r_7 hw_6 => ?_)
      rcases hw_6 with ⟨rfl, hw_6⟩ | ⟨rfl, hw_6⟩
      · refine iz_eqz (tgt := 37) hx hb dX11_part_30 (by decide) (by unfold rg2; omega) (fun q9 => absurd q9 (by decide)) (fun _ => ?_)
        refine lv_iconst (v := kz 1) hx hb dX11_part_33 rfl ?_
        refine lv_goto (tgt := 38) hx hb dX11_part_34 (by decide) ?_
        refine lv_istore_n (lv' := [(2, .int (kz 1)), (0, .ref o), (1, .int (kz day))]) hx hb dX11_part_38 rfl hl (by decide) rfl (fun ls hl => ?_)
        refine lv_aload_n hx hb dX11_part_39 rfl (lv_at hl 1 rfl) ?_
        refine iz_get (D := (dC, dI)) (ci := 11) (v := .ref j_tape) (C := RX11) (T := TX11) (N := 7) hx hb hts hinX11 hown hK hO rfl 0 (by decide) hL12 (fun _ h9 => h9) rfl dX11_part_40 ?_
        refine iz_get (D := (dC, dI)) (ci := 8) (v := .int (kz size_1)) (C := RX8) (T := TX8) (N := 2) hx hb hts hinX8 hown hK co_1 rfl 1 (by decide) hL60 (fun _ h9 => h9) rfl dX11_part_43 ?_
        refine lv_istore_n (lv' := [(3, .int (kz size_1)), (2, .int (kz 1)), (0, .ref o), (1, .int (kz day))]) hx hb dX11_part_46 rfl hl (by decide) rfl (fun ls hl => ?_)
        refine lv_aload_n hx hb dX11_part_47 rfl (lv_at hl 2 rfl) ?_
        refine iz_get (D := (dC, dI)) (ci := 11) (v := .ref j_tape) (C := RX11) (T := TX11) (N := 7) hx hb hts hinX11 hown hK hO rfl 0 (by decide) hL12 (fun _ h9 => h9) rfl dX11_part_48 ?_
        refine lv_iconst (v := kz 0) hx hb dX11_part_51 rfl ?_
        refine iz_put (D := (dC, dI)) (ci := 8) (v := .int (kz 0)) (ty := .int) (C := RX8) (T := TX8) (N := 2) hx hb hts hinX8 tyX8 tyX8_ok nmX8 hown hK co_1 hS (jv_A hI g_j_tape (show (30 : Nat) ≠ 0 by decide)) rfl 1 (by decide) hL60 (fun _ h9 => h9) rfl (by decide +kernel) rfl rfl (Nat.le_of_ble_eq_true rfl) dX11_part_52 (fun H locs c9 oq hS => ?_)
        have hI := jv_set hI c9 oq (by rw [g_j_tape]; exact jv_c8 ⟨bytes_1, 0, rfl, g_bytes_1, ⟨by omega, by omega⟩⟩)
        have hO := hO.kept (oq _ (kn_ne g_o g_j_tape (show (999 : Nat) ≠ 8 by decide)))
        have co_1 := c9
        clear oq c9
        refine lv_iload_n hx hb dX11_part_55 rfl (lv_at hl 1 rfl) ?_
        refine iz_nez (tgt := 63) hx hb dX11_part_56 (by decide) (by unfold rg2; omega) (fun _ => ?_) (fun q9 => absurd q9 (by decide))
        refine lv_aload_n hx hb dX11_part_63 rfl (lv_at hl 2 rfl) ?_
        refine iz_get (D := (dC, dI)) (ci := 11) (v := .null) (C := RX11) (T := TX11) (N := 7) hx hb hts hinX11 hown hK hO rfl 5 (by decide) hL44 (fun _ h9 => h9) rfl dX11_part_64 ?_
        refine lv_ifnonnullN hx hb dX11_part_67 ?_
        refine lv_aload_n hx hb dX11_part_70 rfl (lv_at hl 2 rfl) ?_
        have hzH : n0 ≤ H.size := by have h8 := hS.1; omega
        refine jz_new (ci := 4) (fs := [.long 0, .long 0, .int (kz 0), .null, .int (kz 0), .null, .null, .int (kz 0), .null, .null]) (C := RX4) (T := TX4) (N := 10) hx hb hts (by decide +kernel) tyX4 tyX4_ok hown (hts (.classLink RX11 176 RX4) (by decide +kernel)) (hts (.instantiable RX4 10) (by decide +kernel)) (hts (.initialized RX4) (by decide +kernel)) hK hS rfl (fun j hj => by rcases (show j = 0 ∨ j = 1 ∨ j = 2 ∨ j = 3 ∨ j = 4 ∨ j = 5 ∨ j = 6 ∨ j = 7 ∨ j = 8 ∨ j = 9 by omega) with rfl | rfl | rfl | rfl | rfl | rfl | rfl | rfl | rfl | rfl <;> rfl) (Nat.le_of_ble_eq_true rfl) (Nat.le_of_ble_eq_true rfl) dX11_part_71 (fun x_8 H hx9 c_x_8 oq hz9 hS => ?_)
        have h0_x_8 : (X.1 x_8).2.1 = 0 := jv_out hI (by omega)
        have hge_x_8 : n0 ≤ x_8 := by omega
        have hne_x_8_o : x_8 ≠ o := by have h9 := hO.lt; omega
        have hO := hO.kept (oq _ hO.lt)
        have co_1 := co_1.kept (oq _ co_1.lt)
        have hI := jv_keep hI (fun q hq => oq q (jv_lt hI hq))
        clear oq hz9 hx9
        refine lv_dup hx hb dX11_part_74 rfl ?_
        refine lv_aload_n hx hb dX11_part_75 rfl (lv_at hl 2 rfl) ?_
        refine iz_get (D := (dC, dI)) (ci := 11) (v := .ref j_tongue) (C := RX11) (T := TX11) (N := 7) hx hb hts hinX11 hown hK hO rfl 1 (by decide) hL19 (fun _ h9 => h9) rfl dX11_part_76 ?_
        have hzH : n0 ≤ H.size := by have h8 := hS.1; omega
        have hxl := c_x_8.lt
        have hIA := hI
        refine va_callv (va_runI (As := [.ref j_tongue]) (rest := [.ref x_8, .ref o]) ⟨hx, hb, hml, hown, hts⟩ (k_Parter l dC dI ca X hU x_8 H.size j_tongue h0_x_8 g_j_tongue hno_4 hno_226 hno_227 hno_228 hno_3 hno_219 hno_204 hno_220 hno_221 hno_222 hno_223 hno_224 hno_225 hfid) (cwI 1 hts gX11_part_X4_init rfl rfl rfl (hts (.initialized RX4) (by decide +kernel)) (hts (.methodLink RX11 178 yX4_init) (by decide +kernel)) (hts (.instanceMethod yX4_init) (by decide +kernel)) rfl (by decide +kernel) ⟨Nat.le_of_ble_eq_true rfl, Nat.le_of_ble_eq_true rfl⟩) ⟨fun a U g mk q => by obtain ⟨q0, q1, ⟨qK, qN⟩, qI⟩ := q; exact ⟨q0, q1, ⟨va_K.moved (u := U) (U := U.calling g mk a) (Vm.Alike.refl U.vm) qK, jN_same (U := U.calling g mk a) rfl qN⟩, qI⟩, fun U hU9 hW => ⟨rfl, by rw [hU9], jK_warm hW ⟨hK, hN⟩, by rw [hU9]; exact ⟨jv_A2 hI (fun _ _ => trivial), c_x_8⟩⟩⟩ rfl rfl hl.1 rfl (lv_room (Nat.le_of_ble_eq_true rfl)) dX11_part_79 ⟨(Nat.le_of_ble_eq_true rfl), (Nat.le_of_ble_eq_true rfl)⟩) hS (fun q h8 h9 => h9.elim (fun e9 => by rw [e9]; exact (hA _ hge_x_8)) (fun e9 => absurd e9 (by omega))) (fun q h9 => h9.elim (fun e9 => by rw [e9]; exact (hA _ hge_x_8)) (fun e9 => hA q (by omega))) (fun X t9 H locs ht hvm hw_9 hB hz1 hk1 hS => ?_)
        obtain ⟨hw_9, hw_9g, hU⟩ := hw_9
        obtain ⟨-, hI⟩ := hB
        rw [ht] at hI
        clear ht hvm
        have hI := jv_A2 hI (nw_A hIA hw_9 (hA _ hge_x_8) (fun q h8 => hA q (Nat.le_trans hzH h8)))
        clear hIA
        have hle9 := nw_le hw_9
        have h9o := hO.lt
        have hO := hO.kept (hk1 _ h9o (fun e9 => e9.elim (Ne.symm hne_x_8_o) (fun e8 => absurd e8 (by omega))))
        have g_o : X.1 o = (999, 0, 0, 0, 0) := (nw_eq hw_9 (Ne.symm hne_x_8_o) h9o).trans g_o
        have h9 := co_1.lt
        have co_1 := co_1.kept (hk1 _ h9 (fun e9 => e9.elim (kn_ne0 g_j_tape h0_x_8 (show (30 : Nat) ≠ 0 by decide)) (fun e8 => absurd e8 (by omega))))
        have hP := prl_nw hP hw_9 hU ((Ne.symm hne_x_8_o)) h9o (by decide +kernel)
        have g_j_tape := le_t hle9 g_j_tape (show (30 : Nat) ≠ 0 by decide)
        have g_j_tongue := le_t hle9 g_j_tongue (show (30 : Nat) ≠ 0 by decide)
        have g_j_row := le_t hle9 g_j_row (show (30 : Nat) ≠ 0 by decide)
        have g_j_trees := le_t hle9 g_j_trees (show (30 : Nat) ≠ 0 by decide)
        have g_j_choices := le_t hle9 g_j_choices (show (30 : Nat) ≠ 0 by decide)
        have g_bytes_1 := le_t hle9 g_bytes_1 (show (21 : Nat) ≠ 0 by decide)
        clear hle9 hxl hk1 hz1
        have g_x_8 := hw_9g
        refine iz_put (D := (dC, dI)) (ci := 11) (v := .ref x_8) (ty := .object "JoinBench$Parter") (C := RX11) (T := TX11) (N := 7) hx hb hts hinX11 tyX11 tyX11_ok nmX11 hown hK hO hS hAo rfl 5 (by decide) hL44 (fun _ h9 => h9) rfl (by decide +kernel) rfl rfl (Nat.le_of_ble_eq_true rfl) dX11_part_82 (fun H locs c9 oq hS => ?_)
        have hI := jv_skip hI (by rw [g_o]) oq
        have co_1 := co_1.kept (oq _ (kn_ne g_j_tape g_o (show (8 : Nat) ≠ 999 by decide)))
        have hO := c9
        clear oq c9
        refine lv_aload_n hx hb dX11_part_85 rfl (lv_at hl 2 rfl) ?_
        refine iz_get (D := (dC, dI)) (ci := 11) (v := .ref x_8) (C := RX11) (T := TX11) (N := 7) hx hb hts hinX11 hown hK hO rfl 5 (by decide) hL44 (fun _ h9 => h9) rfl dX11_part_86 ?_
        refine lv_aload_n hx hb dX11_part_89 rfl (lv_at hl 2 rfl) ?_
        refine iz_get (D := (dC, dI)) (ci := 11) (v := .ref j_tape) (C := RX11) (T := TX11) (N := 7) hx hb hts hinX11 hown hK hO rfl 0 (by decide) hL12 (fun _ h9 => h9) rfl dX11_part_90 ?_
        refine iz_get (D := (dC, dI)) (ci := 8) (v := .ref bytes_1) (C := RX8) (T := TX8) (N := 2) hx hb hts hinX8 hown hK co_1 rfl 0 (by decide) hL181 (fun _ h9 => h9) rfl dX11_part_93 ?_
        refine lv_iload_n hx hb dX11_part_96 rfl (lv_at hl 0 rfl) ?_
        refine lv_iload_n hx hb dX11_part_97 rfl (lv_at hl 3 rfl) ?_
        obtain ⟨fs9, co_10, jo9⟩ := jv_o4 hI g_x_8
        obtain ⟨pp_10, countedUncut_10, counted_10, left_10, told_10, toldCount_10, grown_10, keys_10, keyCount_10, tongue_10, lattice_10, rfl, ⟨left_10a, left_10b⟩, g_told_10, ⟨toldCount_10a, toldCount_10b⟩, g_grown_10, g_keys_10, ⟨keyCount_10a, keyCount_10b⟩, g_tongue_10, g_lattice_10, x_10_0, x_10_1⟩ := jo9
        have e9 : j_tongue = tongue_10 := jU_eq hU g_j_tongue g_tongue_10 (show (30 : Nat) ≠ 0 by decide) (show uq 9 = true by decide)
        subst e9
        refine va_callv (va_runV (As := [.ref bytes_1, .int (kz size_1), .int (kz day)]) (rest := []) ⟨hx, hb, hml, hown, hts⟩ (c_countLine l dC dI ca A X hU H x_8 bytes_1 size_1 day g_x_8 g_bytes_1 (by omega) (by omega)) (cwV 3 hts gX11_part_X4_countLine rfl rfl rfl (by decide +kernel) ⟨Nat.le_of_ble_eq_true rfl, Nat.le_of_ble_eq_true rfl⟩) ⟨fun a U g mk q => by obtain ⟨q0, qH, ⟨qK, qN⟩, qI⟩ := q; exact ⟨q0, qH, ⟨va_K.moved (u := U) (U := U.calling g mk a) (Vm.Alike.refl U.vm) qK, jN_same (U := U.calling g mk a) rfl qN⟩, qI⟩, va_recv hK (at_P co_10) (ci := 4) (q0 := 0) rfl rfl, fun U hU hW => ⟨rfl, hU, jK_warm hW ⟨hK, hN⟩, by rw [hU]; exact hI⟩⟩ rfl rfl hl.1 rfl (lv_room (Nat.le_of_ble_eq_true rfl)) dX11_part_98 ⟨Nat.le_of_ble_eq_true rfl, Nat.le_of_ble_eq_true rfl⟩) hS (fun q _ h => h) (fun q h => h) (fun u t9 H locs ht hvm hw_11 hB hz1 hk1 hS => ?_)
        obtain ⟨-, hI, hf9⟩ := hB
        rw [ht] at hI hf9
        clear ht hvm hz1
        have hO := fm_at hf9 g_o (show (999 : Nat) ∉ ([3, 4, 204, 220, 225, 232, 233, 234, 235, 236] : List Nat) by decide) hO
        have co_1 := fm_at hf9 g_j_tape (show (8 : Nat) ∉ ([3, 4, 204, 220, 225, 232, 233, 234, 235, 236] : List Nat) by decide) co_1
        clear hk1 hf9
        refine lv_aload_n hx hb dX11_part_101 rfl (lv_at hl 2 rfl) ?_
        refine iz_get (D := (dC, dI)) (ci := 11) (v := .ref x_8) (C := RX11) (T := TX11) (N := 7) hx hb hts hinX11 hown hK hO rfl 5 (by decide) hL44 (fun _ h9 => h9) rfl dX11_part_102 ?_
        obtain ⟨fs9, co_13, jo9⟩ := jv_o4 hI g_x_8
        obtain ⟨pp_13, countedUncut_13, counted_13, left_13, told_13, toldCount_13, grown_13, keys_13, keyCount_13, tongue_13, lattice_13, rfl, ⟨left_13a, left_13b⟩, g_told_13, ⟨toldCount_13a, toldCount_13b⟩, g_grown_13, g_keys_13, ⟨keyCount_13a, keyCount_13b⟩, g_tongue_13, g_lattice_13, x_13_0, x_13_1⟩ := jo9
        have e9 : keys_10 = keys_13 := jU_eq hU g_keys_10 g_keys_13 (show (20 : Nat) ≠ 0 by decide) (show uq 228 = true by decide)
        subst e9
        have e9 : j_tongue = tongue_13 := jU_eq hU g_j_tongue g_tongue_13 (show (30 : Nat) ≠ 0 by decide) (show uq 9 = true by decide)
        subst e9
        have e9 : lattice_10 = lattice_13 := jU_eq hU g_lattice_10 g_lattice_13 (show (30 : Nat) ≠ 0 by decide) (show uq 3 = true by decide)
        subst e9
        refine va_callv (va_runV (As := []) (rest := []) ⟨hx, hb, hml, hown, hts⟩ (c_tell l dC dI ca A X hU H x_8 g_x_8) (cwV 0 hts gX11_part_X4_tell rfl rfl rfl (by decide +kernel) ⟨Nat.le_of_ble_eq_true rfl, Nat.le_of_ble_eq_true rfl⟩) ⟨fun a U g mk q => by obtain ⟨q0, qH, ⟨qK, qN⟩, qI⟩ := q; exact ⟨q0, qH, ⟨va_K.moved (u := U) (U := U.calling g mk a) (Vm.Alike.refl U.vm) qK, jN_same (U := U.calling g mk a) rfl qN⟩, qI⟩, va_recv hK (at_P co_13) (ci := 4) (q0 := 0) rfl rfl, fun U hU hW => ⟨rfl, hU, jK_warm hW ⟨hK, hN⟩, by rw [hU]; exact hI⟩⟩ rfl rfl hl.1 rfl (lv_room (Nat.le_of_ble_eq_true rfl)) dX11_part_105 ⟨Nat.le_of_ble_eq_true rfl, Nat.le_of_ble_eq_true rfl⟩) hS (fun q _ h => h) (fun q h => h) (fun X t9 H locs ht hvm hw_14 hB hz1 hk1 hS => ?_)
        obtain ⟨-, hI, hf9⟩ := hB
        rw [ht] at hI hf9
        clear ht hvm hz1
        have hO := fm_at hf9 g_o (show (999 : Nat) ∉ ([0, 4, 5, 210, 211, 228] : List Nat) by decide) hO
        have g_o := up_t hw_14 g_o
        have g_j_tape := up_t hw_14 g_j_tape
        have g_j_tongue := up_t hw_14 g_j_tongue
        have g_j_row := up_t hw_14 g_j_row
        have g_j_trees := up_t hw_14 g_j_trees
        have g_j_choices := up_t hw_14 g_j_choices
        have g_x_8 := up_t hw_14 g_x_8
        have g_bytes_1 := up_t hw_14 g_bytes_1
        have g_told_10 := up_t hw_14 g_told_10
        have g_grown_10 := up_t hw_14 g_grown_10
        have g_keys_10 := up_t hw_14 g_keys_10
        have g_lattice_10 := up_t hw_14 g_lattice_10
        have g_told_13 := up_t hw_14 g_told_13
        have g_grown_13 := up_t hw_14 g_grown_13
        have hU := up_U hw_14 hU
        have hP := prl_up hP hw_14
        clear hk1 hf9
        refine lv_aload_n hx hb dX11_part_108 rfl (lv_at hl 2 rfl) ?_
        refine iz_get (D := (dC, dI)) (ci := 11) (v := .ref x_8) (C := RX11) (T := TX11) (N := 7) hx hb hts hinX11 hown hK hO rfl 5 (by decide) hL44 (fun _ h9 => h9) rfl dX11_part_109 ?_
        obtain ⟨fs9, co_16, jo9⟩ := jv_o4 hI g_x_8
        obtain ⟨pp_16, countedUncut_16, counted_16, left_16, told_16, toldCount_16, grown_16, keys_16, keyCount_16, tongue_16, lattice_16, rfl, ⟨left_16a, left_16b⟩, g_told_16, ⟨toldCount_16a, toldCount_16b⟩, g_grown_16, g_keys_16, ⟨keyCount_16a, keyCount_16b⟩, g_tongue_16, g_lattice_16, x_16_0, x_16_1⟩ := jo9
        have e9 : keys_10 = keys_16 := jU_eq hU g_keys_10 g_keys_16 (show (20 : Nat) ≠ 0 by decide) (show uq 228 = true by decide)
        subst e9
        have e9 : j_tongue = tongue_16 := jU_eq hU g_j_tongue g_tongue_16 (show (30 : Nat) ≠ 0 by decide) (show uq 9 = true by decide)
        subst e9
        have e9 : lattice_10 = lattice_16 := jU_eq hU g_lattice_10 g_lattice_16 (show (30 : Nat) ≠ 0 by decide) (show uq 3 = true by decide)
        subst e9
        refine iz_get (D := (dC, dI)) (ci := 4) (v := .long counted_16) (C := RX4) (T := TX4) (N := 10) hx hb hts hinX4 hown hK co_16 rfl 1 (by decide) hL191 (fun _ h9 => h9) rfl dX11_part_112 ?_
        refine W.widen (k := 277) (n := 23025) (Nat.le_of_ble_eq_true rfl) (Nat.le_of_ble_eq_true rfl) ?_
        exact W.lret (v := counted_16) hx hb hr (fun t9 ht hW => ⟨⟨counted_16, (X, st, some x_8), rfl, ⟨hP, rfl, fun b9 q9 => (by cases q9; exact g_x_8), fun q9 => (by cases q9)⟩, jK_warm hW ⟨hK, hN⟩, by rw [ht]; exact ⟨hI, hO⟩⟩, hS.F ht⟩) hS.2.2 dX11_part_115
      · exact absurd hday hw_6
    · exact absurd hlet hw_4
  · exact absurd hsz1 hw_2
set_option maxHeartbeats 4000000 in
set_option maxRecDepth 100000 in
theorem j_partB (l : Launch) (dC : Nat → ClassId) (dI : Nat → Nat → Nat) (ca : Nat → ClassId) (A : Nat → Prop) (X : jG) (hU : jU X) (Hp : Heap) (o : Nat) (j_tape : Nat) (j_tongue : Nat) (j_row : Nat) (j_trees : Nat) (j_choices : Nat) (st : Int) (day : Int) (bytes_1 : Nat) (size_1 : Int) (f1 : Nat → Int32) (g_o : X.1 o = (999, 0, 0, 0, 0)) (hAo : A o) (g_j_tape : X.1 j_tape = (8, 30, 0, 0, 0)) (g_j_tongue : X.1 j_tongue = (9, 30, 0, 0, 0)) (g_j_row : X.1 j_row = (6, 30, 0, 0, 0)) (g_j_trees : X.1 j_trees = (10, 30, 0, 0, 0)) (g_j_choices : X.1 j_choices = (1, 30, 0, 0, 0)) (hst : 0 ≤ st ∧ st ≤ 20) (dayr : -2147483648 ≤ day ∧ day ≤ 2147483647) (g_bytes_1 : X.1 bytes_1 = (200, 21, 60, 0, 0)) (hsz1 : 0 ≤ size_1 ∧ size_1 ≤ 60) (hbad : ¬ ((1 ≤ size_1 ∧ size_1 ≤ 40) ∧ (∀ z : Int, 0 ≤ z → z < size_1 → 97 ≤ ge1 f1 z ∧ ge1 f1 z ≤ 122) ∧ (0 ≤ day ∧ day ≤ 999))) : Met l yX11_part wsX11_part ({ frames := 7, cells := 0, slots := 0, locals := 164 }) (va_Pc [.ref o, .int (kz day)] (fun U => U.heap = Hp ∧ jK (dC, dI) ca U ∧ jv (dC, dI) ca A X U.heap ∧ va_at (dC, dI) vwCl (o, .inr (11, [.ref j_tape, .ref j_tongue, .ref j_row, .ref j_trees, .ref j_choices, va_rf none, .int (kz st)])) U.heap ∧ va_at (dC, dI) vwCl (j_tape, .inr (8, [.ref bytes_1, .int (kz size_1)])) U.heap ∧ va_at (dC, dI) vwCl (bytes_1, .inl (ca 21, 60, .inl f1)) U.heap)) (va_Ql (fun (r : Int64) (u : Int) => u = st) (fun (u : Int) U => jK (dC, dI) ca U ∧ jv (dC, dI) ca A X U.heap ∧ va_at (dC, dI) vwCl (o, .inr (11, [.ref j_tape, .ref j_tongue, .ref j_row, .ref j_trees, .ref j_choices, va_rf none, .int (kz u)])) U.heap) A) 0 0 A := by
  refine Met.ofW (cc := cX11_part) (maxL := 4) (ret := (some .long)) (by decide) rfl ?_
  intro p e s m args below meth c s₁ B hml hv
  obtain ⟨rfl, hHp, ⟨hK, hN⟩, hI, hO, co_1, c_f1⟩ := hv
  have hx := B.exec
  have hb := B.bytes
  have hr := B.returns
  have hts := atoms_spec (ws := wsX11_part) B.pre
  have hown : s.vm.findClass RX11 = some m.cls := findClass_of_methodNamed B.named
  have hL12 := hts (.fieldLink RX11 12 "JoinBench" "tape" "LJoinBench$Tape;") (by decide +kernel)
  have hL60 := hts (.fieldLink RX11 60 "JoinBench$Tape" "size" "I") (by decide +kernel)
  have hL44 := hts (.fieldLink RX11 44 "JoinBench" "parter" "LJoinBench$Parter;") (by decide +kernel)
  have hL19 := hts (.fieldLink RX11 19 "JoinBench" "tongue" "LJoinBench$Tongue;") (by decide +kernel)
  have hL181 := hts (.fieldLink RX11 181 "JoinBench$Tape" "bytes" "[B") (by decide +kernel)
  have hL191 := hts (.fieldLink RX11 191 "JoinBench$Parter" "counted" "J") (by decide +kernel)
  have hinX11 : ∀ w ∈ u_ws RX11 TX11 7, w ∈ wsX11_part := by decide +kernel
  have hinX4 : ∀ w ∈ u_ws RX4 TX4 10, w ∈ wsX11_part := by decide +kernel
  have hinX8 : ∀ w ∈ u_ws RX8 TX8 2, w ∈ wsX11_part := by decide +kernel
  obtain ⟨H, hH⟩ : ∃ H : Heap, H = s.heap := ⟨_, rfl⟩
  have hS : va_S A s.heap H [] := by rw [hH]; exact va_S.rf
  rw [← hH] at hI hO co_1 c_f1 ⊢
  clear hH
  have hl := lv_entry ([.ref o, .int (kz day)]) (n := 4) (Nat.le_of_ble_eq_true rfl)
  rw [lg_entry_eq]
  generalize (lg_sl ([.ref o, .int (kz day)]) ++ List.replicate (4 - (lg_sl ([.ref o, .int (kz day)])).length) Slot.unset).toArray = ls at hl ⊢
  have hl : lv_has ls 4 [(0, .ref o), (1, .int (kz day))] := hl
  refine lv_aload_n hx hb dX11_part_0 rfl (lv_at hl 0 rfl) ?_
  refine iz_get (D := (dC, dI)) (ci := 11) (v := .ref j_tape) (C := RX11) (T := TX11) (N := 7) hx hb hts hinX11 hown hK hO rfl 0 (by decide) hL12 (fun _ h9 => h9) rfl dX11_part_1 ?_
  refine iz_get (D := (dC, dI)) (ci := 8) (v := .int (kz size_1)) (C := RX8) (T := TX8) (N := 2) hx hb hts hinX8 hown hK co_1 rfl 1 (by decide) hL60 (fun _ h9 => h9) rfl dX11_part_4 ?_
  refine lv_iconst (v := kz 1) hx hb dX11_part_7 rfl ?_
  refine lv_bipush (v := kz 40) hx hb dX11_part_8 (by decide) ?_
  refine vp_callSi (va_Run.run (va_runS (As := [.int (kz size_1), .int (kz 1), .int (kz 40)]) (rest := []) ⟨hx, hb, hml, hown, hts⟩ (c_within l size_1 1 40 (by omega) (by omega) (by omega)) (va_cwS 3 hts gX11_part_X11_within rfl rfl rfl (by decide +kernel) ⟨Nat.le_of_ble_eq_true rfl, Nat.le_of_ble_eq_true rfl⟩) ⟨fun a U g mk q => q, fun U hU hW => ⟨rfl, trivial⟩⟩ rfl rfl hl.1 rfl (lv_room (Nat.le_of_ble_eq_true rfl)) dX11_part_10 ⟨Nat.le_of_ble_eq_true rfl, Nat.le_of_ble_eq_true rfl⟩)) (fun r_3 hw_2 => ?_)
  rcases hw_2 with ⟨rfl, hw_2⟩ | ⟨rfl, hw_2⟩
  · refine iz_eqz (tgt := 37) hx hb dX11_part_13 (by decide) (by unfold rg2; omega) (fun q9 => absurd q9 (by decide)) (fun _ => ?_)
    refine lv_aload_n hx hb dX11_part_16 rfl (lv_at hl 0 rfl) ?_
    refine iz_get (D := (dC, dI)) (ci := 11) (v := .ref j_tape) (C := RX11) (T := TX11) (N := 7) hx hb hts hinX11 hown hK hO rfl 0 (by decide) hL12 (fun _ h9 => h9) rfl dX11_part_17 ?_
    refine vp_callSi (va_Run.run (va_runV (As := []) (rest := []) ⟨hx, hb, hml, hown, hts⟩ (c_hasOnlyLettersE l dC dI ca j_tape bytes_1 size_1 f1 (by omega)) (cwV 0 hts gX11_part_X8_hasOnlyLetters rfl rfl rfl (by decide +kernel) ⟨Nat.le_of_ble_eq_true rfl, Nat.le_of_ble_eq_true rfl⟩) ⟨fun a U g mk q => by obtain ⟨q0, ⟨qK, qN⟩, qI⟩ := q; exact ⟨q0, ⟨va_K.moved (u := U) (U := U.calling g mk a) (Vm.Alike.refl U.vm) qK, jN_same (U := U.calling g mk a) rfl qN⟩, qI⟩, va_recv hK (at_P co_1) (ci := 8) (q0 := 0) rfl rfl, fun U hU hW => ⟨rfl, jK_warm hW ⟨hK, hN⟩, by rw [hU]; exact ⟨co_1, c_f1⟩⟩⟩ rfl rfl hl.1 rfl (lv_room (Nat.le_of_ble_eq_true rfl)) dX11_part_20 ⟨Nat.le_of_ble_eq_true rfl, Nat.le_of_ble_eq_true rfl⟩)) (fun r_5 hw_4 => ?_)
    rcases hw_4 with ⟨rfl, hw_4⟩ | ⟨rfl, hw_4⟩
    · refine iz_eqz (tgt := 37) hx hb dX11_part_23 (by decide) (by unfold rg2; omega) (fun q9 => absurd q9 (by decide)) (fun _ => ?_)
      refine lv_iload_n hx hb dX11_part_26 rfl (lv_at hl 1 rfl) ?_
      refine vp_callSi (va_Run.run (va_runS (As := [.int (kz day)]) (rest := []) ⟨hx, hb, hml, hown, hts⟩ (c_isDay l day (by omega)) (va_cwS 1 hts gX11_part_X11_isDay rfl rfl rfl (by decide +kernel) ⟨Nat.le_of_ble_eq_true rfl, Nat.le_of_ble_eq_true rfl⟩) ⟨fun a U g mk q => q, fun U hU hW => ⟨rfl, trivial⟩⟩ rfl rfl hl.1 rfl (lv_room (Nat.le_of_ble_eq_true rfl)) dX11_part_27 ⟨Nat.le_of_ble_eq_true rfl, Nat.le_of_ble_eq_true rfl⟩)) (fun r_7 hw_6 => ?_)
      rcases hw_6 with ⟨rfl, hw_6⟩ | ⟨rfl, hw_6⟩
      · exact absurd ⟨hw_2, hw_4, hw_6⟩ hbad
      · refine iz_eqz (tgt := 37) hx hb dX11_part_30 (by decide) (by unfold rg2; omega) (fun _ => ?_) (fun q9 => absurd q9 (by decide))
        refine lv_iconst (v := kz 0) hx hb dX11_part_37 rfl ?_
        refine lv_istore_n (lv' := [(2, .int (kz 0)), (0, .ref o), (1, .int (kz day))]) hx hb dX11_part_38 rfl hl (by decide) rfl (fun ls hl => ?_)
        refine lv_aload_n hx hb dX11_part_39 rfl (lv_at hl 1 rfl) ?_
        refine iz_get (D := (dC, dI)) (ci := 11) (v := .ref j_tape) (C := RX11) (T := TX11) (N := 7) hx hb hts hinX11 hown hK hO rfl 0 (by decide) hL12 (fun _ h9 => h9) rfl dX11_part_40 ?_
        refine iz_get (D := (dC, dI)) (ci := 8) (v := .int (kz size_1)) (C := RX8) (T := TX8) (N := 2) hx hb hts hinX8 hown hK co_1 rfl 1 (by decide) hL60 (fun _ h9 => h9) rfl dX11_part_43 ?_
        refine lv_istore_n (lv' := [(3, .int (kz size_1)), (2, .int (kz 0)), (0, .ref o), (1, .int (kz day))]) hx hb dX11_part_46 rfl hl (by decide) rfl (fun ls hl => ?_)
        refine lv_aload_n hx hb dX11_part_47 rfl (lv_at hl 2 rfl) ?_
        refine iz_get (D := (dC, dI)) (ci := 11) (v := .ref j_tape) (C := RX11) (T := TX11) (N := 7) hx hb hts hinX11 hown hK hO rfl 0 (by decide) hL12 (fun _ h9 => h9) rfl dX11_part_48 ?_
        refine lv_iconst (v := kz 0) hx hb dX11_part_51 rfl ?_
        refine iz_put (D := (dC, dI)) (ci := 8) (v := .int (kz 0)) (ty := .int) (C := RX8) (T := TX8) (N := 2) hx hb hts hinX8 tyX8 tyX8_ok nmX8 hown hK co_1 hS (jv_A hI g_j_tape (show (30 : Nat) ≠ 0 by decide)) rfl 1 (by decide) hL60 (fun _ h9 => h9) rfl (by decide +kernel) rfl rfl (Nat.le_of_ble_eq_true rfl) dX11_part_52 (fun H locs c9 oq hS => ?_)
        have hI := jv_set hI c9 oq (by rw [g_j_tape]; exact jv_c8 ⟨bytes_1, 0, rfl, g_bytes_1, ⟨by omega, by omega⟩⟩)
        have hO := hO.kept (oq _ (kn_ne g_o g_j_tape (show (999 : Nat) ≠ 8 by decide)))
        have co_1 := c9
        clear oq c9
        refine lv_iload_n hx hb dX11_part_55 rfl (lv_at hl 1 rfl) ?_
        refine iz_nez (tgt := 63) hx hb dX11_part_56 (by decide) (by unfold rg2; omega) (fun q9 => absurd q9 (by decide)) (fun _ => ?_)
        refine lv_ldc2 (own := RX11) (v := (-1)) hx hb hown (hts (.constantLong RX11 174 (-1)) (by decide +kernel)) dX11_part_59 ?_
        exact W.lret (v := (-1)) hx hb hr (fun t9 ht hW => ⟨⟨(-1), st, rfl, rfl, jK_warm hW ⟨hK, hN⟩, by rw [ht]; exact ⟨hI, hO⟩⟩, hS.F ht⟩) hS.2.2 dX11_part_62
    · refine iz_eqz (tgt := 37) hx hb dX11_part_23 (by decide) (by unfold rg2; omega) (fun _ => ?_) (fun q9 => absurd q9 (by decide))
      refine lv_iconst (v := kz 0) hx hb dX11_part_37 rfl ?_
      refine lv_istore_n (lv' := [(2, .int (kz 0)), (0, .ref o), (1, .int (kz day))]) hx hb dX11_part_38 rfl hl (by decide) rfl (fun ls hl => ?_)
      refine lv_aload_n hx hb dX11_part_39 rfl (lv_at hl 1 rfl) ?_
      refine iz_get (D := (dC, dI)) (ci := 11) (v := .ref j_tape) (C := RX11) (T := TX11) (N := 7) hx hb hts hinX11 hown hK hO rfl 0 (by decide) hL12 (fun _ h9 => h9) rfl dX11_part_40 ?_
      refine iz_get (D := (dC, dI)) (ci := 8) (v := .int (kz size_1)) (C := RX8) (T := TX8) (N := 2) hx hb hts hinX8 hown hK co_1 rfl 1 (by decide) hL60 (fun _ h9 => h9) rfl dX11_part_43 ?_
      refine lv_istore_n (lv' := [(3, .int (kz size_1)), (2, .int (kz 0)), (0, .ref o), (1, .int (kz day))]) hx hb dX11_part_46 rfl hl (by decide) rfl (fun ls hl => ?_)
      refine lv_aload_n hx hb dX11_part_47 rfl (lv_at hl 2 rfl) ?_
      refine iz_get (D := (dC, dI)) (ci := 11) (v := .ref j_tape) (C := RX11) (T := TX11) (N := 7) hx hb hts hinX11 hown hK hO rfl 0 (by decide) hL12 (fun _ h9 => h9) rfl dX11_part_48 ?_
      refine lv_iconst (v := kz 0) hx hb dX11_part_51 rfl ?_
      refine iz_put (D := (dC, dI)) (ci := 8) (v := .int (kz 0)) (ty := .int) (C := RX8) (T := TX8) (N := 2) hx hb hts hinX8 tyX8 tyX8_ok nmX8 hown hK co_1 hS (jv_A hI g_j_tape (show (30 : Nat) ≠ 0 by decide)) rfl 1 (by decide) hL60 (fun _ h9 => h9) rfl (by decide +kernel) rfl rfl (Nat.le_of_ble_eq_true rfl) dX11_part_52 (fun H locs c9 oq hS => ?_)
      have hI := jv_set hI c9 oq (by rw [g_j_tape]; exact jv_c8 ⟨bytes_1, 0, rfl, g_bytes_1, ⟨by omega, by omega⟩⟩)
      have hO := hO.kept (oq _ (kn_ne g_o g_j_tape (show (999 : Nat) ≠ 8 by decide)))
      have co_1 := c9
      clear oq c9
      refine lv_iload_n hx hb dX11_part_55 rfl (lv_at hl 1 rfl) ?_
      refine iz_nez (tgt := 63) hx hb dX11_part_56 (by decide) (by unfold rg2; omega) (fun q9 => absurd q9 (by decide)) (fun _ => ?_)
      refine lv_ldc2 (own := RX11) (v := (-1)) hx hb hown (hts (.constantLong RX11 174 (-1)) (by decide +kernel)) dX11_part_59 ?_
      exact W.lret (v := (-1)) hx hb hr (fun t9 ht hW => ⟨⟨(-1), st, rfl, rfl, jK_warm hW ⟨hK, hN⟩, by rw [ht]; exact ⟨hI, hO⟩⟩, hS.F ht⟩) hS.2.2 dX11_part_62
  · refine iz_eqz (tgt := 37) hx hb dX11_part_13 (by decide) (by unfold rg2; omega) (fun _ => ?_) (fun q9 => absurd q9 (by decide))
    refine lv_iconst (v := kz 0) hx hb dX11_part_37 rfl ?_
    refine lv_istore_n (lv' := [(2, .int (kz 0)), (0, .ref o), (1, .int (kz day))]) hx hb dX11_part_38 rfl hl (by decide) rfl (fun ls hl => ?_)
    refine lv_aload_n hx hb dX11_part_39 rfl (lv_at hl 1 rfl) ?_
    refine iz_get (D := (dC, dI)) (ci := 11) (v := .ref j_tape) (C := RX11) (T := TX11) (N := 7) hx hb hts hinX11 hown hK hO rfl 0 (by decide) hL12 (fun _ h9 => h9) rfl dX11_part_40 ?_
    refine iz_get (D := (dC, dI)) (ci := 8) (v := .int (kz size_1)) (C := RX8) (T := TX8) (N := 2) hx hb hts hinX8 hown hK co_1 rfl 1 (by decide) hL60 (fun _ h9 => h9) rfl dX11_part_43 ?_
    refine lv_istore_n (lv' := [(3, .int (kz size_1)), (2, .int (kz 0)), (0, .ref o), (1, .int (kz day))]) hx hb dX11_part_46 rfl hl (by decide) rfl (fun ls hl => ?_)
    refine lv_aload_n hx hb dX11_part_47 rfl (lv_at hl 2 rfl) ?_
    refine iz_get (D := (dC, dI)) (ci := 11) (v := .ref j_tape) (C := RX11) (T := TX11) (N := 7) hx hb hts hinX11 hown hK hO rfl 0 (by decide) hL12 (fun _ h9 => h9) rfl dX11_part_48 ?_
    refine lv_iconst (v := kz 0) hx hb dX11_part_51 rfl ?_
    refine iz_put (D := (dC, dI)) (ci := 8) (v := .int (kz 0)) (ty := .int) (C := RX8) (T := TX8) (N := 2) hx hb hts hinX8 tyX8 tyX8_ok nmX8 hown hK co_1 hS (jv_A hI g_j_tape (show (30 : Nat) ≠ 0 by decide)) rfl 1 (by decide) hL60 (fun _ h9 => h9) rfl (by decide +kernel) rfl rfl (Nat.le_of_ble_eq_true rfl) dX11_part_52 (fun H locs c9 oq hS => ?_)
    have hI := jv_set hI c9 oq (by rw [g_j_tape]; exact jv_c8 ⟨bytes_1, 0, rfl, g_bytes_1, ⟨by omega, by omega⟩⟩)
    have hO := hO.kept (oq _ (kn_ne g_o g_j_tape (show (999 : Nat) ≠ 8 by decide)))
    have co_1 := c9
    clear oq c9
    refine lv_iload_n hx hb dX11_part_55 rfl (lv_at hl 1 rfl) ?_
    refine iz_nez (tgt := 63) hx hb dX11_part_56 (by decide) (by unfold rg2; omega) (fun q9 => absurd q9 (by decide)) (fun _ => ?_)
    refine lv_ldc2 (own := RX11) (v := (-1)) hx hb hown (hts (.constantLong RX11 174 (-1)) (by decide +kernel)) dX11_part_59 ?_
    exact W.lret (v := (-1)) hx hb hr (fun t9 ht hW => ⟨⟨(-1), st, rfl, rfl, jK_warm hW ⟨hK, hN⟩, by rw [ht]; exact ⟨hI, hO⟩⟩, hS.F ht⟩) hS.2.2 dX11_part_62
