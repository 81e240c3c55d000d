set_option maxHeartbeats 4000000 in
set_option maxRecDepth 100000 in
/-- X12_form -/
theorem m_form (l : Launch) (dC : Nat → ClassId) (dI : Nat → Nat → Nat) (ca : Nat → ClassId) (A : Nat → Prop) (X : kGh) (o : Nat) (am : Nat → Nat) (zi : Nat → Int) (zl : Nat → Int64) (hM : mS X A o am) (hz : mZ X am zi) (k : Int) (s1 : Int) (c1 : Int) (kp1 : Int) (kr : -2147483648 ≤ k ∧ k ≤ 2147483647) (s1r : -2147483648 ≤ s1 ∧ s1 ≤ 2147483647) (c1r : -2147483648 ≤ c1 ∧ c1 ≤ 2147483647) (kp1r : -2147483648 ≤ kp1 ∧ kp1 ≤ 2147483647) : Met l yX12_form wsX12_form ({ frames := 1, cells := 0, slots := 0, locals := 22 }) (va_Pc [.ref o, .int (kz k), .int (kz s1), .int (kz c1), .int (kz kp1)] (fun U => va_K (dC, dI) vwCl (k_tys ca) U ∧ mI (dC, dI) ca A X o am zi zl U.heap)) (va_Qi (fun (r : Int32) (u : kGh × (Nat → Int) × (Nat → Int64)) => mS u.1 A o am ∧ mZ u.1 am u.2.1 ∧ u.2.1 20 = zi 20) (fun u U => va_K (dC, dI) vwCl (k_tys ca) U ∧ mI (dC, dI) ca A u.1 o am u.2.1 u.2.2 U.heap) A) 0 0 A := by
  refine Met.ofW (cc := cX12_form) (maxL := 8) (ret := (some .int)) (by decide) rfl ?_
  intro p e s m args below meth c s₁ B hml hv
  obtain ⟨rfl, hK, hI, hO⟩ := hv
  have hx := B.exec
  have hb := B.bytes
  have hr := B.returns
  have hts := atoms_spec (ws := wsX12_form) B.pre
  have hown : s.vm.findClass RX12 = some m.cls := findClass_of_methodNamed B.named
  have hin : ∀ w ∈ u_ws RX12 TX12 49, w ∈ wsX12_form := by decide +kernel
  have hL120 := hts (.fieldLink RX12 120 "JoinBenchModel" "taped" "I") (by decide +kernel)
  have hL131 := hts (.fieldLink RX12 131 "JoinBenchModel" "forms" "I") (by decide +kernel)
  have hL13 := hts (.fieldLink RX12 13 "JoinBenchModel" "letters" "[B") (by decide +kernel)
  have hL7 := hts (.fieldLink RX12 7 "JoinBenchModel" "tape" "[B") (by decide +kernel)
  have hL16 := hts (.fieldLink RX12 16 "JoinBenchModel" "size" "[I") (by decide +kernel)
  have hL20 := hts (.fieldLink RX12 20 "JoinBenchModel" "kind" "[I") (by decide +kernel)
  have hL23 := hts (.fieldLink RX12 23 "JoinBenchModel" "stem" "[I") (by decide +kernel)
  have hL26 := hts (.fieldLink RX12 26 "JoinBenchModel" "cost" "[I") (by decide +kernel)
  have hL29 := hts (.fieldLink RX12 29 "JoinBenchModel" "isKept" "[Z") (by decide +kernel)
  have g3 : X.1 (am 3) = (103, 21, 320, 0, 0) := hM.1 3 _ rfl (by decide)
  have g0 : X.1 (am 0) = (100, 21, 60, 0, 0) := hM.1 0 _ rfl (by decide)
  have g4 : X.1 (am 4) = (104, 20, 40, 0, 8) := hM.1 4 _ rfl (by decide)
  have g5 : X.1 (am 5) = (105, 20, 40, 0, 5) := hM.1 5 _ rfl (by decide)
  have w5 : X.2 (am 5) = 0 := hM.2.2.2 5 _ rfl (by decide) (by decide) (by decide)
  have g6 : X.1 (am 6) = (106, 20, 40, 0, 19) := hM.1 6 _ rfl (by decide)
  have w6 : X.2 (am 6) = 0 := hM.2.2.2 6 _ rfl (by decide) (by decide) (by decide)
  have g7 : X.1 (am 7) = (107, 20, 40, -2147483648, 2147483647) := hM.1 7 _ rfl (by decide)
  have w7 : X.2 (am 7) = 0 := hM.2.2.2 7 _ rfl (by decide) (by decide) (by decide)
  have g8 : X.1 (am 8) = (108, 22, 40, 0, 0) := hM.1 8 _ rfl (by decide)
  obtain ⟨⟨z1a, z1b⟩, ⟨z2a, z2b⟩, ⟨z9a, z9b⟩, ⟨z20a, z20b⟩, ⟨z21a, z21b⟩, ⟨z22a, z22b⟩, ⟨z26a, z26b⟩, ⟨z28a, z28b⟩, ⟨z34a, z34b⟩, ⟨z35a, z35b⟩, ⟨z38a, z38b⟩, ⟨z39a, z39b⟩, ⟨z46a, z46b⟩, hzA, hzB⟩ := id hz
  obtain ⟨H, hH⟩ : ∃ H : Heap, H = s.heap := ⟨_, rfl⟩
  have hS : va_S A s.heap H [] := by rw [hH]; exact va_S.rf
  rw [← hH] at hI hO ⊢
  clear hH
  have hl := lv_entry ([.ref o, .int (kz k), .int (kz s1), .int (kz c1), .int (kz kp1)]) (n := 8) (Nat.le_of_ble_eq_true rfl)
  rw [lg_entry_eq]
  generalize (lg_sl ([.ref o, .int (kz k), .int (kz s1), .int (kz c1), .int (kz kp1)]) ++ List.replicate (8 - (lg_sl ([.ref o, .int (kz k), .int (kz s1), .int (kz c1), .int (kz kp1)])).length) Slot.unset).toArray = ls at hl ⊢
  have hl : lv_has ls 8 [(0, .ref o), (1, .int (kz k)), (2, .int (kz s1)), (3, .int (kz c1)), (4, .int (kz kp1))] := hl
  have g41 : X.1 (am 41) = (141, 20, 8, 0, 40) := hM.1 41 _ rfl (by decide)
  refine lv_aload_n hx hb dX12_form_0 rfl (lv_at hl 0 rfl) ?_
  refine iz_get (D := (dC, dI)) (ci := 12) (v := .int (kz (zi 1))) (C := RX12) (T := TX12) (N := 49) hx hb hts hin hown hK hO rfl 1 (by decide) hL120 (fun _ h9 => h9) rfl dX12_form_1 ?_
  refine lv_istore (lv' := [(5, .int (kz (zi 1))), (0, .ref o), (1, .int (kz k)), (2, .int (kz s1)), (3, .int (kz c1)), (4, .int (kz kp1))]) hx hb dX12_form_4 hl (by decide) rfl (fun ls hl => ?_)
  refine lv_aload_n hx hb dX12_form_6 rfl (lv_at hl 1 rfl) ?_
  refine vp_callSi (va_Run.run (va_runV (As := []) (rest := []) ⟨hx, hb, hml, hown, hts⟩ (m_isText l dC dI ca A X o am zi zl hM hz) (cwV 0 hts gX12_form_X12_isText rfl rfl rfl (by decide +kernel) ⟨Nat.le_of_ble_eq_true rfl, Nat.le_of_ble_eq_true rfl⟩) ⟨fun a U g mk q => by obtain ⟨q0, qK, qI⟩ := q; exact ⟨q0, va_K.moved (u := U) (U := U.calling g mk a) (Vm.Alike.refl U.vm) qK, qI⟩, va_recv hK (at_P hO) (ci := 12) (q0 := 0) rfl rfl, fun U hU hW => ⟨rfl, va_K.moved hW.alike hK, by rw [hU]; exact ⟨hI, hO⟩⟩⟩ rfl rfl hl.1 rfl (lv_room (Nat.le_of_ble_eq_true rfl)) dX12_form_7 ⟨Nat.le_of_ble_eq_true rfl, Nat.le_of_ble_eq_true rfl⟩)) (fun r_2 hw_1 => ?_)
  rcases hw_1 with rfl | rfl
  · refine iz_eqz (tgt := 66) hx hb dX12_form_10 (by decide) (by unfold rg2; omega) (fun q9 => absurd q9 (by decide)) (fun _ => ?_)
    refine lv_aload_n hx hb dX12_form_13 rfl (lv_at hl 1 rfl) ?_
    refine iz_get (D := (dC, dI)) (ci := 12) (v := .int (kz (zi 2))) (C := RX12) (T := TX12) (N := 49) hx hb hts hin hown hK hO rfl 2 (by decide) hL131 (fun _ h9 => h9) rfl dX12_form_14 ?_
    refine lv_bipush (v := kz 40) hx hb dX12_form_17 (by decide) ?_
    refine iz_ge (tgt := 66) hx hb dX12_form_19 (by decide) (by unfold rg2; omega) (fun br_3 => ?_) (fun br_3 => ?_)
    · refine lv_iconst (v := kz 0) hx hb dX12_form_66 rfl ?_
      refine lv_istore (lv' := [(6, .int (kz 0)), (5, .int (kz (zi 1))), (0, .ref o), (1, .int (kz k)), (2, .int (kz s1)), (3, .int (kz c1)), (4, .int (kz kp1))]) hx hb dX12_form_67 hl (by decide) rfl (fun ls hl => ?_)
      refine lv_aload_n hx hb dX12_form_69 rfl (lv_at hl 2 rfl) ?_
      refine lv_iconst (v := kz 0) hx hb dX12_form_70 rfl ?_
      refine iz_put (D := (dC, dI)) (ci := 12) (v := .int (kz 0)) (ty := .int) (C := RX12) (T := TX12) (N := 49) hx hb hts hin tyX12 tyX12_ok nmX12 hown hK hO hS hM.2.2.1 rfl 1 (by decide) hL120 (fun _ h9 => h9) rfl (by decide +kernel) rfl rfl (Nat.le_of_ble_eq_true rfl) dX12_form_71 (fun H locs hO oq hS => ?_)
      rw [mM_1] at hO
      have hI := iv_skip hI hM.2.1 oq
      have hO : va_at (dC, dI) vwCl (o, .inr (12, mM am (fup zi 1 0) zl)) H := hO
      clear oq
      refine lv_iload hx hb dX12_form_74 (lv_at hl 0 rfl) ?_
      refine iz_nez (tgt := 81) hx hb dX12_form_76 (by decide) (by unfold rg2; omega) (fun q9 => absurd q9 (by decide)) (fun _ => ?_)
      refine lv_iconst (v := kz (-1)) hx hb dX12_form_79 rfl ?_
      exact W.iret (v := kz (-1)) hx hb hr (fun t9 ht hW => ⟨⟨kz (-1), (X, (fup zi 1 0), zl), rfl, ⟨hM, ⟨⟨by show (0 : Int) ≤ 0; omega, by show 0 ≤ (60 : Int); omega⟩, ⟨z2a, z2b⟩, ⟨z9a, z9b⟩, ⟨z20a, z20b⟩, ⟨z21a, z21b⟩, ⟨z22a, z22b⟩, ⟨z26a, z26b⟩, ⟨z28a, z28b⟩, ⟨z34a, z34b⟩, ⟨z35a, z35b⟩, ⟨z38a, z38b⟩, ⟨z39a, z39b⟩, ⟨z46a, z46b⟩, by show zi 2 ≤ (X.2 (am 4) : Int); omega, by show zi 39 ≤ (X.2 (am 41) : Int); omega⟩, rfl⟩, va_K.moved hW.alike hK, by rw [ht]; exact ⟨hI, hO⟩⟩, hS.F ht⟩) hS.2.2 dX12_form_80
    · refine lv_iload hx hb dX12_form_22 (lv_at hl 0 rfl) ?_
      refine lv_iconst (v := kz 1) hx hb dX12_form_24 rfl ?_
      refine lv_bipush (v := kz 8) hx hb dX12_form_25 (by decide) ?_
      refine vp_callSi (va_Run.run (va_runS (As := [.int (kz (zi 1)), .int (kz 1), .int (kz 8)]) (rest := []) ⟨hx, hb, hml, hown, hts⟩ (m_in l (zi 1) 1 8 (by omega) (by omega) (by omega)) (va_cwS 3 hts gX12_form_X12_in rfl rfl rfl (by decide +kernel) ⟨Nat.le_of_ble_eq_true rfl, Nat.le_of_ble_eq_true rfl⟩) ⟨fun a U g mk q => q, fun U hU hW => ⟨rfl, trivial⟩⟩ rfl rfl hl.1 rfl (lv_room (Nat.le_of_ble_eq_true rfl)) dX12_form_27 ⟨Nat.le_of_ble_eq_true rfl, Nat.le_of_ble_eq_true rfl⟩)) (fun r_5 hw_4 => ?_)
      rcases hw_4 with ⟨rfl, hw_4⟩ | ⟨rfl, hw_4⟩
      · refine iz_eqz (tgt := 66) hx hb dX12_form_30 (by decide) (by unfold rg2; omega) (fun q9 => absurd q9 (by decide)) (fun _ => ?_)
        refine lv_iload_n hx hb dX12_form_33 rfl (lv_at hl 2 rfl) ?_
        refine lv_iconst (v := kz 0) hx hb dX12_form_34 rfl ?_
        refine lv_iconst (v := kz 5) hx hb dX12_form_35 rfl ?_
        refine vp_callSi (va_Run.run (va_runS (As := [.int (kz k), .int (kz 0), .int (kz 5)]) (rest := []) ⟨hx, hb, hml, hown, hts⟩ (m_in l k 0 5 (by omega) (by omega) (by omega)) (va_cwS 3 hts gX12_form_X12_in rfl rfl rfl (by decide +kernel) ⟨Nat.le_of_ble_eq_true rfl, Nat.le_of_ble_eq_true rfl⟩) ⟨fun a U g mk q => q, fun U hU hW => ⟨rfl, trivial⟩⟩ rfl rfl hl.1 rfl (lv_room (Nat.le_of_ble_eq_true rfl)) dX12_form_36 ⟨Nat.le_of_ble_eq_true rfl, Nat.le_of_ble_eq_true rfl⟩)) (fun r_7 hw_6 => ?_)
        rcases hw_6 with ⟨rfl, hw_6⟩ | ⟨rfl, hw_6⟩
        · refine iz_eqz (tgt := 66) hx hb dX12_form_39 (by decide) (by unfold rg2; omega) (fun q9 => absurd q9 (by decide)) (fun _ => ?_)
          refine lv_iload_n hx hb dX12_form_42 rfl (lv_at hl 3 rfl) ?_
          refine lv_iconst (v := kz 0) hx hb dX12_form_43 rfl ?_
          refine lv_bipush (v := kz 19) hx hb dX12_form_44 (by decide) ?_
          refine vp_callSi (va_Run.run (va_runS (As := [.int (kz s1), .int (kz 0), .int (kz 19)]) (rest := []) ⟨hx, hb, hml, hown, hts⟩ (m_in l s1 0 19 (by omega) (by omega) (by omega)) (va_cwS 3 hts gX12_form_X12_in rfl rfl rfl (by decide +kernel) ⟨Nat.le_of_ble_eq_true rfl, Nat.le_of_ble_eq_true rfl⟩) ⟨fun a U g mk q => q, fun U hU hW => ⟨rfl, trivial⟩⟩ rfl rfl hl.1 rfl (lv_room (Nat.le_of_ble_eq_true rfl)) dX12_form_46 ⟨Nat.le_of_ble_eq_true rfl, Nat.le_of_ble_eq_true rfl⟩)) (fun r_9 hw_8 => ?_)
          rcases hw_8 with ⟨rfl, hw_8⟩ | ⟨rfl, hw_8⟩
          · refine iz_eqz (tgt := 66) hx hb dX12_form_49 (by decide) (by unfold rg2; omega) (fun q9 => absurd q9 (by decide)) (fun _ => ?_)
            refine lv_iload_n hx hb dX12_form_52 rfl (lv_at hl 4 rfl) ?_
            refine lv_iconst (v := kz 0) hx hb dX12_form_53 rfl ?_
            refine lv_bipush (v := kz 99) hx hb dX12_form_54 (by decide) ?_
            refine vp_callSi (va_Run.run (va_runS (As := [.int (kz c1), .int (kz 0), .int (kz 99)]) (rest := []) ⟨hx, hb, hml, hown, hts⟩ (m_in l c1 0 99 (by omega) (by omega) (by omega)) (va_cwS 3 hts gX12_form_X12_in rfl rfl rfl (by decide +kernel) ⟨Nat.le_of_ble_eq_true rfl, Nat.le_of_ble_eq_true rfl⟩) ⟨fun a U g mk q => q, fun U hU hW => ⟨rfl, trivial⟩⟩ rfl rfl hl.1 rfl (lv_room (Nat.le_of_ble_eq_true rfl)) dX12_form_56 ⟨Nat.le_of_ble_eq_true rfl, Nat.le_of_ble_eq_true rfl⟩)) (fun r_11 hw_10 => ?_)
            rcases hw_10 with ⟨rfl, hw_10⟩ | ⟨rfl, hw_10⟩
            · refine iz_eqz (tgt := 66) hx hb dX12_form_59 (by decide) (by unfold rg2; omega) (fun q9 => absurd q9 (by decide)) (fun _ => ?_)
              refine lv_iconst (v := kz 1) hx hb dX12_form_62 rfl ?_
              refine lv_goto (tgt := 67) hx hb dX12_form_63 (by decide) ?_
              refine lv_istore (lv' := [(6, .int (kz 1)), (5, .int (kz (zi 1))), (0, .ref o), (1, .int (kz k)), (2, .int (kz s1)), (3, .int (kz c1)), (4, .int (kz kp1))]) hx hb dX12_form_67 hl (by decide) rfl (fun ls hl => ?_)
              refine lv_aload_n hx hb dX12_form_69 rfl (lv_at hl 2 rfl) ?_
              refine lv_iconst (v := kz 0) hx hb dX12_form_70 rfl ?_
              refine iz_put (D := (dC, dI)) (ci := 12) (v := .int (kz 0)) (ty := .int) (C := RX12) (T := TX12) (N := 49) hx hb hts hin tyX12 tyX12_ok nmX12 hown hK hO hS hM.2.2.1 rfl 1 (by decide) hL120 (fun _ h9 => h9) rfl (by decide +kernel) rfl rfl (Nat.le_of_ble_eq_true rfl) dX12_form_71 (fun H locs hO oq hS => ?_)
              rw [mM_1] at hO
              have hI := iv_skip hI hM.2.1 oq
              have hO : va_at (dC, dI) vwCl (o, .inr (12, mM am (fup zi 1 0) zl)) H := hO
              clear oq
              refine lv_iload hx hb dX12_form_74 (lv_at hl 0 rfl) ?_
              refine iz_nez (tgt := 81) hx hb dX12_form_76 (by decide) (by unfold rg2; omega) (fun _ => ?_) (fun q9 => absurd q9 (by decide))
              refine lv_iconst (v := kz 0) hx hb dX12_form_81 rfl ?_
              refine lv_istore (lv' := [(7, .int (kz 0)), (6, .int (kz 1)), (5, .int (kz (zi 1))), (0, .ref o), (1, .int (kz k)), (2, .int (kz s1)), (3, .int (kz c1)), (4, .int (kz kp1))]) hx hb dX12_form_82 hl (by decide) rfl (fun ls hl => ?_)
              refine iz_loop1 (P := fun N9 i H locs ls => 0 ≤ i ∧ i ≤ 8 ∧ 8 - i ≤ (N9 : Int) ∧ lv_has ls 8 [(7, .int (kz i)), (6, .int (kz 1)), (5, .int (kz (zi 1))), (0, .ref o), (1, .int (kz k)), (2, .int (kz s1)), (3, .int (kz c1)), (4, .int (kz kp1))] ∧ iv (dC, dI) ca A X H ∧ va_at (dC, dI) vwCl (o, .inr (12, mM am (fup zi 1 0) zl)) H ∧ va_S A s.heap H locs) 100000 (x0 := 0) ?_ ⟨by omega, by omega, by omega, lv_sub hl [0, 1, 2, 3, 4, 5, 6, 7] rfl, hI, hO, hS⟩
              intro n_12 i H locs ls ⟨n_12f0, n_12f1, n_12f2, hl, hI, hO, hS⟩ ihn_12
              refine lv_iload hx hb dX12_form_84 (lv_at hl 0 rfl) ?_
              refine lv_iload hx hb dX12_form_86 (lv_at hl 2 rfl) ?_
              refine iz_ge (tgt := 119) hx hb dX12_form_88 (by decide) (by unfold rg2; omega) (fun br_13 => ?_) (fun br_13 => ?_)
              · refine lv_aload_n hx hb dX12_form_119 rfl (lv_at hl 3 rfl) ?_
                refine iz_get (D := (dC, dI)) (ci := 12) (v := .ref (am 4)) (C := RX12) (T := TX12) (N := 49) hx hb hts hin hown hK hO rfl 4 (by decide) hL16 (fun _ h9 => h9) rfl dX12_form_120 ?_
                refine lv_aload_n hx hb dX12_form_123 rfl (lv_at hl 3 rfl) ?_
                refine iz_get (D := (dC, dI)) (ci := 12) (v := .int (kz (zi 2))) (C := RX12) (T := TX12) (N := 49) hx hb hts hin hown hK hO rfl 2 (by decide) hL131 (fun _ h9 => h9) rfl dX12_form_124 ?_
                refine lv_iload hx hb dX12_form_127 (lv_at hl 2 rfl) ?_
                obtain ⟨f4_14, c_f4_14, k_f4_14⟩ := iv_o20 hI g4
                refine iz_iast hx hb hK 0 c_f4_14 hS (iv_A hI g4 (by decide)) rfl (by omega) (by decide) dX12_form_129 (fun H locs c9 oq hS => ?_)
                have hI := iv_s20 hI g4 k_f4_14 c9 oq (by omega) (by omega) (by decide) (by omega)
                have hO := hO.kept (oq _ (iv_ne0 g4 hM.2.1 (by decide)).symm)
                have k_g_15 : ok20 X (am 4) 40 (0) (8) (upd f4_14 (Int.toNat (zi 2)) (kz (zi 1))) := ok20_set k_f4_14 (by omega) (by omega) (by decide) (by omega)
                obtain ⟨g_15, eg_15⟩ : ∃ g9 : Nat → Int32, g9 = upd f4_14 (Int.toNat (zi 2)) (kz (zi 1)) := ⟨_, rfl⟩
                rw [← eg_15] at c9 k_g_15
                have ug_15 : ∀ w : Int, 0 ≤ w → ge1 g_15 w = if w = zi 2 then zi 1 else ge1 f4_14 w := fun w hw => by rw [eg_15]; exact ge1_upd f4_14 (by omega) hw (by omega) (by omega)
                have c_g_15 := c9
                clear oq c9
                refine lv_aload_n hx hb dX12_form_130 rfl (lv_at hl 3 rfl) ?_
                refine iz_get (D := (dC, dI)) (ci := 12) (v := .ref (am 5)) (C := RX12) (T := TX12) (N := 49) hx hb hts hin hown hK hO rfl 5 (by decide) hL20 (fun _ h9 => h9) rfl dX12_form_131 ?_
                refine lv_aload_n hx hb dX12_form_134 rfl (lv_at hl 3 rfl) ?_
                refine iz_get (D := (dC, dI)) (ci := 12) (v := .int (kz (zi 2))) (C := RX12) (T := TX12) (N := 49) hx hb hts hin hown hK hO rfl 2 (by decide) hL131 (fun _ h9 => h9) rfl dX12_form_135 ?_
                refine lv_iload_n hx hb dX12_form_138 rfl (lv_at hl 4 rfl) ?_
                obtain ⟨f5_16, c_f5_16, k_f5_16⟩ := iv_o20 hI g5
                refine iz_iast hx hb hK 0 c_f5_16 hS (iv_A hI g5 (by decide)) rfl (by omega) (by decide) dX12_form_139 (fun H locs c9 oq hS => ?_)
                have hI := iv_s20 hI g5 k_f5_16 c9 oq (by omega) (by omega) (by decide) (by omega)
                have hO := hO.kept (oq _ (iv_ne0 g5 hM.2.1 (by decide)).symm)
                have c_g_15 := c_g_15.kept (oq _ (iv_ne g4 g5 (by decide)))
                clear oq c9
                refine lv_aload_n hx hb dX12_form_140 rfl (lv_at hl 3 rfl) ?_
                refine iz_get (D := (dC, dI)) (ci := 12) (v := .ref (am 6)) (C := RX12) (T := TX12) (N := 49) hx hb hts hin hown hK hO rfl 6 (by decide) hL23 (fun _ h9 => h9) rfl dX12_form_141 ?_
                refine lv_aload_n hx hb dX12_form_144 rfl (lv_at hl 3 rfl) ?_
                refine iz_get (D := (dC, dI)) (ci := 12) (v := .int (kz (zi 2))) (C := RX12) (T := TX12) (N := 49) hx hb hts hin hown hK hO rfl 2 (by decide) hL131 (fun _ h9 => h9) rfl dX12_form_145 ?_
                refine lv_iload_n hx hb dX12_form_148 rfl (lv_at hl 5 rfl) ?_
                obtain ⟨f6_17, c_f6_17, k_f6_17⟩ := iv_o20 hI g6
                refine iz_iast hx hb hK 0 c_f6_17 hS (iv_A hI g6 (by decide)) rfl (by omega) (by decide) dX12_form_149 (fun H locs c9 oq hS => ?_)
                have hI := iv_s20 hI g6 k_f6_17 c9 oq (by omega) (by omega) (by decide) (by omega)
                have hO := hO.kept (oq _ (iv_ne0 g6 hM.2.1 (by decide)).symm)
                have c_g_15 := c_g_15.kept (oq _ (iv_ne g4 g6 (by decide)))
                clear oq c9
                refine lv_aload_n hx hb dX12_form_150 rfl (lv_at hl 3 rfl) ?_
                refine iz_get (D := (dC, dI)) (ci := 12) (v := .ref (am 7)) (C := RX12) (T := TX12) (N := 49) hx hb hts hin hown hK hO rfl 7 (by decide) hL26 (fun _ h9 => h9) rfl dX12_form_151 ?_
                refine lv_aload_n hx hb dX12_form_154 rfl (lv_at hl 3 rfl) ?_
                refine iz_get (D := (dC, dI)) (ci := 12) (v := .int (kz (zi 2))) (C := RX12) (T := TX12) (N := 49) hx hb hts hin hown hK hO rfl 2 (by decide) hL131 (fun _ h9 => h9) rfl dX12_form_155 ?_
                refine lv_iload_n hx hb dX12_form_158 rfl (lv_at hl 6 rfl) ?_
                obtain ⟨f7_18, c_f7_18, k_f7_18⟩ := iv_o20 hI g7
                refine iz_any (fun z_19 z_19a z_19b z_19e => ?_)
                refine iz_iast hx hb hK 0 c_f7_18 hS (iv_A hI g7 (by decide)) rfl (by omega) (by decide) dX12_form_159 (fun H locs c9 oq hS => ?_)
                have hI := iv_s20 hI g7 k_f7_18 c9 oq (by omega) (by omega) (by decide) (by omega)
                have hO := hO.kept (oq _ (iv_ne0 g7 hM.2.1 (by decide)).symm)
                have c_g_15 := c_g_15.kept (oq _ (iv_ne g4 g7 (by decide)))
                clear oq c9
                refine lv_aload_n hx hb dX12_form_160 rfl (lv_at hl 3 rfl) ?_
                refine iz_get (D := (dC, dI)) (ci := 12) (v := .ref (am 8)) (C := RX12) (T := TX12) (N := 49) hx hb hts hin hown hK hO rfl 8 (by decide) hL29 (fun _ h9 => h9) rfl dX12_form_161 ?_
                refine lv_aload_n hx hb dX12_form_164 rfl (lv_at hl 3 rfl) ?_
                refine iz_get (D := (dC, dI)) (ci := 12) (v := .int (kz (zi 2))) (C := RX12) (T := TX12) (N := 49) hx hb hts hin hown hK hO rfl 2 (by decide) hL131 (fun _ h9 => h9) rfl dX12_form_165 ?_
                refine lv_iload hx hb dX12_form_168 (lv_at hl 7 rfl) ?_
                obtain ⟨f8_20, c_f8_20⟩ := iv_o22 hI g8
                refine iz_zast hx hb hK 2 c_f8_20 hS (iv_A hI g8 (by decide)) rfl (by omega) (by decide) dX12_form_170 (fun H locs c9 oq hS => ?_)
                have hI := iv_s22 hI g8 c9 oq
                have hO := hO.kept (oq _ (iv_ne0 g8 hM.2.1 (by decide)).symm)
                have c_g_15 := c_g_15.kept (oq _ (iv_ne g4 g8 (by decide)))
                clear oq c9
                refine lv_aload_n hx hb dX12_form_171 rfl (lv_at hl 3 rfl) ?_
                refine lv_dup hx hb dX12_form_172 rfl ?_
                refine iz_get (D := (dC, dI)) (ci := 12) (v := .int (kz (zi 2))) (C := RX12) (T := TX12) (N := 49) hx hb hts hin hown hK hO rfl 2 (by decide) hL131 (fun _ h9 => h9) rfl dX12_form_173 ?_
                refine lv_iconst (v := kz 1) hx hb dX12_form_176 rfl ?_
                refine iz_iadd hx hb dX12_form_177 ?_
                refine iz_put (D := (dC, dI)) (ci := 12) (v := .int (kz (zi 2 + 1))) (ty := .int) (C := RX12) (T := TX12) (N := 49) hx hb hts hin tyX12 tyX12_ok nmX12 hown hK hO hS hM.2.2.1 rfl 2 (by decide) hL131 (fun _ h9 => h9) rfl (by decide +kernel) rfl rfl (Nat.le_of_ble_eq_true rfl) dX12_form_178 (fun H locs hO oq hS => ?_)
                rw [mM_2] at hO
                have hI := iv_skip hI hM.2.1 oq
                have c_g_15 := c_g_15.kept (oq _ (iv_ne0 g4 hM.2.1 (by decide)))
                have hO : va_at (dC, dI) vwCl (o, .inr (12, mM am (fup (fup zi 1 0) 2 (zi 2 + 1)) zl)) H := hO
                clear oq
                refine lv_aload_n hx hb dX12_form_181 rfl (lv_at hl 3 rfl) ?_
                refine iz_get (D := (dC, dI)) (ci := 12) (v := .int (kz (zi 2 + 1))) (C := RX12) (T := TX12) (N := 49) hx hb hts hin hown hK hO rfl 2 (by decide) hL131 (fun _ h9 => h9) rfl dX12_form_182 ?_
                refine lv_iconst (v := kz 1) hx hb dX12_form_185 rfl ?_
                refine iz_isub hx hb dX12_form_186 ?_
                have hI := iv_xr (n := Int.toNat (zi 2 + 1)) hI g4 c_g_15 k_g_15 (fun z9 h0 h1 h2 => by rw [ug_15 z9 h0]; by_cases e8 : z9 = zi 2; rw [if_pos e8]; omega; rw [if_neg e8]; exact (k_f4_14 z9 ⟨h0, by omega⟩).2.2 (by omega))
                exact W.iret (v := kz ((zi 2 + 1) - 1)) hx hb hr (fun t9 ht hW => ⟨⟨kz ((zi 2 + 1) - 1), (xr X (am 4) (Int.toNat (zi 2 + 1)), (fup (fup zi 1 0) 2 (zi 2 + 1)), zl), rfl, ⟨mS_xr hM (k := 4) rfl (by decide) (Or.inl rfl), ⟨⟨by show (0 : Int) ≤ 0; omega, by show 0 ≤ (60 : Int); omega⟩, ⟨by show (0 : Int) ≤ (zi 2 + 1); omega, by show (zi 2 + 1) ≤ (40 : Int); omega⟩, ⟨z9a, z9b⟩, ⟨z20a, z20b⟩, ⟨z21a, z21b⟩, ⟨z22a, z22b⟩, ⟨z26a, z26b⟩, ⟨z28a, z28b⟩, ⟨z34a, z34b⟩, ⟨z35a, z35b⟩, ⟨z38a, z38b⟩, ⟨z39a, z39b⟩, ⟨z46a, z46b⟩, by show (zi 2 + 1) ≤ ((xr X (am 4) (Int.toNat (zi 2 + 1))).2 (am 4) : Int); rw [xr_self]; omega, by show zi 39 ≤ ((xr X (am 4) (Int.toNat (zi 2 + 1))).2 (am 41) : Int); rw [xr_ne X _ (iv_ne g41 g4 (by decide))]; omega⟩, rfl⟩, va_K.moved hW.alike hK, by rw [ht]; exact ⟨hI, hO⟩⟩, hS.F ht⟩) hS.2.2 dX12_form_187
              · refine lv_aload_n hx hb dX12_form_91 rfl (lv_at hl 3 rfl) ?_
                refine iz_get (D := (dC, dI)) (ci := 12) (v := .ref (am 3)) (C := RX12) (T := TX12) (N := 49) hx hb hts hin hown hK hO rfl 3 (by decide) hL13 (fun _ h9 => h9) rfl dX12_form_92 ?_
                refine lv_bipush (v := kz 8) hx hb dX12_form_95 (by decide) ?_
                refine lv_aload_n hx hb dX12_form_97 rfl (lv_at hl 3 rfl) ?_
                refine iz_get (D := (dC, dI)) (ci := 12) (v := .int (kz (zi 2))) (C := RX12) (T := TX12) (N := 49) hx hb hts hin hown hK hO rfl 2 (by decide) hL131 (fun _ h9 => h9) rfl dX12_form_98 ?_
                refine iz_imul hx hb dX12_form_101 ?_
                refine lv_iload hx hb dX12_form_102 (lv_at hl 0 rfl) ?_
                refine iz_iadd hx hb dX12_form_104 ?_
                refine lv_aload_n hx hb dX12_form_105 rfl (lv_at hl 3 rfl) ?_
                refine iz_get (D := (dC, dI)) (ci := 12) (v := .ref (am 0)) (C := RX12) (T := TX12) (N := 49) hx hb hts hin hown hK hO rfl 0 (by decide) hL7 (fun _ h9 => h9) rfl dX12_form_106 ?_
                refine lv_iload hx hb dX12_form_109 (lv_at hl 0 rfl) ?_
                obtain ⟨f0_21, c_f0_21⟩ := iv_o21 hI g0
                refine iz_bald hx hb hK 1 c_f0_21 rfl (by omega) (by decide) dX12_form_111 ?_
                have v_22a := kz_lo (f0_21 (Int.toNat i))
                have v_22b := kz_hi (f0_21 (Int.toNat i))
                change _ ≤ ge1 f0_21 i at v_22a
                change ge1 f0_21 i ≤ _ at v_22b
                obtain ⟨v_22, ev_22⟩ : ∃ z9 : Int, ge1 f0_21 i = z9 := ⟨_, rfl⟩
                rw [ev_22] at v_22a v_22b ⊢
                obtain ⟨f3_23, c_f3_23⟩ := iv_o21 hI g3
                refine iz_bast hx hb hK 1 c_f3_23 hS (iv_A hI g3 (by decide)) rfl (by omega) (by decide) dX12_form_112 (fun H locs c9 oq hS => ?_)
                have hI := iv_s21 hI g3 c9 oq
                have hO := hO.kept (oq _ (iv_ne0 g3 hM.2.1 (by decide)).symm)
                have c_f0_21 := c_f0_21.kept (oq _ (iv_ne g0 g3 (by decide)))
                clear oq c9
                refine lv_iinc (v := kz (i + 1)) (lv' := [(7, .int (kz (i + 1))), (6, .int (kz 1)), (5, .int (kz (zi 1))), (0, .ref o), (1, .int (kz k)), (2, .int (kz s1)), (3, .int (kz c1)), (4, .int (kz kp1))]) hx hb dX12_form_113 hl (k := 0) rfl (kz_add i 1) (by decide) rfl (fun ls hl => ?_)
                refine lv_goto (tgt := 84) hx hb dX12_form_116 (by decide) ?_
                exact ihn_12 (n_12 - 1) (by omega) (i + 1) _ _ _ ⟨by omega, by omega, by omega, lv_sub hl [0, 1, 2, 3, 4, 5, 6, 7] rfl, hI, hO, hS⟩
            · refine iz_eqz (tgt := 66) hx hb dX12_form_59 (by decide) (by unfold rg2; omega) (fun _ => ?_) (fun q9 => absurd q9 (by decide))
              refine lv_iconst (v := kz 0) hx hb dX12_form_66 rfl ?_
              refine lv_istore (lv' := [(6, .int (kz 0)), (5, .int (kz (zi 1))), (0, .ref o), (1, .int (kz k)), (2, .int (kz s1)), (3, .int (kz c1)), (4, .int (kz kp1))]) hx hb dX12_form_67 hl (by decide) rfl (fun ls hl => ?_)
              refine lv_aload_n hx hb dX12_form_69 rfl (lv_at hl 2 rfl) ?_
              refine lv_iconst (v := kz 0) hx hb dX12_form_70 rfl ?_
              refine iz_put (D := (dC, dI)) (ci := 12) (v := .int (kz 0)) (ty := .int) (C := RX12) (T := TX12) (N := 49) hx hb hts hin tyX12 tyX12_ok nmX12 hown hK hO hS hM.2.2.1 rfl 1 (by decide) hL120 (fun _ h9 => h9) rfl (by decide +kernel) rfl rfl (Nat.le_of_ble_eq_true rfl) dX12_form_71 (fun H locs hO oq hS => ?_)
              rw [mM_1] at hO
              have hI := iv_skip hI hM.2.1 oq
              have hO : va_at (dC, dI) vwCl (o, .inr (12, mM am (fup zi 1 0) zl)) H := hO
              clear oq
              refine lv_iload hx hb dX12_form_74 (lv_at hl 0 rfl) ?_
              refine iz_nez (tgt := 81) hx hb dX12_form_76 (by decide) (by unfold rg2; omega) (fun q9 => absurd q9 (by decide)) (fun _ => ?_)
              refine lv_iconst (v := kz (-1)) hx hb dX12_form_79 rfl ?_
              exact W.iret (v := kz (-1)) hx hb hr (fun t9 ht hW => ⟨⟨kz (-1), (X, (fup zi 1 0), zl), rfl, ⟨hM, ⟨⟨by show (0 : Int) ≤ 0; omega, by show 0 ≤ (60 : Int); omega⟩, ⟨z2a, z2b⟩, ⟨z9a, z9b⟩, ⟨z20a, z20b⟩, ⟨z21a, z21b⟩, ⟨z22a, z22b⟩, ⟨z26a, z26b⟩, ⟨z28a, z28b⟩, ⟨z34a, z34b⟩, ⟨z35a, z35b⟩, ⟨z38a, z38b⟩, ⟨z39a, z39b⟩, ⟨z46a, z46b⟩, by show zi 2 ≤ (X.2 (am 4) : Int); omega, by show zi 39 ≤ (X.2 (am 41) : Int); omega⟩, rfl⟩, va_K.moved hW.alike hK, by rw [ht]; exact ⟨hI, hO⟩⟩, hS.F ht⟩) hS.2.2 dX12_form_80
          · refine iz_eqz (tgt := 66) hx hb dX12_form_49 (by decide) (by unfold rg2; omega) (fun _ => ?_) (fun q9 => absurd q9 (by decide))
            refine lv_iconst (v := kz 0) hx hb dX12_form_66 rfl ?_
            refine lv_istore (lv' := [(6, .int (kz 0)), (5, .int (kz (zi 1))), (0, .ref o), (1, .int (kz k)), (2, .int (kz s1)), (3, .int (kz c1)), (4, .int (kz kp1))]) hx hb dX12_form_67 hl (by decide) rfl (fun ls hl => ?_)
            refine lv_aload_n hx hb dX12_form_69 rfl (lv_at hl 2 rfl) ?_
            refine lv_iconst (v := kz 0) hx hb dX12_form_70 rfl ?_
            refine iz_put (D := (dC, dI)) (ci := 12) (v := .int (kz 0)) (ty := .int) (C := RX12) (T := TX12) (N := 49) hx hb hts hin tyX12 tyX12_ok nmX12 hown hK hO hS hM.2.2.1 rfl 1 (by decide) hL120 (fun _ h9 => h9) rfl (by decide +kernel) rfl rfl (Nat.le_of_ble_eq_true rfl) dX12_form_71 (fun H locs hO oq hS => ?_)
            rw [mM_1] at hO
            have hI := iv_skip hI hM.2.1 oq
            have hO : va_at (dC, dI) vwCl (o, .inr (12, mM am (fup zi 1 0) zl)) H := hO
            clear oq
            refine lv_iload hx hb dX12_form_74 (lv_at hl 0 rfl) ?_
            refine iz_nez (tgt := 81) hx hb dX12_form_76 (by decide) (by unfold rg2; omega) (fun q9 => absurd q9 (by decide)) (fun _ => ?_)
            refine lv_iconst (v := kz (-1)) hx hb dX12_form_79 rfl ?_
            exact W.iret (v := kz (-1)) hx hb hr (fun t9 ht hW => ⟨⟨kz (-1), (X, (fup zi 1 0), zl), rfl, ⟨hM, ⟨⟨by show (0 : Int) ≤ 0; omega, by show 0 ≤ (60 : Int); omega⟩, ⟨z2a, z2b⟩, ⟨z9a, z9b⟩, ⟨z20a, z20b⟩, ⟨z21a, z21b⟩, ⟨z22a, z22b⟩, ⟨z26a, z26b⟩, ⟨z28a, z28b⟩, ⟨z34a, z34b⟩, ⟨z35a, z35b⟩, ⟨z38a, z38b⟩, ⟨z39a, z39b⟩, ⟨z46a, z46b⟩, by show zi 2 ≤ (X.2 (am 4) : Int); omega, by show zi 39 ≤ (X.2 (am 41) : Int); omega⟩, rfl⟩, va_K.moved hW.alike hK, by rw [ht]; exact ⟨hI, hO⟩⟩, hS.F ht⟩) hS.2.2 dX12_form_80
        · refine iz_eqz (tgt := 66) hx hb dX12_form_39 (by decide) (by unfold rg2; omega) (fun _ => ?_) (fun q9 => absurd q9 (by decide))
          refine lv_iconst (v := kz 0) hx hb dX12_form_66 rfl ?_
          refine lv_istore (lv' := [(6, .int (kz 0)), (5, .int (kz (zi 1))), (0, .ref o), (1, .int (kz k)), (2, .int (kz s1)), (3, .int (kz c1)), (4, .int (kz kp1))]) hx hb dX12_form_67 hl (by decide) rfl (fun ls hl => ?_)
          refine lv_aload_n hx hb dX12_form_69 rfl (lv_at hl 2 rfl) ?_
          refine lv_iconst (v := kz 0) hx hb dX12_form_70 rfl ?_
          refine iz_put (D := (dC, dI)) (ci := 12) (v := .int (kz 0)) (ty := .int) (C := RX12) (T := TX12) (N := 49) hx hb hts hin tyX12 tyX12_ok nmX12 hown hK hO hS hM.2.2.1 rfl 1 (by decide) hL120 (fun _ h9 => h9) rfl (by decide +kernel) rfl rfl (Nat.le_of_ble_eq_true rfl) dX12_form_71 (fun H locs hO oq hS => ?_)
          rw [mM_1] at hO
          have hI := iv_skip hI hM.2.1 oq
          have hO : va_at (dC, dI) vwCl (o, .inr (12, mM am (fup zi 1 0) zl)) H := hO
          clear oq
          refine lv_iload hx hb dX12_form_74 (lv_at hl 0 rfl) ?_
          refine iz_nez (tgt := 81) hx hb dX12_form_76 (by decide) (by unfold rg2; omega) (fun q9 => absurd q9 (by decide)) (fun _ => ?_)
          refine lv_iconst (v := kz (-1)) hx hb dX12_form_79 rfl ?_
          exact W.iret (v := kz (-1)) hx hb hr (fun t9 ht hW => ⟨⟨kz (-1), (X, (fup zi 1 0), zl), rfl, ⟨hM, ⟨⟨by show (0 : Int) ≤ 0; omega, by show 0 ≤ (60 : Int); omega⟩, ⟨z2a, z2b⟩, ⟨z9a, z9b⟩, ⟨z20a, z20b⟩, ⟨z21a, z21b⟩, ⟨z22a, z22b⟩, ⟨z26a, z26b⟩, ⟨z28a, z28b⟩, ⟨z34a, z34b⟩, ⟨z35a, z35b⟩, ⟨z38a, z38b⟩, ⟨z39a, z39b⟩, ⟨z46a, z46b⟩, by show zi 2 ≤ (X.2 (am 4) : Int); omega, by show zi 39 ≤ (X.2 (am 41) : Int); omega⟩, rfl⟩, va_K.moved hW.alike hK, by rw [ht]; exact ⟨hI, hO⟩⟩, hS.F ht⟩) hS.2.2 dX12_form_80
      · refine iz_eqz (tgt := 66) hx hb dX12_form_30 (by decide) (by unfold rg2; omega) (fun _ => ?_) (fun q9 => absurd q9 (by decide))
        refine lv_iconst (v := kz 0) hx hb dX12_form_66 rfl ?_
        refine lv_istore (lv' := [(6, .int (kz 0)), (5, .int (kz (zi 1))), (0, .ref o), (1, .int (kz k)), (2, .int (kz s1)), (3, .int (kz c1)), (4, .int (kz kp1))]) hx hb dX12_form_67 hl (by decide) rfl (fun ls hl => ?_)
        refine lv_aload_n hx hb dX12_form_69 rfl (lv_at hl 2 rfl) ?_
        refine lv_iconst (v := kz 0) hx hb dX12_form_70 rfl ?_
        refine iz_put (D := (dC, dI)) (ci := 12) (v := .int (kz 0)) (ty := .int) (C := RX12) (T := TX12) (N := 49) hx hb hts hin tyX12 tyX12_ok nmX12 hown hK hO hS hM.2.2.1 rfl 1 (by decide) hL120 (fun _ h9 => h9) rfl (by decide +kernel) rfl rfl (Nat.le_of_ble_eq_true rfl) dX12_form_71 (fun H locs hO oq hS => ?_)
        rw [mM_1] at hO
        have hI := iv_skip hI hM.2.1 oq
        have hO : va_at (dC, dI) vwCl (o, .inr (12, mM am (fup zi 1 0) zl)) H := hO
        clear oq
        refine lv_iload hx hb dX12_form_74 (lv_at hl 0 rfl) ?_
        refine iz_nez (tgt := 81) hx hb dX12_form_76 (by decide) (by unfold rg2; omega) (fun q9 => absurd q9 (by decide)) (fun _ => ?_)
        refine lv_iconst (v := kz (-1)) hx hb dX12_form_79 rfl ?_
        exact W.iret (v := kz (-1)) hx hb hr (fun t9 ht hW => ⟨⟨kz (-1), (X, (fup zi 1 0), zl), rfl, ⟨hM, ⟨⟨by show (0 : Int) ≤ 0; omega, by show 0 ≤ (60 : Int); omega⟩, ⟨z2a, z2b⟩, ⟨z9a, z9b⟩, ⟨z20a, z20b⟩, ⟨z21a, z21b⟩, ⟨z22a, z22b⟩, ⟨z26a, z26b⟩, ⟨z28a, z28b⟩, ⟨z34a, z34b⟩, ⟨z35a, z35b⟩, ⟨z38a, z38b⟩, ⟨z39a, z39b⟩, ⟨z46a, z46b⟩, by show zi 2 ≤ (X.2 (am 4) : Int); omega, by show zi 39 ≤ (X.2 (am 41) : Int); omega⟩, rfl⟩, va_K.moved hW.alike hK, by rw [ht]; exact ⟨hI, hO⟩⟩, hS.F ht⟩) hS.2.2 dX12_form_80
  · refine iz_eqz (tgt := 66) hx hb dX12_form_10 (by decide) (by unfold rg2; omega) (fun _ => ?_) (fun q9 => absurd q9 (by decide))
    refine lv_iconst (v := kz 0) hx hb dX12_form_66 rfl ?_
    refine lv_istore (lv' := [(6, .int (kz 0)), (5, .int (kz (zi 1))), (0, .ref o), (1, .int (kz k)), (2, .int (kz s1)), (3, .int (kz c1)), (4, .int (kz kp1))]) hx hb dX12_form_67 hl (by decide) rfl (fun ls hl => ?_)
    refine lv_aload_n hx hb dX12_form_69 rfl (lv_at hl 2 rfl) ?_
    refine lv_iconst (v := kz 0) hx hb dX12_form_70 rfl ?_
    refine iz_put (D := (dC, dI)) (ci := 12) (v := .int (kz 0)) (ty := .int) (C := RX12) (T := TX12) (N := 49) hx hb hts hin tyX12 tyX12_ok nmX12 hown hK hO hS hM.2.2.1 rfl 1 (by decide) hL120 (fun _ h9 => h9) rfl (by decide +kernel) rfl rfl (Nat.le_of_ble_eq_true rfl) dX12_form_71 (fun H locs hO oq hS => ?_)
    rw [mM_1] at hO
    have hI := iv_skip hI hM.2.1 oq
    have hO : va_at (dC, dI) vwCl (o, .inr (12, mM am (fup zi 1 0) zl)) H := hO
    clear oq
    refine lv_iload hx hb dX12_form_74 (lv_at hl 0 rfl) ?_
    refine iz_nez (tgt := 81) hx hb dX12_form_76 (by decide) (by unfold rg2; omega) (fun q9 => absurd q9 (by decide)) (fun _ => ?_)
    refine lv_iconst (v := kz (-1)) hx hb dX12_form_79 rfl ?_
    exact W.iret (v := kz (-1)) hx hb hr (fun t9 ht hW => ⟨⟨kz (-1), (X, (fup zi 1 0), zl), rfl, ⟨hM, ⟨⟨by show (0 : Int) ≤ 0; omega, by show 0 ≤ (60 : Int); omega⟩, ⟨z2a, z2b⟩, ⟨z9a, z9b⟩, ⟨z20a, z20b⟩, ⟨z21a, z21b⟩, ⟨z22a, z22b⟩, ⟨z26a, z26b⟩, ⟨z28a, z28b⟩, ⟨z34a, z34b⟩, ⟨z35a, z35b⟩, ⟨z38a, z38b⟩, ⟨z39a, z39b⟩, ⟨z46a, z46b⟩, by show zi 2 ≤ (X.2 (am 4) : Int); omega, by show zi 39 ≤ (X.2 (am 41) : Int); omega⟩, rfl⟩, va_K.moved hW.alike hK, by rw [ht]; exact ⟨hI, hO⟩⟩, hS.F ht⟩) hS.2.2 dX12_form_80
set_option maxHeartbeats 4000000 in
set_option maxRecDepth 100000 in
/-- X12_part -/
theorem m_part (l : Launch) (dC : Nat → ClassId) (dI : Nat → Nat → Nat) (ca : Nat → ClassId) (A : Nat → Prop) (X : kGh) (o : Nat) (am : Nat → Nat) (zi : Nat → Int) (zl : Nat → Int64) (hM : mS X A o am) (hz : mZ X am zi) (day : Int) (dayr : -2147483648 ≤ day ∧ day ≤ 2147483647) : Met l yX12_part wsX12_part ({ frames := 5, cells := 0, slots := 0, locals := 123 }) (va_Pc [.ref o, .int (kz day)] (fun U => va_K (dC, dI) vwCl (k_tys ca) U ∧ mI (dC, dI) ca A X o am zi zl U.heap)) (va_Ql (fun (r : Int64) (u : kGh × (Nat → Int) × (Nat → Int64)) => mS u.1 A o am ∧ mZ u.1 am u.2.1 ∧ u.2.1 20 = zi 20) (fun u U => va_K (dC, dI) vwCl (k_tys ca) U ∧ mI (dC, dI) ca A u.1 o am u.2.1 u.2.2 U.heap) A) 0 0 A := by
  refine Met.ofW (cc := cX12_part) (maxL := 9) (ret := (some .long)) (by decide) rfl ?_
  intro p e s m args below meth c s₁ B hml hv
  obtain ⟨rfl, hK, hI, hO⟩ := hv
  have hx := B.exec
  have hb := B.bytes
  have hr := B.returns
  have hts := atoms_spec (ws := wsX12_part) B.pre
  have hown : s.vm.findClass RX12 = some m.cls := findClass_of_methodNamed B.named
  have hin : ∀ w ∈ u_ws RX12 TX12 49, w ∈ wsX12_part := by decide +kernel
  have hL120 := hts (.fieldLink RX12 120 "JoinBenchModel" "taped" "I") (by decide +kernel)
  have hL175 := hts (.fieldLink RX12 175 "JoinBenchModel" "lineSize" "I") (by decide +kernel)
  have hL76 := hts (.fieldLink RX12 76 "JoinBenchModel" "line" "[B") (by decide +kernel)
  have hL7 := hts (.fieldLink RX12 7 "JoinBenchModel" "tape" "[B") (by decide +kernel)
  have hL131 := hts (.fieldLink RX12 131 "JoinBenchModel" "forms" "I") (by decide +kernel)
  have hL79 := hts (.fieldLink RX12 79 "JoinBenchModel" "fit" "[I") (by decide +kernel)
  have hL138 := hts (.fieldLink RX12 138 "JoinBenchModel" "rules" "I") (by decide +kernel)
  have hL223 := hts (.fieldLink RX12 223 "JoinBenchModel" "hasParted" "Z") (by decide +kernel)
  have hL182 := hts (.fieldLink RX12 182 "JoinBenchModel" "isCut" "Z") (by decide +kernel)
  have hL230 := hts (.fieldLink RX12 230 "JoinBenchModel" "all" "J") (by decide +kernel)
  have hL234 := hts (.fieldLink RX12 234 "JoinBenchModel" "counted" "J") (by decide +kernel)
  have hL237 := hts (.fieldLink RX12 237 "JoinBenchModel" "isLeft" "Z") (by decide +kernel)
  have hL218 := hts (.fieldLink RX12 218 "JoinBenchModel" "told" "I") (by decide +kernel)
  have hL108 := hts (.fieldLink RX12 108 "JoinBenchModel" "nextOf" "[I") (by decide +kernel)
  have hL93 := hts (.fieldLink RX12 93 "JoinBenchModel" "bestMany" "[I") (by decide +kernel)
  have hL90 := hts (.fieldLink RX12 90 "JoinBenchModel" "best" "[I") (by decide +kernel)
  have g27 : X.1 (am 27) = (127, 21, 40, 0, 0) := hM.1 27 _ rfl (by decide)
  have g0 : X.1 (am 0) = (100, 21, 60, 0, 0) := hM.1 0 _ rfl (by decide)
  have g29 : X.1 (am 29) = (129, 20, 1600, -2147483648, 2147483647) := hM.1 29 _ rfl (by decide)
  have w29 : X.2 (am 29) = 0 := hM.2.2.2 29 _ rfl (by decide) (by decide) (by decide)
  have g44 : X.1 (am 44) = (144, 20, 40, 0, 8) := hM.1 44 _ rfl (by decide)
  have w44 : X.2 (am 44) = 0 := hM.2.2.2 44 _ rfl (by decide) (by decide) (by decide)
  have g33 : X.1 (am 33) = (133, 20, 6560, 0, 8) := hM.1 33 _ rfl (by decide)
  have w33 : X.2 (am 33) = 0 := hM.2.2.2 33 _ rfl (by decide) (by decide) (by decide)
  have g32 : X.1 (am 32) = (132, 20, 52480, -2147483648, 2147483647) := hM.1 32 _ rfl (by decide)
  have w32 : X.2 (am 32) = 0 := hM.2.2.2 32 _ rfl (by decide) (by decide) (by decide)
  obtain ⟨⟨z1a, z1b⟩, ⟨z2a, z2b⟩, ⟨z9a, z9b⟩, ⟨z20a, z20b⟩, ⟨z21a, z21b⟩, ⟨z22a, z22b⟩, ⟨z26a, z26b⟩, ⟨z28a, z28b⟩, ⟨z34a, z34b⟩, ⟨z35a, z35b⟩, ⟨z38a, z38b⟩, ⟨z39a, z39b⟩, ⟨z46a, z46b⟩, hzA, hzB⟩ := id hz
  obtain ⟨H, hH⟩ : ∃ H : Heap, H = s.heap := ⟨_, rfl⟩
  have hS : va_S A s.heap H [] := by rw [hH]; exact va_S.rf
  rw [← hH] at hI hO ⊢
  clear hH
  have hl := lv_entry ([.ref o, .int (kz day)]) (n := 9) (Nat.le_of_ble_eq_true rfl)
  rw [lg_entry_eq]
  generalize (lg_sl ([.ref o, .int (kz day)]) ++ List.replicate (9 - (lg_sl ([.ref o, .int (kz day)])).length) Slot.unset).toArray = ls at hl ⊢
  have hl : lv_has ls 9 [(0, .ref o), (1, .int (kz day))] := hl
  refine lv_aload_n hx hb dX12_part_0 rfl (lv_at hl 0 rfl) ?_
  refine iz_get (D := (dC, dI)) (ci := 12) (v := .int (kz (zi 1))) (C := RX12) (T := TX12) (N := 49) hx hb hts hin hown hK hO rfl 1 (by decide) hL120 (fun _ h9 => h9) rfl dX12_part_1 ?_
  refine lv_istore_n (lv' := [(2, .int (kz (zi 1))), (0, .ref o), (1, .int (kz day))]) hx hb dX12_part_4 rfl hl (by decide) rfl (fun ls hl => ?_)
  refine lv_aload_n hx hb dX12_part_5 rfl (lv_at hl 1 rfl) ?_
  refine vp_callSi (va_Run.run (va_runV (As := []) (rest := []) ⟨hx, hb, hml, hown, hts⟩ (m_isText l dC dI ca A X o am zi zl hM hz) (cwV 0 hts gX12_part_X12_isText rfl rfl rfl (by decide +kernel) ⟨Nat.le_of_ble_eq_true rfl, Nat.le_of_ble_eq_true rfl⟩) ⟨fun a U g mk q => by obtain ⟨q0, qK, qI⟩ := q; exact ⟨q0, va_K.moved (u := U) (U := U.calling g mk a) (Vm.Alike.refl U.vm) qK, qI⟩, va_recv hK (at_P hO) (ci := 12) (q0 := 0) rfl rfl, fun U hU hW => ⟨rfl, va_K.moved hW.alike hK, by rw [hU]; exact ⟨hI, hO⟩⟩⟩ rfl rfl hl.1 rfl (lv_room (Nat.le_of_ble_eq_true rfl)) dX12_part_6 ⟨Nat.le_of_ble_eq_true rfl, Nat.le_of_ble_eq_true rfl⟩)) (fun r_2 hw_1 => ?_)
  rcases hw_1 with rfl | rfl
  · refine iz_eqz (tgt := 33) hx hb dX12_part_9 (by decide) (by unfold rg2; omega) (fun q9 => absurd q9 (by decide)) (fun _ => ?_)
    refine lv_iload_n hx hb dX12_part_12 rfl (lv_at hl 0 rfl) ?_
    refine lv_iconst (v := kz 1) hx hb dX12_part_13 rfl ?_
    refine lv_bipush (v := kz 40) hx hb dX12_part_14 (by decide) ?_
    refine vp_callSi (va_Run.run (va_runS (As := [.int (kz (zi 1)), .int (kz 1), .int (kz 40)]) (rest := []) ⟨hx, hb, hml, hown, hts⟩ (m_in l (zi 1) 1 40 (by omega) (by omega) (by omega)) (va_cwS 3 hts gX12_part_X12_in rfl rfl rfl (by decide +kernel) ⟨Nat.le_of_ble_eq_true rfl, Nat.le_of_ble_eq_true rfl⟩) ⟨fun a U g mk q => q, fun U hU hW => ⟨rfl, trivial⟩⟩ rfl rfl hl.1 rfl (lv_room (Nat.le_of_ble_eq_true rfl)) dX12_part_16 ⟨Nat.le_of_ble_eq_true rfl, Nat.le_of_ble_eq_true rfl⟩)) (fun r_4 hw_3 => ?_)
    rcases hw_3 with ⟨rfl, hw_3⟩ | ⟨rfl, hw_3⟩
    · refine iz_eqz (tgt := 33) hx hb dX12_part_19 (by decide) (by unfold rg2; omega) (fun q9 => absurd q9 (by decide)) (fun _ => ?_)
      refine lv_iload_n hx hb dX12_part_22 rfl (lv_at hl 2 rfl) ?_
      refine vp_callSi (va_Run.run (va_runS (As := [.int (kz day)]) (rest := []) ⟨hx, hb, hml, hown, hts⟩ (m_isDay l day (by omega)) (va_cwS 1 hts gX12_part_X12_isDay rfl rfl rfl (by decide +kernel) ⟨Nat.le_of_ble_eq_true rfl, Nat.le_of_ble_eq_true rfl⟩) ⟨fun a U g mk q => q, fun U hU hW => ⟨rfl, trivial⟩⟩ rfl rfl hl.1 rfl (lv_room (Nat.le_of_ble_eq_true rfl)) dX12_part_23 ⟨Nat.le_of_ble_eq_true rfl, Nat.le_of_ble_eq_true rfl⟩)) (fun r_6 hw_5 => ?_)
      rcases hw_5 with ⟨rfl, hw_5⟩ | ⟨rfl, hw_5⟩
      · refine iz_eqz (tgt := 33) hx hb dX12_part_26 (by decide) (by unfold rg2; omega) (fun q9 => absurd q9 (by decide)) (fun _ => ?_)
        refine lv_iconst (v := kz 1) hx hb dX12_part_29 rfl ?_
        refine lv_goto (tgt := 34) hx hb dX12_part_30 (by decide) ?_
        refine lv_istore_n (lv' := [(3, .int (kz 1)), (2, .int (kz (zi 1))), (0, .ref o), (1, .int (kz day))]) hx hb dX12_part_34 rfl hl (by decide) rfl (fun ls hl => ?_)
        refine lv_aload_n hx hb dX12_part_35 rfl (lv_at hl 2 rfl) ?_
        refine lv_iconst (v := kz 0) hx hb dX12_part_36 rfl ?_
        refine iz_put (D := (dC, dI)) (ci := 12) (v := .int (kz 0)) (ty := .int) (C := RX12) (T := TX12) (N := 49) hx hb hts hin tyX12 tyX12_ok nmX12 hown hK hO hS hM.2.2.1 rfl 1 (by decide) hL120 (fun _ h9 => h9) rfl (by decide +kernel) rfl rfl (Nat.le_of_ble_eq_true rfl) dX12_part_37 (fun H locs hO oq hS => ?_)
        rw [mM_1] at hO
        have hI := iv_skip hI hM.2.1 oq
        have hO : va_at (dC, dI) vwCl (o, .inr (12, mM am (fup zi 1 0) zl)) H := hO
        clear oq
        refine lv_iload_n hx hb dX12_part_40 rfl (lv_at hl 0 rfl) ?_
        refine iz_nez (tgt := 48) hx hb dX12_part_41 (by decide) (by unfold rg2; omega) (fun _ => ?_) (fun q9 => absurd q9 (by decide))
        refine lv_aload_n hx hb dX12_part_48 rfl (lv_at hl 2 rfl) ?_
        refine lv_iload_n hx hb dX12_part_49 rfl (lv_at hl 1 rfl) ?_
        refine iz_put (D := (dC, dI)) (ci := 12) (v := .int (kz (zi 1))) (ty := .int) (C := RX12) (T := TX12) (N := 49) hx hb hts hin tyX12 tyX12_ok nmX12 hown hK hO hS hM.2.2.1 rfl 28 (by decide) hL175 (fun _ h9 => h9) rfl (by decide +kernel) rfl rfl (Nat.le_of_ble_eq_true rfl) dX12_part_50 (fun H locs hO oq hS => ?_)
        rw [mM_28] at hO
        have hI := iv_skip hI hM.2.1 oq
        have hO : va_at (dC, dI) vwCl (o, .inr (12, mM am (fup (fup zi 1 0) 28 (zi 1)) zl)) H := hO
        clear oq
        refine lv_iconst (v := kz 0) hx hb dX12_part_53 rfl ?_
        refine lv_istore (lv' := [(4, .int (kz 0)), (3, .int (kz 1)), (2, .int (kz (zi 1))), (0, .ref o), (1, .int (kz day))]) hx hb dX12_part_54 hl (by decide) rfl (fun ls hl => ?_)
        refine iz_loop1 (P := fun N9 i H locs ls => 0 ≤ i ∧ i ≤ 40 ∧ 40 - i ≤ (N9 : Int) ∧ lv_has ls 9 [(4, .int (kz i)), (3, .int (kz 1)), (2, .int (kz (zi 1))), (0, .ref o), (1, .int (kz day))] ∧ iv (dC, dI) ca A X H ∧ va_at (dC, dI) vwCl (o, .inr (12, mM am (fup (fup zi 1 0) 28 (zi 1)) zl)) H ∧ va_S A s.heap H locs) 100000 (x0 := 0) ?_ ⟨by omega, by omega, by omega, lv_sub hl [0, 1, 2, 3, 4] rfl, hI, hO, hS⟩
        intro n_7 i H locs ls ⟨n_7f0, n_7f1, n_7f2, hl, hI, hO, hS⟩ ihn_7
        refine lv_iload hx hb dX12_part_56 (lv_at hl 0 rfl) ?_
        refine lv_iload_n hx hb dX12_part_58 rfl (lv_at hl 2 rfl) ?_
        refine iz_ge (tgt := 82) hx hb dX12_part_59 (by decide) (by unfold rg2; omega) (fun br_8 => ?_) (fun br_8 => ?_)
        · refine lv_iconst (v := kz 0) hx hb dX12_part_82 rfl ?_
          refine lv_istore (lv' := [(4, .int (kz 0)), (3, .int (kz 1)), (2, .int (kz (zi 1))), (0, .ref o), (1, .int (kz day))]) hx hb dX12_part_83 hl (by decide) rfl (fun ls hl => ?_)
          refine iz_loop1 (P := fun N9 f1 H locs ls => 0 ≤ f1 ∧ f1 ≤ 40 ∧ 40 - f1 ≤ (N9 : Int) ∧ lv_has ls 9 [(4, .int (kz f1)), (3, .int (kz 1)), (2, .int (kz (zi 1))), (0, .ref o), (1, .int (kz day))] ∧ iv (dC, dI) ca A X H ∧ va_at (dC, dI) vwCl (o, .inr (12, mM am (fup (fup zi 1 0) 28 (zi 1)) zl)) H ∧ va_S A s.heap H locs) 100000 (x0 := 0) ?_ ⟨by omega, by omega, by omega, lv_sub hl [0, 1, 2, 3, 4] rfl, hI, hO, hS⟩
          intro n_9 f1 H locs ls ⟨n_9f0, n_9f1, n_9f2, hl, hI, hO, hS⟩ ihn_9
          refine lv_iload hx hb dX12_part_85 (lv_at hl 0 rfl) ?_
          refine lv_aload_n hx hb dX12_part_87 rfl (lv_at hl 3 rfl) ?_
          refine iz_get (D := (dC, dI)) (ci := 12) (v := .int (kz (zi 2))) (C := RX12) (T := TX12) (N := 49) hx hb hts hin hown hK hO rfl 2 (by decide) hL131 (fun _ h9 => h9) rfl dX12_part_88 ?_
          refine iz_ge (tgt := 184) hx hb dX12_part_91 (by decide) (by unfold rg2; omega) (fun br_10 => ?_) (fun br_10 => ?_)
          · refine lv_aload_n hx hb dX12_part_184 rfl (lv_at hl 3 rfl) ?_
            refine lv_iconst (v := kz 1) hx hb dX12_part_185 rfl ?_
            refine iz_put (D := (dC, dI)) (ci := 12) (v := .int (kz 1)) (ty := .boolean) (C := RX12) (T := TX12) (N := 49) hx hb hts hin tyX12 tyX12_ok nmX12 hown hK hO hS hM.2.2.1 rfl 35 (by decide) hL223 (fun _ h9 => h9) rfl (by decide +kernel) (by decide) rfl (Nat.le_of_ble_eq_true rfl) dX12_part_186 (fun H locs hO oq hS => ?_)
            rw [mM_35] at hO
            have hI := iv_skip hI hM.2.1 oq
            have hO : va_at (dC, dI) vwCl (o, .inr (12, mM am (fup (fup (fup zi 1 0) 28 (zi 1)) 35 1) zl)) H := hO
            clear oq
            refine lv_aload_n hx hb dX12_part_189 rfl (lv_at hl 3 rfl) ?_
            refine lv_iconst (v := kz 0) hx hb dX12_part_190 rfl ?_
            refine iz_put (D := (dC, dI)) (ci := 12) (v := .int (kz 0)) (ty := .boolean) (C := RX12) (T := TX12) (N := 49) hx hb hts hin tyX12 tyX12_ok nmX12 hown hK hO hS hM.2.2.1 rfl 34 (by decide) hL182 (fun _ h9 => h9) rfl (by decide +kernel) (by decide) rfl (Nat.le_of_ble_eq_true rfl) dX12_part_191 (fun H locs hO oq hS => ?_)
            rw [mM_34] at hO
            have hI := iv_skip hI hM.2.1 oq
            have hO : va_at (dC, dI) vwCl (o, .inr (12, mM am (fup (fup (fup (fup zi 1 0) 28 (zi 1)) 34 0) 35 1) zl)) H := hO
            clear oq
            refine lv_aload_n hx hb dX12_part_194 rfl (lv_at hl 3 rfl) ?_
            refine lv_aload_n hx hb dX12_part_195 rfl (lv_at hl 3 rfl) ?_
            have g3 : X.1 (am 3) = (103, 21, 320, 0, 0) := hM.1 3 _ rfl (by decide)
            have g4 : X.1 (am 4) = (104, 20, 40, 0, 8) := hM.1 4 _ rfl (by decide)
            have g5 : X.1 (am 5) = (105, 20, 40, 0, 5) := hM.1 5 _ rfl (by decide)
            have w5 : X.2 (am 5) = 0 := hM.2.2.2 5 _ rfl (by decide) (by decide) (by decide)
            have g10 : X.1 (am 10) = (110, 21, 240, 0, 0) := hM.1 10 _ rfl (by decide)
            have g11 : X.1 (am 11) = (111, 20, 24, 0, 3) := hM.1 11 _ rfl (by decide)
            have w11 : X.2 (am 11) = 0 := hM.2.2.2 11 _ rfl (by decide) (by decide) (by decide)
            have g12 : X.1 (am 12) = (112, 20, 24, 0, 3) := hM.1 12 _ rfl (by decide)
            have w12 : X.2 (am 12) = 0 := hM.2.2.2 12 _ rfl (by decide) (by decide) (by decide)
            have g13 : X.1 (am 13) = (113, 20, 24, 0, 4) := hM.1 13 _ rfl (by decide)
            have w13 : X.2 (am 13) = 0 := hM.2.2.2 13 _ rfl (by decide) (by decide) (by decide)
            have g17 : X.1 (am 17) = (117, 22, 36, 0, 0) := hM.1 17 _ rfl (by decide)
            have g30 : X.1 (am 30) = (130, 22, 6560, 0, 0) := hM.1 30 _ rfl (by decide)
            obtain ⟨f3_11, c_f3_11⟩ := iv_o21 hI g3
            obtain ⟨f4_12, c_f4_12, k_f4_12⟩ := iv_o20 hI g4
            obtain ⟨f5_13, c_f5_13, k_f5_13⟩ := iv_o20 hI g5
            obtain ⟨f10_14, c_f10_14⟩ := iv_o21 hI g10
            obtain ⟨f11_15, c_f11_15, k_f11_15⟩ := iv_o20 hI g11
            obtain ⟨f12_16, c_f12_16, k_f12_16⟩ := iv_o20 hI g12
            obtain ⟨f13_17, c_f13_17, k_f13_17⟩ := iv_o20 hI g13
            obtain ⟨f17_18, c_f17_18⟩ := iv_o22 hI g17
            obtain ⟨f27_19, c_f27_19⟩ := iv_o21 hI g27
            obtain ⟨f29_20, c_f29_20, k_f29_20⟩ := iv_o20 hI g29
            obtain ⟨f30_21, c_f30_21⟩ := iv_o22 hI g30
            obtain ⟨f32_22, c_f32_22, k_f32_22⟩ := iv_o20 hI g32
            obtain ⟨f33_23, c_f33_23, k_f33_23⟩ := iv_o20 hI g33
            obtain ⟨f44_24, c_f44_24, k_f44_24⟩ := iv_o20 hI g44
            obtain ⟨fc, ef_3, ef_4, ef_5, ef_10, ef_11, ef_12, ef_13, ef_17, ef_27, ef_29, ef_30, ef_32, ef_33, ef_44⟩ : ∃ fc : Nat → Nat → Int32, fc 3 = f3_11 ∧ fc 4 = f4_12 ∧ fc 5 = f5_13 ∧ fc 10 = f10_14 ∧ fc 11 = f11_15 ∧ fc 12 = f12_16 ∧ fc 13 = f13_17 ∧ fc 17 = f17_18 ∧ fc 27 = f27_19 ∧ fc 29 = f29_20 ∧ fc 30 = f30_21 ∧ fc 32 = f32_22 ∧ fc 33 = f33_23 ∧ fc 44 = f44_24 := ⟨fun j => if j = 3 then f3_11 else if j = 4 then f4_12 else if j = 5 then f5_13 else if j = 10 then f10_14 else if j = 11 then f11_15 else if j = 12 then f12_16 else if j = 13 then f13_17 else if j = 17 then f17_18 else if j = 27 then f27_19 else if j = 29 then f29_20 else if j = 30 then f30_21 else if j = 32 then f32_22 else if j = 33 then f33_23 else f44_24, rfl, rfl, rfl, rfl, rfl, rfl, rfl, rfl, rfl, rfl, rfl, rfl, rfl, rfl⟩
            rw [← ef_3] at c_f3_11
            have c_3 := c_f3_11
            rw [← ef_4] at c_f4_12 k_f4_12
            have c_4 := c_f4_12
            have k_4 := k_f4_12
            rw [← ef_5] at c_f5_13 k_f5_13
            have c_5 := c_f5_13
            have k_5 := k_f5_13
            rw [← ef_10] at c_f10_14
            have c_10 := c_f10_14
            rw [← ef_11] at c_f11_15 k_f11_15
            have c_11 := c_f11_15
            have k_11 := k_f11_15
            rw [← ef_12] at c_f12_16 k_f12_16
            have c_12 := c_f12_16
            have k_12 := k_f12_16
            rw [← ef_13] at c_f13_17 k_f13_17
            have c_13 := c_f13_17
            have k_13 := k_f13_17
            rw [← ef_17] at c_f17_18
            have c_17 := c_f17_18
            rw [← ef_27] at c_f27_19
            have c_27 := c_f27_19
            rw [← ef_29] at c_f29_20 k_f29_20
            have c_29 := c_f29_20
            have k_29 := k_f29_20
            rw [← ef_30] at c_f30_21
            have c_30 := c_f30_21
            rw [← ef_32] at c_f32_22 k_f32_22
            have c_32 := c_f32_22
            have k_32 := k_f32_22
            rw [← ef_33] at c_f33_23 k_f33_23
            have c_33 := c_f33_23
            have k_33 := k_f33_23
            rw [← ef_44] at c_f44_24 k_f44_24
            have c_44 := c_f44_24
            have k_44 := k_f44_24
            have hk : frk X am fc := ⟨k_4, k_5, k_11, k_12, k_13, k_29, k_32, k_33, k_44⟩
            have hsz : ∀ f9 : Int, 0 ≤ f9 → f9 < zi 2 → 1 ≤ ge1 (fc 4) f9 := fun f9 h1 h2 => (k_4 f9 (by omega)).2.2 (by omega)
            refine va_calll (va_runV (As := []) (rest := [.ref o]) ⟨hx, hb, hml, hown, hts⟩ (m_partings l dC dI ca A X o am (fup (fup (fup (fup zi 1 0) 28 (zi 1)) 34 0) 35 1) zl fc hM ⟨⟨by show (0 : Int) ≤ 0; omega, by show 0 ≤ (60 : Int); omega⟩, ⟨z2a, z2b⟩, ⟨z9a, z9b⟩, ⟨z20a, z20b⟩, ⟨z21a, z21b⟩, ⟨z22a, z22b⟩, ⟨z26a, z26b⟩, ⟨by show (0 : Int) ≤ zi 1; omega, by show zi 1 ≤ (40 : Int); omega⟩, ⟨by show (0 : Int) ≤ 0; omega, by show 0 ≤ (1 : Int); omega⟩, ⟨by show (0 : Int) ≤ 1; omega, by show 1 ≤ (1 : Int); omega⟩, ⟨z38a, z38b⟩, ⟨z39a, z39b⟩, ⟨z46a, z46b⟩, by show zi 2 ≤ (X.2 (am 4) : Int); omega, by show zi 39 ≤ (X.2 (am 41) : Int); omega⟩ ⟨k_4, k_5, k_11, k_12, k_13, k_29, k_32, k_33, k_44⟩) (cwV 0 hts gX12_part_X12_partings rfl rfl rfl (by decide +kernel) ⟨Nat.le_of_ble_eq_true rfl, Nat.le_of_ble_eq_true rfl⟩) ⟨fun a U g mk q => by obtain ⟨q0, qK, qI⟩ := q; exact ⟨q0, va_K.moved (u := U) (U := U.calling g mk a) (Vm.Alike.refl U.vm) qK, qI⟩, va_recv hK (at_P hO) (ci := 12) (q0 := 0) rfl rfl, fun U hU hW => ⟨rfl, va_K.moved hW.alike hK, by rw [hU]; exact ⟨⟨hI, hO⟩, c_3, c_4, c_5, c_10, c_11, c_12, c_13, c_17, c_27, c_29, c_30, c_32, c_33, c_44⟩⟩⟩ rfl rfl hl.1 rfl (lv_room (Nat.le_of_ble_eq_true rfl)) dX12_part_196 ⟨Nat.le_of_ble_eq_true rfl, Nat.le_of_ble_eq_true rfl⟩) hS (fun q _ h => h) (fun q h => h) (fun r_26 u t9 H locs ht hvm hw_25 hB hz1 hk1 hS => ?_)
            obtain ⟨-, ⟨hI, hO⟩, c_3, c_4, c_5, c_10, c_11, c_12, c_13, c_17, c_27, c_29, c_30, c_32, c_33, c_44⟩ := hB
            rw [ht] at hI hO c_3 c_4 c_5 c_10 c_11 c_12 c_13 c_17 c_27 c_29 c_30 c_32 c_33 c_44
            clear ht hvm hz1 hk1
            obtain ⟨gc_27, gb_28, gm_29, rfl, k_gb_28, k_gm_29, rc_gc_27, en_gc_27⟩ := hw_25
            have rc_gc_27 : rc fc (zi 1) 0 (zi 2) (zi 9) gc_27 := rc_gc_27
            have en_gc_27 : ∀ f9 b9 t9 : Int, (0 ≤ f9 ∧ f9 < zi 2) → (0 ≤ b9 ∧ b9 ≤ 3) → (0 ≤ t9 ∧ t9 ≤ zi 1) → ¬ ge1 gc_27 (pl f9 b9 t9) = 0 → ∀ w9 : Int, 0 ≤ w9 → w9 < ge1 gm_29 (pl f9 b9 t9) → ev1 (cup fc 33 gm_29) (zi 1) 0 (zi 2) (zi 9) f9 b9 t9 (ge1 gb_28 (8 * pl f9 b9 t9 + w9)) := en_gc_27
            have c_3 : va_at (dC, dI) vwCl (am 3, .inl (ca 21, 320, .inl (fc 3))) H := c_3
            have c_4 : va_at (dC, dI) vwCl (am 4, .inl (ca 20, 40, .inl (fc 4))) H := c_4
            have c_5 : va_at (dC, dI) vwCl (am 5, .inl (ca 20, 40, .inl (fc 5))) H := c_5
            have c_10 : va_at (dC, dI) vwCl (am 10, .inl (ca 21, 240, .inl (fc 10))) H := c_10
            have c_11 : va_at (dC, dI) vwCl (am 11, .inl (ca 20, 24, .inl (fc 11))) H := c_11
            have c_12 : va_at (dC, dI) vwCl (am 12, .inl (ca 20, 24, .inl (fc 12))) H := c_12
            have c_13 : va_at (dC, dI) vwCl (am 13, .inl (ca 20, 24, .inl (fc 13))) H := c_13
            have c_17 : va_at (dC, dI) vwCl (am 17, .inl (ca 22, 36, .inl (fc 17))) H := c_17
            have c_27 : va_at (dC, dI) vwCl (am 27, .inl (ca 21, 40, .inl (fc 27))) H := c_27
            have c_29 : va_at (dC, dI) vwCl (am 29, .inl (ca 20, 1600, .inl (fc 29))) H := c_29
            have c_30 : va_at (dC, dI) vwCl (am 30, .inl (ca 22, 6560, .inl gc_27)) H := c_30
            have c_32 : va_at (dC, dI) vwCl (am 32, .inl (ca 20, 52480, .inl gb_28)) H := c_32
            have c_33 : va_at (dC, dI) vwCl (am 33, .inl (ca 20, 6560, .inl gm_29)) H := c_33
            have c_44 : va_at (dC, dI) vwCl (am 44, .inl (ca 20, 40, .inl (fc 44))) H := c_44
            refine iz_put (D := (dC, dI)) (ci := 12) (v := .long r_26) (ty := .long) (C := RX12) (T := TX12) (N := 49) hx hb hts hin tyX12 tyX12_ok nmX12 hown hK hO hS hM.2.2.1 rfl 36 (by decide) hL230 (fun _ h9 => h9) rfl (by decide +kernel) rfl rfl (Nat.le_of_ble_eq_true rfl) dX12_part_199 (fun H locs hO oq hS => ?_)
            rw [mM_36] at hO
            have hI := iv_skip hI hM.2.1 oq
            have c_3 := c_3.kept (oq _ (iv_ne0 g3 hM.2.1 (by decide)))
            have c_4 := c_4.kept (oq _ (iv_ne0 g4 hM.2.1 (by decide)))
            have c_5 := c_5.kept (oq _ (iv_ne0 g5 hM.2.1 (by decide)))
            have c_10 := c_10.kept (oq _ (iv_ne0 g10 hM.2.1 (by decide)))
            have c_11 := c_11.kept (oq _ (iv_ne0 g11 hM.2.1 (by decide)))
            have c_12 := c_12.kept (oq _ (iv_ne0 g12 hM.2.1 (by decide)))
            have c_13 := c_13.kept (oq _ (iv_ne0 g13 hM.2.1 (by decide)))
            have c_17 := c_17.kept (oq _ (iv_ne0 g17 hM.2.1 (by decide)))
            have c_27 := c_27.kept (oq _ (iv_ne0 g27 hM.2.1 (by decide)))
            have c_29 := c_29.kept (oq _ (iv_ne0 g29 hM.2.1 (by decide)))
            have c_30 := c_30.kept (oq _ (iv_ne0 g30 hM.2.1 (by decide)))
            have c_32 := c_32.kept (oq _ (iv_ne0 g32 hM.2.1 (by decide)))
            have c_33 := c_33.kept (oq _ (iv_ne0 g33 hM.2.1 (by decide)))
            have c_44 := c_44.kept (oq _ (iv_ne0 g44 hM.2.1 (by decide)))
            have hO : va_at (dC, dI) vwCl (o, .inr (12, mM am (fup (fup (fup (fup zi 1 0) 28 (zi 1)) 34 0) 35 1) (fupL zl 36 r_26))) H := hO
            clear oq
            refine lv_aload_n hx hb dX12_part_202 rfl (lv_at hl 3 rfl) ?_
            refine lv_iconst (v := kz 1) hx hb dX12_part_203 rfl ?_
            refine iz_put (D := (dC, dI)) (ci := 12) (v := .int (kz 1)) (ty := .boolean) (C := RX12) (T := TX12) (N := 49) hx hb hts hin tyX12 tyX12_ok nmX12 hown hK hO hS hM.2.2.1 rfl 34 (by decide) hL182 (fun _ h9 => h9) rfl (by decide +kernel) (by decide) rfl (Nat.le_of_ble_eq_true rfl) dX12_part_204 (fun H locs hO oq hS => ?_)
            rw [mM_34] at hO
            have hI := iv_skip hI hM.2.1 oq
            have c_3 := c_3.kept (oq _ (iv_ne0 g3 hM.2.1 (by decide)))
            have c_4 := c_4.kept (oq _ (iv_ne0 g4 hM.2.1 (by decide)))
            have c_5 := c_5.kept (oq _ (iv_ne0 g5 hM.2.1 (by decide)))
            have c_10 := c_10.kept (oq _ (iv_ne0 g10 hM.2.1 (by decide)))
            have c_11 := c_11.kept (oq _ (iv_ne0 g11 hM.2.1 (by decide)))
            have c_12 := c_12.kept (oq _ (iv_ne0 g12 hM.2.1 (by decide)))
            have c_13 := c_13.kept (oq _ (iv_ne0 g13 hM.2.1 (by decide)))
            have c_17 := c_17.kept (oq _ (iv_ne0 g17 hM.2.1 (by decide)))
            have c_27 := c_27.kept (oq _ (iv_ne0 g27 hM.2.1 (by decide)))
            have c_29 := c_29.kept (oq _ (iv_ne0 g29 hM.2.1 (by decide)))
            have c_30 := c_30.kept (oq _ (iv_ne0 g30 hM.2.1 (by decide)))
            have c_32 := c_32.kept (oq _ (iv_ne0 g32 hM.2.1 (by decide)))
            have c_33 := c_33.kept (oq _ (iv_ne0 g33 hM.2.1 (by decide)))
            have c_44 := c_44.kept (oq _ (iv_ne0 g44 hM.2.1 (by decide)))
            have hO : va_at (dC, dI) vwCl (o, .inr (12, mM am (fup (fup (fup (fup zi 1 0) 28 (zi 1)) 34 1) 35 1) (fupL zl 36 r_26))) H := hO
            clear oq
            refine lv_aload_n hx hb dX12_part_207 rfl (lv_at hl 3 rfl) ?_
            refine lv_aload_n hx hb dX12_part_208 rfl (lv_at hl 3 rfl) ?_
            refine va_calll (va_runV (As := []) (rest := [.ref o]) ⟨hx, hb, hml, hown, hts⟩ (m_partings l dC dI ca A X o am (fup (fup (fup (fup zi 1 0) 28 (zi 1)) 34 1) 35 1) (fupL zl 36 r_26) (cup (cup (cup fc 30 gc_27) 32 gb_28) 33 gm_29) hM ⟨⟨by show (0 : Int) ≤ 0; omega, by show 0 ≤ (60 : Int); omega⟩, ⟨z2a, z2b⟩, ⟨z9a, z9b⟩, ⟨z20a, z20b⟩, ⟨z21a, z21b⟩, ⟨z22a, z22b⟩, ⟨z26a, z26b⟩, ⟨by show (0 : Int) ≤ zi 1; omega, by show zi 1 ≤ (40 : Int); omega⟩, ⟨by show (0 : Int) ≤ 1; omega, by show 1 ≤ (1 : Int); omega⟩, ⟨by show (0 : Int) ≤ 1; omega, by show 1 ≤ (1 : Int); omega⟩, ⟨z38a, z38b⟩, ⟨z39a, z39b⟩, ⟨z46a, z46b⟩, by show zi 2 ≤ (X.2 (am 4) : Int); omega, by show zi 39 ≤ (X.2 (am 41) : Int); omega⟩ ⟨k_4, k_5, k_11, k_12, k_13, k_29, k_gb_28, k_gm_29, k_44⟩) (cwV 0 hts gX12_part_X12_partings rfl rfl rfl (by decide +kernel) ⟨Nat.le_of_ble_eq_true rfl, Nat.le_of_ble_eq_true rfl⟩) ⟨fun a U g mk q => by obtain ⟨q0, qK, qI⟩ := q; exact ⟨q0, va_K.moved (u := U) (U := U.calling g mk a) (Vm.Alike.refl U.vm) qK, qI⟩, va_recv hK (at_P hO) (ci := 12) (q0 := 0) rfl rfl, fun U hU hW => ⟨rfl, va_K.moved hW.alike hK, by rw [hU]; exact ⟨⟨hI, hO⟩, c_3, c_4, c_5, c_10, c_11, c_12, c_13, c_17, c_27, c_29, c_30, c_32, c_33, c_44⟩⟩⟩ rfl rfl hl.1 rfl (lv_room (Nat.le_of_ble_eq_true rfl)) dX12_part_209 ⟨Nat.le_of_ble_eq_true rfl, Nat.le_of_ble_eq_true rfl⟩) hS (fun q _ h => h) (fun q h => h) (fun r_31 u t9 H locs ht hvm hw_30 hB hz1 hk1 hS => ?_)
            obtain ⟨-, ⟨hI, hO⟩, c_3, c_4, c_5, c_10, c_11, c_12, c_13, c_17, c_27, c_29, c_30, c_32, c_33, c_44⟩ := hB
            rw [ht] at hI hO c_3 c_4 c_5 c_10 c_11 c_12 c_13 c_17 c_27 c_29 c_30 c_32 c_33 c_44
            clear ht hvm hz1 hk1
            obtain ⟨gc_32, gb_33, gm_34, rfl, k_gb_33, k_gm_34, rc_gc_32, en_gc_32⟩ := hw_30
            have rc_gc_32 : rc fc (zi 1) 1 (zi 2) (zi 9) gc_32 := rc_gc_32
            have en_gc_32 : ∀ f9 b9 t9 : Int, (0 ≤ f9 ∧ f9 < zi 2) → (0 ≤ b9 ∧ b9 ≤ 3) → (0 ≤ t9 ∧ t9 ≤ zi 1) → ¬ ge1 gc_32 (pl f9 b9 t9) = 0 → ∀ w9 : Int, 0 ≤ w9 → w9 < ge1 gm_34 (pl f9 b9 t9) → ev1 (cup fc 33 gm_34) (zi 1) 1 (zi 2) (zi 9) f9 b9 t9 (ge1 gb_33 (8 * pl f9 b9 t9 + w9)) := en_gc_32
            have c_3 : va_at (dC, dI) vwCl (am 3, .inl (ca 21, 320, .inl (fc 3))) H := c_3
            have c_4 : va_at (dC, dI) vwCl (am 4, .inl (ca 20, 40, .inl (fc 4))) H := c_4
            have c_5 : va_at (dC, dI) vwCl (am 5, .inl (ca 20, 40, .inl (fc 5))) H := c_5
            have c_10 : va_at (dC, dI) vwCl (am 10, .inl (ca 21, 240, .inl (fc 10))) H := c_10
            have c_11 : va_at (dC, dI) vwCl (am 11, .inl (ca 20, 24, .inl (fc 11))) H := c_11
            have c_12 : va_at (dC, dI) vwCl (am 12, .inl (ca 20, 24, .inl (fc 12))) H := c_12
            have c_13 : va_at (dC, dI) vwCl (am 13, .inl (ca 20, 24, .inl (fc 13))) H := c_13
            have c_17 : va_at (dC, dI) vwCl (am 17, .inl (ca 22, 36, .inl (fc 17))) H := c_17
            have c_27 : va_at (dC, dI) vwCl (am 27, .inl (ca 21, 40, .inl (fc 27))) H := c_27
            have c_29 : va_at (dC, dI) vwCl (am 29, .inl (ca 20, 1600, .inl (fc 29))) H := c_29
            have c_30 : va_at (dC, dI) vwCl (am 30, .inl (ca 22, 6560, .inl gc_32)) H := c_30
            have c_32 : va_at (dC, dI) vwCl (am 32, .inl (ca 20, 52480, .inl gb_33)) H := c_32
            have c_33 : va_at (dC, dI) vwCl (am 33, .inl (ca 20, 6560, .inl gm_34)) H := c_33
            have c_44 : va_at (dC, dI) vwCl (am 44, .inl (ca 20, 40, .inl (fc 44))) H := c_44
            refine iz_put (D := (dC, dI)) (ci := 12) (v := .long r_31) (ty := .long) (C := RX12) (T := TX12) (N := 49) hx hb hts hin tyX12 tyX12_ok nmX12 hown hK hO hS hM.2.2.1 rfl 37 (by decide) hL234 (fun _ h9 => h9) rfl (by decide +kernel) rfl rfl (Nat.le_of_ble_eq_true rfl) dX12_part_212 (fun H locs hO oq hS => ?_)
            rw [mM_37] at hO
            have hI := iv_skip hI hM.2.1 oq
            have c_3 := c_3.kept (oq _ (iv_ne0 g3 hM.2.1 (by decide)))
            have c_4 := c_4.kept (oq _ (iv_ne0 g4 hM.2.1 (by decide)))
            have c_5 := c_5.kept (oq _ (iv_ne0 g5 hM.2.1 (by decide)))
            have c_10 := c_10.kept (oq _ (iv_ne0 g10 hM.2.1 (by decide)))
            have c_11 := c_11.kept (oq _ (iv_ne0 g11 hM.2.1 (by decide)))
            have c_12 := c_12.kept (oq _ (iv_ne0 g12 hM.2.1 (by decide)))
            have c_13 := c_13.kept (oq _ (iv_ne0 g13 hM.2.1 (by decide)))
            have c_17 := c_17.kept (oq _ (iv_ne0 g17 hM.2.1 (by decide)))
            have c_27 := c_27.kept (oq _ (iv_ne0 g27 hM.2.1 (by decide)))
            have c_29 := c_29.kept (oq _ (iv_ne0 g29 hM.2.1 (by decide)))
            have c_30 := c_30.kept (oq _ (iv_ne0 g30 hM.2.1 (by decide)))
            have c_32 := c_32.kept (oq _ (iv_ne0 g32 hM.2.1 (by decide)))
            have c_33 := c_33.kept (oq _ (iv_ne0 g33 hM.2.1 (by decide)))
            have c_44 := c_44.kept (oq _ (iv_ne0 g44 hM.2.1 (by decide)))
            have hO : va_at (dC, dI) vwCl (o, .inr (12, mM am (fup (fup (fup (fup zi 1 0) 28 (zi 1)) 34 1) 35 1) (fupL (fupL zl 36 r_26) 37 r_31))) H := hO
            clear oq
            refine lv_aload_n hx hb dX12_part_215 rfl (lv_at hl 3 rfl) ?_
            refine lv_aload_n hx hb dX12_part_216 rfl (lv_at hl 3 rfl) ?_
            refine iz_get (D := (dC, dI)) (ci := 12) (v := .long r_31) (C := RX12) (T := TX12) (N := 49) hx hb hts hin hown hK hO rfl 37 (by decide) hL234 (fun _ h9 => h9) rfl dX12_part_217 ?_
            refine lv_lconst (v := 0) hx hb dX12_part_220 (by decide) ?_
            refine W.lcmp hx hb dX12_part_221 ?_
            refine iz_any (fun z_35 z_35a z_35b z_35e => ?_)
            refine iz_nez (tgt := 238) hx hb dX12_part_222 (by decide) (by unfold rg2; omega) (fun br_36 => ?_) (fun br_36 => ?_)
            · refine lv_iconst (v := kz 0) hx hb dX12_part_238 rfl ?_
              refine iz_put (D := (dC, dI)) (ci := 12) (v := .int (kz 0)) (ty := .boolean) (C := RX12) (T := TX12) (N := 49) hx hb hts hin tyX12 tyX12_ok nmX12 hown hK hO hS hM.2.2.1 rfl 38 (by decide) hL237 (fun _ h9 => h9) rfl (by decide +kernel) (by decide) rfl (Nat.le_of_ble_eq_true rfl) dX12_part_239 (fun H locs hO oq hS => ?_)
              rw [mM_38] at hO
              have hI := iv_skip hI hM.2.1 oq
              have c_3 := c_3.kept (oq _ (iv_ne0 g3 hM.2.1 (by decide)))
              have c_4 := c_4.kept (oq _ (iv_ne0 g4 hM.2.1 (by decide)))
              have c_5 := c_5.kept (oq _ (iv_ne0 g5 hM.2.1 (by decide)))
              have c_10 := c_10.kept (oq _ (iv_ne0 g10 hM.2.1 (by decide)))
              have c_11 := c_11.kept (oq _ (iv_ne0 g11 hM.2.1 (by decide)))
              have c_12 := c_12.kept (oq _ (iv_ne0 g12 hM.2.1 (by decide)))
              have c_13 := c_13.kept (oq _ (iv_ne0 g13 hM.2.1 (by decide)))
              have c_17 := c_17.kept (oq _ (iv_ne0 g17 hM.2.1 (by decide)))
              have c_27 := c_27.kept (oq _ (iv_ne0 g27 hM.2.1 (by decide)))
              have c_29 := c_29.kept (oq _ (iv_ne0 g29 hM.2.1 (by decide)))
              have c_30 := c_30.kept (oq _ (iv_ne0 g30 hM.2.1 (by decide)))
              have c_32 := c_32.kept (oq _ (iv_ne0 g32 hM.2.1 (by decide)))
              have c_33 := c_33.kept (oq _ (iv_ne0 g33 hM.2.1 (by decide)))
              have c_44 := c_44.kept (oq _ (iv_ne0 g44 hM.2.1 (by decide)))
              have hO : va_at (dC, dI) vwCl (o, .inr (12, mM am (fup (fup (fup (fup (fup zi 1 0) 28 (zi 1)) 34 1) 35 1) 38 0) (fupL (fupL zl 36 r_26) 37 r_31))) H := hO
              clear oq
              refine lv_aload_n hx hb dX12_part_242 rfl (lv_at hl 3 rfl) ?_
              refine iz_get (D := (dC, dI)) (ci := 12) (v := .int (kz 0)) (C := RX12) (T := TX12) (N := 49) hx hb hts hin hown hK hO rfl 38 (by decide) hL237 (fun _ h9 => h9) rfl dX12_part_243 ?_
              refine iz_eqz (tgt := 262) hx hb dX12_part_246 (by decide) (by unfold rg2; omega) (fun _ => ?_) (fun q9 => absurd q9 (by decide))
              refine lv_aload_n hx hb dX12_part_262 rfl (lv_at hl 3 rfl) ?_
              refine lv_iconst (v := kz 0) hx hb dX12_part_263 rfl ?_
              refine iz_put (D := (dC, dI)) (ci := 12) (v := .int (kz 0)) (ty := .int) (C := RX12) (T := TX12) (N := 49) hx hb hts hin tyX12 tyX12_ok nmX12 hown hK hO hS hM.2.2.1 rfl 39 (by decide) hL218 (fun _ h9 => h9) rfl (by decide +kernel) rfl rfl (Nat.le_of_ble_eq_true rfl) dX12_part_264 (fun H locs hO oq hS => ?_)
              rw [mM_39] at hO
              have hI := iv_skip hI hM.2.1 oq
              have c_3 := c_3.kept (oq _ (iv_ne0 g3 hM.2.1 (by decide)))
              have c_4 := c_4.kept (oq _ (iv_ne0 g4 hM.2.1 (by decide)))
              have c_5 := c_5.kept (oq _ (iv_ne0 g5 hM.2.1 (by decide)))
              have c_10 := c_10.kept (oq _ (iv_ne0 g10 hM.2.1 (by decide)))
              have c_11 := c_11.kept (oq _ (iv_ne0 g11 hM.2.1 (by decide)))
              have c_12 := c_12.kept (oq _ (iv_ne0 g12 hM.2.1 (by decide)))
              have c_13 := c_13.kept (oq _ (iv_ne0 g13 hM.2.1 (by decide)))
              have c_17 := c_17.kept (oq _ (iv_ne0 g17 hM.2.1 (by decide)))
              have c_27 := c_27.kept (oq _ (iv_ne0 g27 hM.2.1 (by decide)))
              have c_29 := c_29.kept (oq _ (iv_ne0 g29 hM.2.1 (by decide)))
              have c_30 := c_30.kept (oq _ (iv_ne0 g30 hM.2.1 (by decide)))
              have c_32 := c_32.kept (oq _ (iv_ne0 g32 hM.2.1 (by decide)))
              have c_33 := c_33.kept (oq _ (iv_ne0 g33 hM.2.1 (by decide)))
              have c_44 := c_44.kept (oq _ (iv_ne0 g44 hM.2.1 (by decide)))
              have hO : va_at (dC, dI) vwCl (o, .inr (12, mM am (fup (fup (fup (fup (fup (fup zi 1 0) 28 (zi 1)) 34 1) 35 1) 38 0) 39 0) (fupL (fupL zl 36 r_26) 37 r_31))) H := hO
              clear oq
              refine lv_iconst (v := kz 0) hx hb dX12_part_267 rfl ?_
              refine lv_istore (lv' := [(4, .int (kz 0)), (3, .int (kz 1)), (2, .int (kz (zi 1))), (0, .ref o), (1, .int (kz day))]) hx hb dX12_part_268 hl (by decide) rfl (fun ls hl => ?_)
              refine iz_loopA1 (α := (Nat → Int32)) (P := fun N9 gn f1 H locs ls => (0 ≤ f1) ∧ (f1 ≤ 40) ∧ (∀ f9 : Int, 0 ≤ f9 → f9 < f1 → ge1 gn f9 = 0) ∧ 40 - f1 ≤ (N9 : Int) ∧ lv_has ls 9 [(4, .int (kz f1)), (3, .int (kz 1)), (2, .int (kz (zi 1))), (0, .ref o), (1, .int (kz day))] ∧ iv (dC, dI) ca A X H ∧ va_at (dC, dI) vwCl (o, .inr (12, mM am (fup (fup (fup (fup (fup (fup zi 1 0) 28 (zi 1)) 34 1) 35 1) 38 0) 39 0) (fupL (fupL zl 36 r_26) 37 r_31))) H ∧ va_S A s.heap H locs ∧ va_at (dC, dI) vwCl (am 3, .inl (ca 21, 320, .inl (fc 3))) H ∧ va_at (dC, dI) vwCl (am 4, .inl (ca 20, 40, .inl (fc 4))) H ∧ va_at (dC, dI) vwCl (am 5, .inl (ca 20, 40, .inl (fc 5))) H ∧ va_at (dC, dI) vwCl (am 10, .inl (ca 21, 240, .inl (fc 10))) H ∧ va_at (dC, dI) vwCl (am 11, .inl (ca 20, 24, .inl (fc 11))) H ∧ va_at (dC, dI) vwCl (am 12, .inl (ca 20, 24, .inl (fc 12))) H ∧ va_at (dC, dI) vwCl (am 13, .inl (ca 20, 24, .inl (fc 13))) H ∧ va_at (dC, dI) vwCl (am 17, .inl (ca 22, 36, .inl (fc 17))) H ∧ va_at (dC, dI) vwCl (am 27, .inl (ca 21, 40, .inl (fc 27))) H ∧ va_at (dC, dI) vwCl (am 29, .inl (ca 20, 1600, .inl (fc 29))) H ∧ va_at (dC, dI) vwCl (am 30, .inl (ca 22, 6560, .inl gc_32)) H ∧ va_at (dC, dI) vwCl (am 32, .inl (ca 20, 52480, .inl gb_33)) H ∧ va_at (dC, dI) vwCl (am 33, .inl (ca 20, 6560, .inl gm_34)) H ∧ va_at (dC, dI) vwCl (am 44, .inl (ca 20, 40, .inl gn)) H ∧ ok20 X (am 44) 40 (0) (8) gn) 100000 (fc 44) (x0 := 0) ?_ ⟨by omega, by omega, (fun f9 h0 h1 => absurd h0 (by omega)), by omega, lv_sub hl [0, 1, 2, 3, 4] rfl, hI, hO, hS, c_3, c_4, c_5, c_10, c_11, c_12, c_13, c_17, c_27, c_29, c_30, c_32, c_33, c_44, k_44⟩
              intro n_37 gn f1 H locs ls ⟨n_37f0, n_37f1, n_37f2, n_37f3, hl, hI, hO, hS, c_3, c_4, c_5, c_10, c_11, c_12, c_13, c_17, c_27, c_29, c_30, c_32, c_33, c_44, k_gn⟩ ihn_37
              refine lv_iload hx hb dX12_part_270 (lv_at hl 0 rfl) ?_
              refine lv_aload_n hx hb dX12_part_272 rfl (lv_at hl 3 rfl) ?_
              refine iz_get (D := (dC, dI)) (ci := 12) (v := .int (kz (zi 2))) (C := RX12) (T := TX12) (N := 49) hx hb hts hin hown hK hO rfl 2 (by decide) hL131 (fun _ h9 => h9) rfl dX12_part_273 ?_
              refine iz_ge (tgt := 293) hx hb dX12_part_276 (by decide) (by unfold rg2; omega) (fun br_38 => ?_) (fun br_38 => ?_)
              · refine lv_iconst (v := kz 0) hx hb dX12_part_293 rfl ?_
                refine lv_istore (lv' := [(4, .int (kz 0)), (3, .int (kz 1)), (2, .int (kz (zi 1))), (0, .ref o), (1, .int (kz day))]) hx hb dX12_part_294 hl (by decide) rfl (fun ls hl => ?_)
                refine iz_loopA1 (α := kGh × (Nat → Int32)) (P := fun N9 (fn9 : kGh × (Nat → Int32)) k1 H locs ls => (0 ≤ k1) ∧ (k1 ≤ 8) ∧ (zi 2 ≤ (fn9.1.2 (am 4) : Int)) ∧ (k1 ≤ (fn9.1.2 (am 41) : Int)) ∧ ((8 - k1) ≤ (N9 : Int)) ∧ mS fn9.1 A o am ∧ frk fn9.1 am (cup (cup (cup (cup fc 30 gc_32) 32 gb_33) 33 gm_34) 44 fn9.2) ∧ (∀ f9 : Int, 0 ≤ f9 → f9 < zi 2 → ge1 fn9.2 f9 ≤ ge1 gm_34 (pl f9 0 0)) ∧ lv_has ls 9 [(3, .int (kz 1)), (2, .int (kz (zi 1))), (0, .ref o), (1, .int (kz day)), (4, .int (kz k1))] ∧ iv (dC, dI) ca A fn9.1 H ∧ va_at (dC, dI) vwCl (o, .inr (12, mM am (fup (fup (fup (fup (fup (fup zi 1 0) 28 (zi 1)) 34 1) 35 1) 38 0) 39 k1) (fupL (fupL zl 36 r_26) 37 r_31))) H ∧ va_S A s.heap H locs ∧ va_at (dC, dI) vwCl (am 3, .inl (ca 21, 320, .inl (fc 3))) H ∧ va_at (dC, dI) vwCl (am 4, .inl (ca 20, 40, .inl (fc 4))) H ∧ va_at (dC, dI) vwCl (am 5, .inl (ca 20, 40, .inl (fc 5))) H ∧ va_at (dC, dI) vwCl (am 10, .inl (ca 21, 240, .inl (fc 10))) H ∧ va_at (dC, dI) vwCl (am 11, .inl (ca 20, 24, .inl (fc 11))) H ∧ va_at (dC, dI) vwCl (am 12, .inl (ca 20, 24, .inl (fc 12))) H ∧ va_at (dC, dI) vwCl (am 13, .inl (ca 20, 24, .inl (fc 13))) H ∧ va_at (dC, dI) vwCl (am 17, .inl (ca 22, 36, .inl (fc 17))) H ∧ va_at (dC, dI) vwCl (am 27, .inl (ca 21, 40, .inl (fc 27))) H ∧ va_at (dC, dI) vwCl (am 29, .inl (ca 20, 1600, .inl (fc 29))) H ∧ va_at (dC, dI) vwCl (am 30, .inl (ca 22, 6560, .inl gc_32)) H ∧ va_at (dC, dI) vwCl (am 32, .inl (ca 20, 52480, .inl gb_33)) H ∧ va_at (dC, dI) vwCl (am 33, .inl (ca 20, 6560, .inl gm_34)) H ∧ va_at (dC, dI) vwCl (am 44, .inl (ca 20, 40, .inl fn9.2)) H) 100000 (X, gn) (x0 := 0) ?_ ⟨by omega, by omega, by omega, by omega, by omega, hM, ⟨k_4, k_5, k_11, k_12, k_13, k_29, k_gb_33, k_gm_34, k_gn⟩, (fun f9 h0 h1 => by rw [n_37f2 f9 h0 (by omega)]; exact (k_gm_34 (pl f9 0 0) ⟨by unfold pl; omega, by unfold pl; omega⟩).1), lv_sub hl [1, 2, 3, 4, 0] rfl, hI, hO, hS, c_3, c_4, c_5, c_10, c_11, c_12, c_13, c_17, c_27, c_29, c_30, c_32, c_33, c_44⟩
                intro n_x ⟨X, gn⟩ k1 H locs ls ⟨lx0, lx1, hzA, hzB, lxm, hM, hk, lxn, hl, hI, hO, hS, c_3, c_4, c_5, c_10, c_11, c_12, c_13, c_17, c_27, c_29, c_30, c_32, c_33, c_44⟩ ihx
                have hM : mS X A o am := hM
                have hI : iv (dC, dI) ca A X H := hI
                have hzA : zi 2 ≤ (X.2 (am 4) : Int) := hzA
                have hzB : k1 ≤ (X.2 (am 41) : Int) := hzB
                have lxn : ∀ f9 : Int, 0 ≤ f9 → f9 < zi 2 → ge1 gn f9 ≤ ge1 gm_34 (pl f9 0 0) := lxn
                have g3 : X.1 (am 3) = (103, 21, 320, 0, 0) := hM.1 3 _ rfl (by decide)
                have g4 : X.1 (am 4) = (104, 20, 40, 0, 8) := hM.1 4 _ rfl (by decide)
                have g5 : X.1 (am 5) = (105, 20, 40, 0, 5) := hM.1 5 _ rfl (by decide)
                have w5 : X.2 (am 5) = 0 := hM.2.2.2 5 _ rfl (by decide) (by decide) (by decide)
                have g10 : X.1 (am 10) = (110, 21, 240, 0, 0) := hM.1 10 _ rfl (by decide)
                have g11 : X.1 (am 11) = (111, 20, 24, 0, 3) := hM.1 11 _ rfl (by decide)
                have w11 : X.2 (am 11) = 0 := hM.2.2.2 11 _ rfl (by decide) (by decide) (by decide)
                have g12 : X.1 (am 12) = (112, 20, 24, 0, 3) := hM.1 12 _ rfl (by decide)
                have w12 : X.2 (am 12) = 0 := hM.2.2.2 12 _ rfl (by decide) (by decide) (by decide)
                have g13 : X.1 (am 13) = (113, 20, 24, 0, 4) := hM.1 13 _ rfl (by decide)
                have w13 : X.2 (am 13) = 0 := hM.2.2.2 13 _ rfl (by decide) (by decide) (by decide)
                have g17 : X.1 (am 17) = (117, 22, 36, 0, 0) := hM.1 17 _ rfl (by decide)
                have g27 : X.1 (am 27) = (127, 21, 40, 0, 0) := hM.1 27 _ rfl (by decide)
                have g29 : X.1 (am 29) = (129, 20, 1600, -2147483648, 2147483647) := hM.1 29 _ rfl (by decide)
                have w29 : X.2 (am 29) = 0 := hM.2.2.2 29 _ rfl (by decide) (by decide) (by decide)
                have g30 : X.1 (am 30) = (130, 22, 6560, 0, 0) := hM.1 30 _ rfl (by decide)
                have g32 : X.1 (am 32) = (132, 20, 52480, -2147483648, 2147483647) := hM.1 32 _ rfl (by decide)
                have w32 : X.2 (am 32) = 0 := hM.2.2.2 32 _ rfl (by decide) (by decide) (by decide)
                have g33 : X.1 (am 33) = (133, 20, 6560, 0, 8) := hM.1 33 _ rfl (by decide)
                have w33 : X.2 (am 33) = 0 := hM.2.2.2 33 _ rfl (by decide) (by decide) (by decide)
                have g40 : X.1 (am 40) = (140, 20, 8, -2147483648, 2147483647) := hM.1 40 _ rfl (by decide)
                have w40 : X.2 (am 40) = 0 := hM.2.2.2 40 _ rfl (by decide) (by decide) (by decide)
                have g41 : X.1 (am 41) = (141, 20, 8, 0, 40) := hM.1 41 _ rfl (by decide)
                have g42 : X.1 (am 42) = (142, 20, 320, 0, 39) := hM.1 42 _ rfl (by decide)
                have w42 : X.2 (am 42) = 0 := hM.2.2.2 42 _ rfl (by decide) (by decide) (by decide)
                have g43 : X.1 (am 43) = (143, 20, 320, -2147483648, 2147483647) := hM.1 43 _ rfl (by decide)
                have w43 : X.2 (am 43) = 0 := hM.2.2.2 43 _ rfl (by decide) (by decide) (by decide)
                have g44 : X.1 (am 44) = (144, 20, 40, 0, 8) := hM.1 44 _ rfl (by decide)
                have w44 : X.2 (am 44) = 0 := hM.2.2.2 44 _ rfl (by decide) (by decide) (by decide)
                obtain ⟨k_4, k_5, k_11, k_12, k_13, k_29, k_32, k_33, k_44⟩ := id hk
                have c_3 : va_at (dC, dI) vwCl (am 3, .inl (ca 21, 320, .inl (fc 3))) H := c_3
                have c_4 : va_at (dC, dI) vwCl (am 4, .inl (ca 20, 40, .inl (fc 4))) H := c_4
                have c_5 : va_at (dC, dI) vwCl (am 5, .inl (ca 20, 40, .inl (fc 5))) H := c_5
                have c_10 : va_at (dC, dI) vwCl (am 10, .inl (ca 21, 240, .inl (fc 10))) H := c_10
                have c_11 : va_at (dC, dI) vwCl (am 11, .inl (ca 20, 24, .inl (fc 11))) H := c_11
                have c_12 : va_at (dC, dI) vwCl (am 12, .inl (ca 20, 24, .inl (fc 12))) H := c_12
                have c_13 : va_at (dC, dI) vwCl (am 13, .inl (ca 20, 24, .inl (fc 13))) H := c_13
                have c_17 : va_at (dC, dI) vwCl (am 17, .inl (ca 22, 36, .inl (fc 17))) H := c_17
                have c_27 : va_at (dC, dI) vwCl (am 27, .inl (ca 21, 40, .inl (fc 27))) H := c_27
                have c_29 : va_at (dC, dI) vwCl (am 29, .inl (ca 20, 1600, .inl (fc 29))) H := c_29
                have c_30 : va_at (dC, dI) vwCl (am 30, .inl (ca 22, 6560, .inl gc_32)) H := c_30
                have c_32 : va_at (dC, dI) vwCl (am 32, .inl (ca 20, 52480, .inl gb_33)) H := c_32
                have c_33 : va_at (dC, dI) vwCl (am 33, .inl (ca 20, 6560, .inl gm_34)) H := c_33
                have c_44 : va_at (dC, dI) vwCl (am 44, .inl (ca 20, 40, .inl gn)) H := c_44
                have k_4 : ok20 X (am 4) 40 (0) (8) (fc 4) := k_4
                have k_5 : ok20 X (am 5) 40 (0) (5) (fc 5) := k_5
                have k_11 : ok20 X (am 11) 24 (0) (3) (fc 11) := k_11
                have k_12 : ok20 X (am 12) 24 (0) (3) (fc 12) := k_12
                have k_13 : ok20 X (am 13) 24 (0) (4) (fc 13) := k_13
                have k_29 : ok20 X (am 29) 1600 (-2147483648) (2147483647) (fc 29) := k_29
                have k_32 : ok20 X (am 32) 52480 (-2147483648) (2147483647) gb_33 := k_32
                have k_33 : ok20 X (am 33) 6560 (0) (8) gm_34 := k_33
                have k_44 : ok20 X (am 44) 40 (0) (8) gn := k_44
                refine lv_iload hx hb dX12_part_296 (lv_at hl 4 rfl) ?_
                refine lv_bipush (v := kz 8) hx hb dX12_part_298 (by decide) ?_
                refine iz_ge (tgt := 448) hx hb dX12_part_300 (by decide) (by unfold rg2; omega) (fun br_39 => ?_) (fun br_39 => ?_)
                · refine lv_aload_n hx hb dX12_part_448 rfl (lv_at hl 2 rfl) ?_
                  refine iz_get (D := (dC, dI)) (ci := 12) (v := .long r_31) (C := RX12) (T := TX12) (N := 49) hx hb hts hin hown hK hO rfl 37 (by decide) hL234 (fun _ h9 => h9) rfl dX12_part_449 ?_
                  exact W.lret (v := r_31) hx hb hr (fun t9 ht hW => ⟨⟨r_31, (X, (fup (fup (fup (fup (fup (fup zi 1 0) 28 (zi 1)) 34 1) 35 1) 38 0) 39 k1), (fupL (fupL zl 36 r_26) 37 r_31)), rfl, ⟨hM, ⟨⟨by show (0 : Int) ≤ 0; omega, by show 0 ≤ (60 : Int); omega⟩, ⟨z2a, z2b⟩, ⟨z9a, z9b⟩, ⟨z20a, z20b⟩, ⟨z21a, z21b⟩, ⟨z22a, z22b⟩, ⟨z26a, z26b⟩, ⟨by show (0 : Int) ≤ zi 1; omega, by show zi 1 ≤ (40 : Int); omega⟩, ⟨by show (0 : Int) ≤ 1; omega, by show 1 ≤ (1 : Int); omega⟩, ⟨by show (0 : Int) ≤ 1; omega, by show 1 ≤ (1 : Int); omega⟩, ⟨by show (0 : Int) ≤ 0; omega, by show 0 ≤ (1 : Int); omega⟩, ⟨by show (0 : Int) ≤ k1; omega, by show k1 ≤ (8 : Int); omega⟩, ⟨z46a, z46b⟩, by show zi 2 ≤ (X.2 (am 4) : Int); omega, by show k1 ≤ (X.2 (am 41) : Int); omega⟩, rfl⟩, va_K.moved hW.alike hK, by rw [ht]; exact ⟨hI, hO⟩⟩, hS.F ht⟩) hS.2.2 dX12_part_452
                · refine lv_iconst (v := kz (-1)) hx hb dX12_part_303 rfl ?_
                  refine lv_istore (lv' := [(5, .int (kz (-1))), (3, .int (kz 1)), (2, .int (kz (zi 1))), (0, .ref o), (1, .int (kz day)), (4, .int (kz k1))]) hx hb dX12_part_304 hl (by decide) rfl (fun ls hl => ?_)
                  refine lv_ldc (own := RX12) (v := kz 1073741823) hx hb hown (hts (.constant RX12 240 (kz 1073741823)) (by decide +kernel)) dX12_part_306 ?_
                  refine lv_istore (lv' := [(6, .int (kz 1073741823)), (5, .int (kz (-1))), (3, .int (kz 1)), (2, .int (kz (zi 1))), (0, .ref o), (1, .int (kz day)), (4, .int (kz k1))]) hx hb dX12_part_308 hl (by decide) rfl (fun ls hl => ?_)
                  refine lv_iconst (v := kz 0) hx hb dX12_part_310 rfl ?_
                  refine lv_istore (lv' := [(7, .int (kz 0)), (6, .int (kz 1073741823)), (5, .int (kz (-1))), (3, .int (kz 1)), (2, .int (kz (zi 1))), (0, .ref o), (1, .int (kz day)), (4, .int (kz k1))]) hx hb dX12_part_311 hl (by decide) rfl (fun ls hl => ?_)
                  refine iz_loopA3 (α := Unit) (P := fun N9 fn9 le of f1 H locs ls => (-1 ≤ le) ∧ (le < zi 2) ∧ (-2147483648 ≤ of ∧ of ≤ 2147483647) ∧ (0 ≤ f1) ∧ (f1 ≤ 40) ∧ (0 ≤ le → ge1 gn le < ge1 gm_34 (pl le 0 0)) ∧ 40 - f1 ≤ (N9 : Int) ∧ lv_has ls 9 [(7, .int (kz f1)), (6, .int (kz of)), (5, .int (kz le)), (3, .int (kz 1)), (2, .int (kz (zi 1))), (0, .ref o), (1, .int (kz day)), (4, .int (kz k1))] ∧ iv (dC, dI) ca A X H ∧ va_at (dC, dI) vwCl (o, .inr (12, mM am (fup (fup (fup (fup (fup (fup zi 1 0) 28 (zi 1)) 34 1) 35 1) 38 0) 39 k1) (fupL (fupL zl 36 r_26) 37 r_31))) H ∧ va_S A s.heap H locs ∧ va_at (dC, dI) vwCl (am 3, .inl (ca 21, 320, .inl (fc 3))) H ∧ va_at (dC, dI) vwCl (am 4, .inl (ca 20, 40, .inl (fc 4))) H ∧ va_at (dC, dI) vwCl (am 5, .inl (ca 20, 40, .inl (fc 5))) H ∧ va_at (dC, dI) vwCl (am 10, .inl (ca 21, 240, .inl (fc 10))) H ∧ va_at (dC, dI) vwCl (am 11, .inl (ca 20, 24, .inl (fc 11))) H ∧ va_at (dC, dI) vwCl (am 12, .inl (ca 20, 24, .inl (fc 12))) H ∧ va_at (dC, dI) vwCl (am 13, .inl (ca 20, 24, .inl (fc 13))) H ∧ va_at (dC, dI) vwCl (am 17, .inl (ca 22, 36, .inl (fc 17))) H ∧ va_at (dC, dI) vwCl (am 27, .inl (ca 21, 40, .inl (fc 27))) H ∧ va_at (dC, dI) vwCl (am 29, .inl (ca 20, 1600, .inl (fc 29))) H ∧ va_at (dC, dI) vwCl (am 30, .inl (ca 22, 6560, .inl gc_32)) H ∧ va_at (dC, dI) vwCl (am 32, .inl (ca 20, 52480, .inl gb_33)) H ∧ va_at (dC, dI) vwCl (am 33, .inl (ca 20, 6560, .inl gm_34)) H ∧ va_at (dC, dI) vwCl (am 44, .inl (ca 20, 40, .inl gn)) H) 100000 () (x0 := (-1)) (x1 := 1073741823) (x2 := 0) ?_ ⟨by omega, by omega, by omega, by omega, by omega, (fun q9 => absurd q9 (by omega)), by omega, lv_sub hl [0, 1, 2, 3, 4, 5, 6, 7] rfl, hI, hO, hS, c_3, c_4, c_5, c_10, c_11, c_12, c_13, c_17, c_27, c_29, c_30, c_32, c_33, c_44⟩
                  intro n_40 fn9 le of f1 H locs ls ⟨n_40f0, n_40f1, n_40f2, n_40f3, n_40f4, n_40f5, n_40f6, hl, hI, hO, hS, c_3, c_4, c_5, c_10, c_11, c_12, c_13, c_17, c_27, c_29, c_30, c_32, c_33, c_44⟩ ihn_40
                  refine lv_iload hx hb dX12_part_313 (lv_at hl 0 rfl) ?_
                  refine lv_aload_n hx hb dX12_part_315 rfl (lv_at hl 5 rfl) ?_
                  refine iz_get (D := (dC, dI)) (ci := 12) (v := .int (kz (zi 2))) (C := RX12) (T := TX12) (N := 49) hx hb hts hin hown hK hO rfl 2 (by decide) hL131 (fun _ h9 => h9) rfl dX12_part_316 ?_
                  refine iz_ge (tgt := 410) hx hb dX12_part_319 (by decide) (by unfold rg2; omega) (fun br_41 => ?_) (fun br_41 => ?_)
                  · refine lv_iload hx hb dX12_part_410 (lv_at hl 2 rfl) ?_
                    refine iz_gez (tgt := 418) hx hb dX12_part_412 (by decide) (by unfold rg2; omega) (fun br_42 => ?_) (fun br_42 => ?_)
                    · refine lv_aload_n hx hb dX12_part_418 rfl (lv_at hl 5 rfl) ?_
                      refine lv_iload hx hb dX12_part_419 (lv_at hl 2 rfl) ?_
                      refine lv_aload_n hx hb dX12_part_421 rfl (lv_at hl 5 rfl) ?_
                      refine iz_get (D := (dC, dI)) (ci := 12) (v := .ref (am 44)) (C := RX12) (T := TX12) (N := 49) hx hb hts hin hown hK hO rfl 44 (by decide) hL108 (fun _ h9 => h9) rfl dX12_part_422 ?_
                      refine lv_iload hx hb dX12_part_425 (lv_at hl 2 rfl) ?_
                      refine iz_iald hx hb hK 0 c_44 rfl (by omega) (by decide) dX12_part_427 ?_
                      obtain ⟨v_43a, v_43b, v_43c⟩ := k_44 le (by omega)
                      clear v_43c
                      obtain ⟨v_43, ev_43⟩ : ∃ z9 : Int, ge1 gn le = z9 := ⟨_, rfl⟩
                      rw [ev_43] at v_43a v_43b ⊢
                      have hwt : v_43 < ge1 gm_34 (pl le 0 0) := by have q8 := n_40f5 (by omega); rw [ev_43] at q8; exact q8
                      refine va_callv (va_runV (As := [.int (kz le), .int (kz v_43)]) (rest := []) ⟨hx, hb, hml, hown, hts⟩ (m_tells l dC dI ca A X o am (fup (fup (fup (fup (fup (fup zi 1 0) 28 (zi 1)) 34 1) 35 1) 38 0) 39 k1) (fupL (fupL zl 36 r_26) 37 r_31) (cup (cup (cup (cup fc 30 gc_32) 32 gb_33) 33 gm_34) 44 gn) hM ⟨⟨by show (0 : Int) ≤ 0; omega, by show 0 ≤ (60 : Int); omega⟩, ⟨z2a, z2b⟩, ⟨z9a, z9b⟩, ⟨z20a, z20b⟩, ⟨z21a, z21b⟩, ⟨z22a, z22b⟩, ⟨z26a, z26b⟩, ⟨by show (0 : Int) ≤ zi 1; omega, by show zi 1 ≤ (40 : Int); omega⟩, ⟨by show (0 : Int) ≤ 1; omega, by show 1 ≤ (1 : Int); omega⟩, ⟨by show (0 : Int) ≤ 1; omega, by show 1 ≤ (1 : Int); omega⟩, ⟨by show (0 : Int) ≤ 0; omega, by show 0 ≤ (1 : Int); omega⟩, ⟨by show (0 : Int) ≤ k1; omega, by show k1 ≤ (8 : Int); omega⟩, ⟨z46a, z46b⟩, by show zi 2 ≤ (X.2 (am 4) : Int); omega, by show k1 ≤ (X.2 (am 41) : Int); omega⟩ ⟨k_4, k_5, k_11, k_12, k_13, k_29, k_32, k_33, k_44⟩ le v_43 (by show 0 ≤ le ∧ le < zi 2; omega) (by omega) hwt (by show k1 ≤ 7; omega) rc_gc_32 en_gc_32) (cwV 2 hts gX12_part_X12_tells rfl rfl rfl (by decide +kernel) ⟨Nat.le_of_ble_eq_true rfl, Nat.le_of_ble_eq_true rfl⟩) ⟨fun a U g mk q => by obtain ⟨q0, qK, qI⟩ := q; exact ⟨q0, va_K.moved (u := U) (U := U.calling g mk a) (Vm.Alike.refl U.vm) qK, qI⟩, va_recv hK (at_P hO) (ci := 12) (q0 := 0) rfl rfl, fun U hU hW => ⟨rfl, va_K.moved hW.alike hK, by rw [hU]; exact ⟨⟨hI, hO⟩, c_3, c_4, c_5, c_10, c_11, c_12, c_13, c_17, c_27, c_29, c_30, c_32, c_33, c_44⟩⟩⟩ rfl rfl hl.1 rfl (lv_room (Nat.le_of_ble_eq_true rfl)) dX12_part_428 ⟨Nat.le_of_ble_eq_true rfl, Nat.le_of_ble_eq_true rfl⟩) hS (fun q _ h => h) (fun q h => h) (fun u t9 H locs ht hvm hwt2 hB hz1 hk1 hS => ?_)
                      obtain ⟨-, ⟨hI, hO⟩, c_3, c_4, c_5, c_10, c_11, c_12, c_13, c_17, c_27, c_29, c_30, c_32, c_33, c_44⟩ := hB
                      rw [ht] at hI hO c_3 c_4 c_5 c_10 c_11 c_12 c_13 c_17 c_27 c_29 c_30 c_32 c_33 c_44
                      clear ht hvm hz1 hk1
                      obtain ⟨X, zi2⟩ := u
                      obtain ⟨hM2, hz2, hk2, e2⟩ := hwt2
                      have hO : va_at (dC, dI) vwCl (o, .inr (12, mM am zi2 (fupL (fupL zl 36 r_26) 37 r_31))) H := hO
                      rw [show zi2 = _ from e2] at hO
                      have hO : va_at (dC, dI) vwCl (o, .inr (12, mM am (fup (fup (fup (fup (fup (fup zi 1 0) 28 (zi 1)) 34 1) 35 1) 38 0) 39 (k1 + 1)) (fupL (fupL zl 36 r_26) 37 r_31))) H := hO
                      have hz2 : mZ X am zi2 := hz2
                      rw [show zi2 = _ from e2] at hz2
                      have hzA : zi 2 ≤ (X.2 (am 4) : Int) := hz2.2.2.2.2.2.2.2.2.2.2.2.2.2.1
                      have hzB : (k1 + 1) ≤ (X.2 (am 41) : Int) := hz2.2.2.2.2.2.2.2.2.2.2.2.2.2.2
                      have hM : mS X A o am := hM2
                      have hI : iv (dC, dI) ca A X H := hI
                      clear hM2 hz2 e2
                      obtain ⟨k_4, k_5, k_11, k_12, k_13, k_29, k_32, k_33, k_44⟩ := id hk2
                      have c_3 : va_at (dC, dI) vwCl (am 3, .inl (ca 21, 320, .inl (fc 3))) H := c_3
                      have c_4 : va_at (dC, dI) vwCl (am 4, .inl (ca 20, 40, .inl (fc 4))) H := c_4
                      have c_5 : va_at (dC, dI) vwCl (am 5, .inl (ca 20, 40, .inl (fc 5))) H := c_5
                      have c_10 : va_at (dC, dI) vwCl (am 10, .inl (ca 21, 240, .inl (fc 10))) H := c_10
                      have c_11 : va_at (dC, dI) vwCl (am 11, .inl (ca 20, 24, .inl (fc 11))) H := c_11
                      have c_12 : va_at (dC, dI) vwCl (am 12, .inl (ca 20, 24, .inl (fc 12))) H := c_12
                      have c_13 : va_at (dC, dI) vwCl (am 13, .inl (ca 20, 24, .inl (fc 13))) H := c_13
                      have c_17 : va_at (dC, dI) vwCl (am 17, .inl (ca 22, 36, .inl (fc 17))) H := c_17
                      have c_27 : va_at (dC, dI) vwCl (am 27, .inl (ca 21, 40, .inl (fc 27))) H := c_27
                      have c_29 : va_at (dC, dI) vwCl (am 29, .inl (ca 20, 1600, .inl (fc 29))) H := c_29
                      have c_30 : va_at (dC, dI) vwCl (am 30, .inl (ca 22, 6560, .inl gc_32)) H := c_30
                      have c_32 : va_at (dC, dI) vwCl (am 32, .inl (ca 20, 52480, .inl gb_33)) H := c_32
                      have c_33 : va_at (dC, dI) vwCl (am 33, .inl (ca 20, 6560, .inl gm_34)) H := c_33
                      have c_44 : va_at (dC, dI) vwCl (am 44, .inl (ca 20, 40, .inl gn)) H := c_44
                      have k_4 : ok20 X (am 4) 40 (0) (8) (fc 4) := k_4
                      have k_5 : ok20 X (am 5) 40 (0) (5) (fc 5) := k_5
                      have k_11 : ok20 X (am 11) 24 (0) (3) (fc 11) := k_11
                      have k_12 : ok20 X (am 12) 24 (0) (3) (fc 12) := k_12
                      have k_13 : ok20 X (am 13) 24 (0) (4) (fc 13) := k_13
                      have k_29 : ok20 X (am 29) 1600 (-2147483648) (2147483647) (fc 29) := k_29
                      have k_32 : ok20 X (am 32) 52480 (-2147483648) (2147483647) gb_33 := k_32
                      have k_33 : ok20 X (am 33) 6560 (0) (8) gm_34 := k_33
                      have k_44 : ok20 X (am 44) 40 (0) (8) gn := k_44
                      have g3 : X.1 (am 3) = (103, 21, 320, 0, 0) := hM.1 3 _ rfl (by decide)
                      have g4 : X.1 (am 4) = (104, 20, 40, 0, 8) := hM.1 4 _ rfl (by decide)
                      have g5 : X.1 (am 5) = (105, 20, 40, 0, 5) := hM.1 5 _ rfl (by decide)
                      have w5 : X.2 (am 5) = 0 := hM.2.2.2 5 _ rfl (by decide) (by decide) (by decide)
                      have g10 : X.1 (am 10) = (110, 21, 240, 0, 0) := hM.1 10 _ rfl (by decide)
                      have g11 : X.1 (am 11) = (111, 20, 24, 0, 3) := hM.1 11 _ rfl (by decide)
                      have w11 : X.2 (am 11) = 0 := hM.2.2.2 11 _ rfl (by decide) (by decide) (by decide)
                      have g12 : X.1 (am 12) = (112, 20, 24, 0, 3) := hM.1 12 _ rfl (by decide)
                      have w12 : X.2 (am 12) = 0 := hM.2.2.2 12 _ rfl (by decide) (by decide) (by decide)
                      have g13 : X.1 (am 13) = (113, 20, 24, 0, 4) := hM.1 13 _ rfl (by decide)
                      have w13 : X.2 (am 13) = 0 := hM.2.2.2 13 _ rfl (by decide) (by decide) (by decide)
                      have g17 : X.1 (am 17) = (117, 22, 36, 0, 0) := hM.1 17 _ rfl (by decide)
                      have g27 : X.1 (am 27) = (127, 21, 40, 0, 0) := hM.1 27 _ rfl (by decide)
                      have g29 : X.1 (am 29) = (129, 20, 1600, -2147483648, 2147483647) := hM.1 29 _ rfl (by decide)
                      have w29 : X.2 (am 29) = 0 := hM.2.2.2 29 _ rfl (by decide) (by decide) (by decide)
                      have g30 : X.1 (am 30) = (130, 22, 6560, 0, 0) := hM.1 30 _ rfl (by decide)
                      have g32 : X.1 (am 32) = (132, 20, 52480, -2147483648, 2147483647) := hM.1 32 _ rfl (by decide)
                      have w32 : X.2 (am 32) = 0 := hM.2.2.2 32 _ rfl (by decide) (by decide) (by decide)
                      have g33 : X.1 (am 33) = (133, 20, 6560, 0, 8) := hM.1 33 _ rfl (by decide)
                      have w33 : X.2 (am 33) = 0 := hM.2.2.2 33 _ rfl (by decide) (by decide) (by decide)
                      have g40 : X.1 (am 40) = (140, 20, 8, -2147483648, 2147483647) := hM.1 40 _ rfl (by decide)
                      have w40 : X.2 (am 40) = 0 := hM.2.2.2 40 _ rfl (by decide) (by decide) (by decide)
                      have g41 : X.1 (am 41) = (141, 20, 8, 0, 40) := hM.1 41 _ rfl (by decide)
                      have g42 : X.1 (am 42) = (142, 20, 320, 0, 39) := hM.1 42 _ rfl (by decide)
                      have w42 : X.2 (am 42) = 0 := hM.2.2.2 42 _ rfl (by decide) (by decide) (by decide)
                      have g43 : X.1 (am 43) = (143, 20, 320, -2147483648, 2147483647) := hM.1 43 _ rfl (by decide)
                      have w43 : X.2 (am 43) = 0 := hM.2.2.2 43 _ rfl (by decide) (by decide) (by decide)
                      have g44 : X.1 (am 44) = (144, 20, 40, 0, 8) := hM.1 44 _ rfl (by decide)
                      have w44 : X.2 (am 44) = 0 := hM.2.2.2 44 _ rfl (by decide) (by decide) (by decide)
                      have hb8 : ge1 gm_34 (pl le 0 0) ≤ 8 := (k_33 (pl le 0 0) ⟨by unfold pl; omega, by unfold pl; omega⟩).2.1
                      refine lv_aload_n hx hb dX12_part_431 rfl (lv_at hl 5 rfl) ?_
                      refine iz_get (D := (dC, dI)) (ci := 12) (v := .ref (am 44)) (C := RX12) (T := TX12) (N := 49) hx hb hts hin hown hK hO rfl 44 (by decide) hL108 (fun _ h9 => h9) rfl dX12_part_432 ?_
                      refine lv_iload hx hb dX12_part_435 (lv_at hl 2 rfl) ?_
                      refine lv_dup2_11 hx hb dX12_part_437 rfl rfl ?_
                      refine iz_iald hx hb hK 0 c_44 rfl (by omega) (by decide) dX12_part_438 ?_
                      obtain ⟨v_44a, v_44b, v_44c⟩ := k_44 le (by omega)
                      clear v_44c
                      obtain ⟨v_44, ev_44⟩ : ∃ z9 : Int, ge1 gn le = z9 := ⟨_, rfl⟩
                      rw [ev_44] at v_44a v_44b ⊢
                      refine lv_iconst (v := kz 1) hx hb dX12_part_439 rfl ?_
                      refine iz_iadd hx hb dX12_part_440 ?_
                      refine iz_iast hx hb hK 0 c_44 hS (iv_A hI g44 (by decide)) rfl (by omega) (by decide) dX12_part_441 (fun H locs c9 oq hS => ?_)
                      have hI := iv_s20 hI g44 k_44 c9 oq (by omega) (by omega) (by decide) (by omega)
                      have hO := hO.kept (oq _ (iv_ne0 g44 hM.2.1 (by decide)).symm)
                      have c_3 := c_3.kept (oq _ (iv_ne g3 g44 (by decide)))
                      have c_4 := c_4.kept (oq _ (iv_ne g4 g44 (by decide)))
                      have c_5 := c_5.kept (oq _ (iv_ne g5 g44 (by decide)))
                      have c_10 := c_10.kept (oq _ (iv_ne g10 g44 (by decide)))
                      have c_11 := c_11.kept (oq _ (iv_ne g11 g44 (by decide)))
                      have c_12 := c_12.kept (oq _ (iv_ne g12 g44 (by decide)))
                      have c_13 := c_13.kept (oq _ (iv_ne g13 g44 (by decide)))
                      have c_17 := c_17.kept (oq _ (iv_ne g17 g44 (by decide)))
                      have c_27 := c_27.kept (oq _ (iv_ne g27 g44 (by decide)))
                      have c_29 := c_29.kept (oq _ (iv_ne g29 g44 (by decide)))
                      have c_30 := c_30.kept (oq _ (iv_ne g30 g44 (by decide)))
                      have c_32 := c_32.kept (oq _ (iv_ne g32 g44 (by decide)))
                      have c_33 := c_33.kept (oq _ (iv_ne g33 g44 (by decide)))
                      have k_g_45 : ok20 X (am 44) 40 (0) (8) (upd gn (Int.toNat le) (kz (v_44 + 1))) := ok20_set k_44 (by omega) (by omega) (by decide) (by omega)
                      obtain ⟨g_45, eg_45⟩ : ∃ g9 : Nat → Int32, g9 = upd gn (Int.toNat le) (kz (v_44 + 1)) := ⟨_, rfl⟩
                      rw [← eg_45] at c9 k_g_45
                      clear oq
                      have c_44 := c9
                      clear c9
                      have ug_45 : ∀ w : Int, 0 ≤ w → ge1 g_45 w = if w = le then (v_44 + 1) else ge1 gn w := fun w hw => by rw [eg_45]; exact ge1_upd gn (by omega) hw (by omega) (by omega)
                      refine lv_iinc (v := kz (k1 + 1)) (lv' := [(4, .int (kz (k1 + 1))), (7, .int (kz f1)), (6, .int (kz of)), (5, .int (kz le)), (3, .int (kz 1)), (2, .int (kz (zi 1))), (0, .ref o), (1, .int (kz day))]) hx hb dX12_part_442 hl (k := 7) rfl (kz_add k1 1) (by decide) rfl (fun ls hl => ?_)
                      refine lv_goto (tgt := 296) hx hb dX12_part_445 (by decide) ?_
                      exact ihx (n_x - 1) (by omega) (X, g_45) (k1 + 1) _ _ _ ⟨by omega, by omega, by omega, by omega, by omega, hM, ⟨k_4, k_5, k_11, k_12, k_13, k_29, k_32, k_33, k_g_45⟩, (fun f9 h0 h1 => by rw [ug_45 f9 h0]; by_cases e9 : f9 = le; rw [if_pos e9, e9]; omega; rw [if_neg e9]; exact lxn f9 h0 h1), lv_sub hl [4, 5, 6, 7, 0] rfl, hI, hO, hS, c_3, c_4, c_5, c_10, c_11, c_12, c_13, c_17, c_27, c_29, c_30, c_32, c_33, c_44⟩
                    · refine lv_goto (tgt := 448) hx hb dX12_part_415 (by decide) ?_
                      refine lv_aload_n hx hb dX12_part_448 rfl (lv_at hl 5 rfl) ?_
                      refine iz_get (D := (dC, dI)) (ci := 12) (v := .long r_31) (C := RX12) (T := TX12) (N := 49) hx hb hts hin hown hK hO rfl 37 (by decide) hL234 (fun _ h9 => h9) rfl dX12_part_449 ?_
                      exact W.lret (v := r_31) hx hb hr (fun t9 ht hW => ⟨⟨r_31, (X, (fup (fup (fup (fup (fup (fup zi 1 0) 28 (zi 1)) 34 1) 35 1) 38 0) 39 k1), (fupL (fupL zl 36 r_26) 37 r_31)), rfl, ⟨hM, ⟨⟨by show (0 : Int) ≤ 0; omega, by show 0 ≤ (60 : Int); omega⟩, ⟨z2a, z2b⟩, ⟨z9a, z9b⟩, ⟨z20a, z20b⟩, ⟨z21a, z21b⟩, ⟨z22a, z22b⟩, ⟨z26a, z26b⟩, ⟨by show (0 : Int) ≤ zi 1; omega, by show zi 1 ≤ (40 : Int); omega⟩, ⟨by show (0 : Int) ≤ 1; omega, by show 1 ≤ (1 : Int); omega⟩, ⟨by show (0 : Int) ≤ 1; omega, by show 1 ≤ (1 : Int); omega⟩, ⟨by show (0 : Int) ≤ 0; omega, by show 0 ≤ (1 : Int); omega⟩, ⟨by show (0 : Int) ≤ k1; omega, by show k1 ≤ (8 : Int); omega⟩, ⟨z46a, z46b⟩, by show zi 2 ≤ (X.2 (am 4) : Int); omega, by show k1 ≤ (X.2 (am 41) : Int); omega⟩, rfl⟩, va_K.moved hW.alike hK, by rw [ht]; exact ⟨hI, hO⟩⟩, hS.F ht⟩) hS.2.2 dX12_part_452
                  · refine lv_iload hx hb dX12_part_322 (lv_at hl 0 rfl) ?_
                    refine lv_iconst (v := kz 0) hx hb dX12_part_324 rfl ?_
                    refine lv_iconst (v := kz 0) hx hb dX12_part_325 rfl ?_
                    refine vp_callSi (va_Run.run (va_runS (As := [.int (kz f1), .int (kz 0), .int (kz 0)]) (rest := []) ⟨hx, hb, hml, hown, hts⟩ (m_placeOf l f1 0 0) (va_cwS 3 hts gX12_part_X12_placeOf rfl rfl rfl (by decide +kernel) ⟨Nat.le_of_ble_eq_true rfl, Nat.le_of_ble_eq_true rfl⟩) ⟨fun a U g mk q => q, fun U hU hW => ⟨rfl, trivial⟩⟩ rfl rfl hl.1 rfl (lv_room (Nat.le_of_ble_eq_true rfl)) dX12_part_326 ⟨Nat.le_of_ble_eq_true rfl, Nat.le_of_ble_eq_true rfl⟩)) (fun r_47 hw_46 => ?_)
                    obtain ⟨z_48, rfl, z_48h⟩ := hw_46
                    refine lv_istore (lv' := [(8, .int (kz z_48)), (7, .int (kz f1)), (6, .int (kz of)), (5, .int (kz le)), (3, .int (kz 1)), (2, .int (kz (zi 1))), (0, .ref o), (1, .int (kz day)), (4, .int (kz k1))]) hx hb dX12_part_329 hl (by decide) rfl (fun ls hl => ?_)
                    refine lv_aload_n hx hb dX12_part_331 rfl (lv_at hl 6 rfl) ?_
                    refine iz_get (D := (dC, dI)) (ci := 12) (v := .ref (am 44)) (C := RX12) (T := TX12) (N := 49) hx hb hts hin hown hK hO rfl 44 (by decide) hL108 (fun _ h9 => h9) rfl dX12_part_332 ?_
                    refine lv_iload hx hb dX12_part_335 (lv_at hl 1 rfl) ?_
                    refine iz_iald hx hb hK 0 c_44 rfl (by omega) (by decide) dX12_part_337 ?_
                    obtain ⟨v_49a, v_49b, v_49c⟩ := k_44 f1 (by omega)
                    clear v_49c
                    obtain ⟨v_49, ev_49⟩ : ∃ z9 : Int, ge1 gn f1 = z9 := ⟨_, rfl⟩
                    rw [ev_49] at v_49a v_49b ⊢
                    refine lv_aload_n hx hb dX12_part_338 rfl (lv_at hl 6 rfl) ?_
                    refine iz_get (D := (dC, dI)) (ci := 12) (v := .ref (am 33)) (C := RX12) (T := TX12) (N := 49) hx hb hts hin hown hK hO rfl 33 (by decide) hL93 (fun _ h9 => h9) rfl dX12_part_339 ?_
                    refine lv_iload hx hb dX12_part_342 (lv_at hl 0 rfl) ?_
                    refine iz_iald hx hb hK 0 c_33 rfl (by omega) (by decide) dX12_part_344 ?_
                    obtain ⟨v_50a, v_50b, v_50c⟩ := k_33 z_48 (by omega)
                    clear v_50c
                    obtain ⟨v_50, ev_50⟩ : ∃ z9 : Int, ge1 gm_34 z_48 = z9 := ⟨_, rfl⟩
                    rw [ev_50] at v_50a v_50b ⊢
                    refine iz_eq (tgt := 404) hx hb dX12_part_345 (by decide) (by unfold rg2; omega) (fun br_51 => ?_) (fun br_51 => ?_)
                    · refine lv_iinc (v := kz (f1 + 1)) (lv' := [(7, .int (kz (f1 + 1))), (8, .int (kz z_48)), (6, .int (kz of)), (5, .int (kz le)), (3, .int (kz 1)), (2, .int (kz (zi 1))), (0, .ref o), (1, .int (kz day)), (4, .int (kz k1))]) hx hb dX12_part_404 hl (k := 1) rfl (kz_add f1 1) (by decide) rfl (fun ls hl => ?_)
                      refine lv_goto (tgt := 313) hx hb dX12_part_407 (by decide) ?_
                      exact ihn_40 (n_40 - 1) (by omega) () le of (f1 + 1) _ _ _ ⟨by omega, by omega, by omega, by omega, by omega, n_40f5, by omega, lv_sub hl [0, 2, 3, 4, 5, 6, 7, 8] rfl, hI, hO, hS, c_3, c_4, c_5, c_10, c_11, c_12, c_13, c_17, c_27, c_29, c_30, c_32, c_33, c_44⟩
                    · refine lv_aload_n hx hb dX12_part_348 rfl (lv_at hl 6 rfl) ?_
                      refine iz_get (D := (dC, dI)) (ci := 12) (v := .ref (am 32)) (C := RX12) (T := TX12) (N := 49) hx hb hts hin hown hK hO rfl 32 (by decide) hL90 (fun _ h9 => h9) rfl dX12_part_349 ?_
                      refine lv_bipush (v := kz 8) hx hb dX12_part_352 (by decide) ?_
                      refine lv_iload hx hb dX12_part_354 (lv_at hl 0 rfl) ?_
                      refine iz_imul hx hb dX12_part_356 ?_
                      refine lv_aload_n hx hb dX12_part_357 rfl (lv_at hl 6 rfl) ?_
                      refine iz_get (D := (dC, dI)) (ci := 12) (v := .ref (am 44)) (C := RX12) (T := TX12) (N := 49) hx hb hts hin hown hK hO rfl 44 (by decide) hL108 (fun _ h9 => h9) rfl dX12_part_358 ?_
                      refine lv_iload hx hb dX12_part_361 (lv_at hl 1 rfl) ?_
                      refine iz_iald hx hb hK 0 c_44 rfl (by omega) (by decide) dX12_part_363 ?_
                      rw [ev_49]
                      refine iz_iadd hx hb dX12_part_364 ?_
                      refine iz_iald hx hb hK 0 c_32 rfl (by omega) (by decide) dX12_part_365 ?_
                      obtain ⟨v_52a, v_52b, v_52c⟩ := k_32 ((8 * z_48) + v_49) (by omega)
                      clear v_52c
                      obtain ⟨v_52, ev_52⟩ : ∃ z9 : Int, ge1 gb_33 ((8 * z_48) + v_49) = z9 := ⟨_, rfl⟩
                      rw [ev_52] at v_52a v_52b ⊢
                      refine vp_callSi (va_Run.run (va_runS (As := [.int (kz v_52)]) (rest := []) ⟨hx, hb, hml, hown, hts⟩ (m_costOf l v_52) (va_cwS 1 hts gX12_part_X12_costOf rfl rfl rfl (by decide +kernel) ⟨Nat.le_of_ble_eq_true rfl, Nat.le_of_ble_eq_true rfl⟩) ⟨fun a U g mk q => q, fun U hU hW => ⟨rfl, trivial⟩⟩ rfl rfl hl.1 rfl (lv_room (Nat.le_of_ble_eq_true rfl)) dX12_part_366 ⟨Nat.le_of_ble_eq_true rfl, Nat.le_of_ble_eq_true rfl⟩)) (fun r_54 hw_53 => ?_)
                      obtain ⟨z_55, z_55a, z_55b, rfl⟩ := kz_ex r_54
                      refine lv_iload hx hb dX12_part_369 (lv_at hl 2 rfl) ?_
                      refine iz_lt (tgt := 377) hx hb dX12_part_371 (by decide) (by unfold rg2; omega) (fun br_56 => ?_) (fun br_56 => ?_)
                      · refine lv_aload_n hx hb dX12_part_377 rfl (lv_at hl 6 rfl) ?_
                        refine iz_get (D := (dC, dI)) (ci := 12) (v := .ref (am 32)) (C := RX12) (T := TX12) (N := 49) hx hb hts hin hown hK hO rfl 32 (by decide) hL90 (fun _ h9 => h9) rfl dX12_part_378 ?_
                        refine lv_bipush (v := kz 8) hx hb dX12_part_381 (by decide) ?_
                        refine lv_iload hx hb dX12_part_383 (lv_at hl 0 rfl) ?_
                        refine iz_imul hx hb dX12_part_385 ?_
                        refine lv_aload_n hx hb dX12_part_386 rfl (lv_at hl 6 rfl) ?_
                        refine iz_get (D := (dC, dI)) (ci := 12) (v := .ref (am 44)) (C := RX12) (T := TX12) (N := 49) hx hb hts hin hown hK hO rfl 44 (by decide) hL108 (fun _ h9 => h9) rfl dX12_part_387 ?_
                        refine lv_iload hx hb dX12_part_390 (lv_at hl 1 rfl) ?_
                        refine iz_iald hx hb hK 0 c_44 rfl (by omega) (by decide) dX12_part_392 ?_
                        rw [ev_49]
                        refine iz_iadd hx hb dX12_part_393 ?_
                        refine iz_iald hx hb hK 0 c_32 rfl (by omega) (by decide) dX12_part_394 ?_
                        rw [ev_52]
                        refine vp_callSi (va_Run.run (va_runS (As := [.int (kz v_52)]) (rest := []) ⟨hx, hb, hml, hown, hts⟩ (m_costOf l v_52) (va_cwS 1 hts gX12_part_X12_costOf rfl rfl rfl (by decide +kernel) ⟨Nat.le_of_ble_eq_true rfl, Nat.le_of_ble_eq_true rfl⟩) ⟨fun a U g mk q => q, fun U hU hW => ⟨rfl, trivial⟩⟩ rfl rfl hl.1 rfl (lv_room (Nat.le_of_ble_eq_true rfl)) dX12_part_395 ⟨Nat.le_of_ble_eq_true rfl, Nat.le_of_ble_eq_true rfl⟩)) (fun r_58 hw_57 => ?_)
                        obtain ⟨z_59, z_59a, z_59b, rfl⟩ := kz_ex r_58
                        refine lv_istore (lv' := [(6, .int (kz z_59)), (8, .int (kz z_48)), (7, .int (kz f1)), (5, .int (kz le)), (3, .int (kz 1)), (2, .int (kz (zi 1))), (0, .ref o), (1, .int (kz day)), (4, .int (kz k1))]) hx hb dX12_part_398 hl (by decide) rfl (fun ls hl => ?_)
                        refine lv_iload hx hb dX12_part_400 (lv_at hl 2 rfl) ?_
                        refine lv_istore (lv' := [(5, .int (kz f1)), (6, .int (kz z_59)), (8, .int (kz z_48)), (7, .int (kz f1)), (3, .int (kz 1)), (2, .int (kz (zi 1))), (0, .ref o), (1, .int (kz day)), (4, .int (kz k1))]) hx hb dX12_part_402 hl (by decide) rfl (fun ls hl => ?_)
                        refine lv_iinc (v := kz (f1 + 1)) (lv' := [(7, .int (kz (f1 + 1))), (5, .int (kz f1)), (6, .int (kz z_59)), (8, .int (kz z_48)), (3, .int (kz 1)), (2, .int (kz (zi 1))), (0, .ref o), (1, .int (kz day)), (4, .int (kz k1))]) hx hb dX12_part_404 hl (k := 3) rfl (kz_add f1 1) (by decide) rfl (fun ls hl => ?_)
                        refine lv_goto (tgt := 313) hx hb dX12_part_407 (by decide) ?_
                        exact ihn_40 (n_40 - 1) (by omega) () f1 z_59 (f1 + 1) _ _ _ ⟨by omega, by omega, by omega, by omega, by omega, (fun _ => by rw [show pl f1 0 0 = z_48 from z_48h.symm, ev_49, ev_50]; have q8 := lxn f1 (by omega) (by omega); rw [show pl f1 0 0 = z_48 from z_48h.symm, ev_49, ev_50] at q8; omega), by omega, lv_sub hl [0, 2, 1, 4, 5, 6, 7, 8] rfl, hI, hO, hS, c_3, c_4, c_5, c_10, c_11, c_12, c_13, c_17, c_27, c_29, c_30, c_32, c_33, c_44⟩
                      · refine lv_goto (tgt := 404) hx hb dX12_part_374 (by decide) ?_
                        refine lv_iinc (v := kz (f1 + 1)) (lv' := [(7, .int (kz (f1 + 1))), (8, .int (kz z_48)), (6, .int (kz of)), (5, .int (kz le)), (3, .int (kz 1)), (2, .int (kz (zi 1))), (0, .ref o), (1, .int (kz day)), (4, .int (kz k1))]) hx hb dX12_part_404 hl (k := 1) rfl (kz_add f1 1) (by decide) rfl (fun ls hl => ?_)
                        refine lv_goto (tgt := 313) hx hb dX12_part_407 (by decide) ?_
                        exact ihn_40 (n_40 - 1) (by omega) () le of (f1 + 1) _ _ _ ⟨by omega, by omega, by omega, by omega, by omega, n_40f5, by omega, lv_sub hl [0, 2, 3, 4, 5, 6, 7, 8] rfl, hI, hO, hS, c_3, c_4, c_5, c_10, c_11, c_12, c_13, c_17, c_27, c_29, c_30, c_32, c_33, c_44⟩
              · refine lv_aload_n hx hb dX12_part_279 rfl (lv_at hl 3 rfl) ?_
                refine iz_get (D := (dC, dI)) (ci := 12) (v := .ref (am 44)) (C := RX12) (T := TX12) (N := 49) hx hb hts hin hown hK hO rfl 44 (by decide) hL108 (fun _ h9 => h9) rfl dX12_part_280 ?_
                refine lv_iload hx hb dX12_part_283 (lv_at hl 0 rfl) ?_
                refine lv_iconst (v := kz 0) hx hb dX12_part_285 rfl ?_
                refine iz_iast hx hb hK 0 c_44 hS (iv_A hI g44 (by decide)) rfl (by omega) (by decide) dX12_part_286 (fun H locs c9 oq hS => ?_)
                have hI := iv_s20 hI g44 k_gn c9 oq (by omega) (by omega) (by decide) (by omega)
                have hO := hO.kept (oq _ (iv_ne0 g44 hM.2.1 (by decide)).symm)
                have c_3 := c_3.kept (oq _ (iv_ne g3 g44 (by decide)))
                have c_4 := c_4.kept (oq _ (iv_ne g4 g44 (by decide)))
                have c_5 := c_5.kept (oq _ (iv_ne g5 g44 (by decide)))
                have c_10 := c_10.kept (oq _ (iv_ne g10 g44 (by decide)))
                have c_11 := c_11.kept (oq _ (iv_ne g11 g44 (by decide)))
                have c_12 := c_12.kept (oq _ (iv_ne g12 g44 (by decide)))
                have c_13 := c_13.kept (oq _ (iv_ne g13 g44 (by decide)))
                have c_17 := c_17.kept (oq _ (iv_ne g17 g44 (by decide)))
                have c_27 := c_27.kept (oq _ (iv_ne g27 g44 (by decide)))
                have c_29 := c_29.kept (oq _ (iv_ne g29 g44 (by decide)))
                have c_30 := c_30.kept (oq _ (iv_ne g30 g44 (by decide)))
                have c_32 := c_32.kept (oq _ (iv_ne g32 g44 (by decide)))
                have c_33 := c_33.kept (oq _ (iv_ne g33 g44 (by decide)))
                have k_g_60 : ok20 X (am 44) 40 (0) (8) (upd gn (Int.toNat f1) (kz 0)) := ok20_set k_gn (by omega) (by omega) (by decide) (by omega)
                obtain ⟨g_60, eg_60⟩ : ∃ g9 : Nat → Int32, g9 = upd gn (Int.toNat f1) (kz 0) := ⟨_, rfl⟩
                rw [← eg_60] at c9 k_g_60
                clear oq
                have c_44 := c9
                clear c9
                have ug_60 : ∀ w : Int, 0 ≤ w → ge1 g_60 w = if w = f1 then 0 else ge1 gn w := fun w hw => by rw [eg_60]; exact ge1_upd gn (by omega) hw (by omega) (by omega)
                refine lv_iinc (v := kz (f1 + 1)) (lv' := [(4, .int (kz (f1 + 1))), (3, .int (kz 1)), (2, .int (kz (zi 1))), (0, .ref o), (1, .int (kz day))]) hx hb dX12_part_287 hl (k := 0) rfl (kz_add f1 1) (by decide) rfl (fun ls hl => ?_)
                refine lv_goto (tgt := 270) hx hb dX12_part_290 (by decide) ?_
                exact ihn_37 (n_37 - 1) (by omega) g_60 (f1 + 1) _ _ _ ⟨by omega, by omega, (fun f9 h0 h1 => by rw [ug_60 f9 h0]; by_cases e9 : f9 = f1; rw [if_pos e9]; rw [if_neg e9]; exact n_37f2 f9 h0 (by omega)), by omega, lv_sub hl [0, 1, 2, 3, 4] rfl, hI, hO, hS, c_3, c_4, c_5, c_10, c_11, c_12, c_13, c_17, c_27, c_29, c_30, c_32, c_33, c_44, k_g_60⟩
            · refine lv_aload_n hx hb dX12_part_225 rfl (lv_at hl 3 rfl) ?_
              refine iz_get (D := (dC, dI)) (ci := 12) (v := .long r_26) (C := RX12) (T := TX12) (N := 49) hx hb hts hin hown hK hO rfl 36 (by decide) hL230 (fun _ h9 => h9) rfl dX12_part_226 ?_
              refine lv_lconst (v := 0) hx hb dX12_part_229 (by decide) ?_
              refine W.lcmp hx hb dX12_part_230 ?_
              refine iz_any (fun z_61 z_61a z_61b z_61e => ?_)
              refine iz_lez (tgt := 238) hx hb dX12_part_231 (by decide) (by unfold rg2; omega) (fun br_62 => ?_) (fun br_62 => ?_)
              · refine lv_iconst (v := kz 0) hx hb dX12_part_238 rfl ?_
                refine iz_put (D := (dC, dI)) (ci := 12) (v := .int (kz 0)) (ty := .boolean) (C := RX12) (T := TX12) (N := 49) hx hb hts hin tyX12 tyX12_ok nmX12 hown hK hO hS hM.2.2.1 rfl 38 (by decide) hL237 (fun _ h9 => h9) rfl (by decide +kernel) (by decide) rfl (Nat.le_of_ble_eq_true rfl) dX12_part_239 (fun H locs hO oq hS => ?_)
                rw [mM_38] at hO
                have hI := iv_skip hI hM.2.1 oq
                have c_3 := c_3.kept (oq _ (iv_ne0 g3 hM.2.1 (by decide)))
                have c_4 := c_4.kept (oq _ (iv_ne0 g4 hM.2.1 (by decide)))
                have c_5 := c_5.kept (oq _ (iv_ne0 g5 hM.2.1 (by decide)))
                have c_10 := c_10.kept (oq _ (iv_ne0 g10 hM.2.1 (by decide)))
                have c_11 := c_11.kept (oq _ (iv_ne0 g11 hM.2.1 (by decide)))
                have c_12 := c_12.kept (oq _ (iv_ne0 g12 hM.2.1 (by decide)))
                have c_13 := c_13.kept (oq _ (iv_ne0 g13 hM.2.1 (by decide)))
                have c_17 := c_17.kept (oq _ (iv_ne0 g17 hM.2.1 (by decide)))
                have c_27 := c_27.kept (oq _ (iv_ne0 g27 hM.2.1 (by decide)))
                have c_29 := c_29.kept (oq _ (iv_ne0 g29 hM.2.1 (by decide)))
                have c_30 := c_30.kept (oq _ (iv_ne0 g30 hM.2.1 (by decide)))
                have c_32 := c_32.kept (oq _ (iv_ne0 g32 hM.2.1 (by decide)))
                have c_33 := c_33.kept (oq _ (iv_ne0 g33 hM.2.1 (by decide)))
                have c_44 := c_44.kept (oq _ (iv_ne0 g44 hM.2.1 (by decide)))
                have hO : va_at (dC, dI) vwCl (o, .inr (12, mM am (fup (fup (fup (fup (fup zi 1 0) 28 (zi 1)) 34 1) 35 1) 38 0) (fupL (fupL zl 36 r_26) 37 r_31))) H := hO
                clear oq
                refine lv_aload_n hx hb dX12_part_242 rfl (lv_at hl 3 rfl) ?_
                refine iz_get (D := (dC, dI)) (ci := 12) (v := .int (kz 0)) (C := RX12) (T := TX12) (N := 49) hx hb hts hin hown hK hO rfl 38 (by decide) hL237 (fun _ h9 => h9) rfl dX12_part_243 ?_
                refine iz_eqz (tgt := 262) hx hb dX12_part_246 (by decide) (by unfold rg2; omega) (fun _ => ?_) (fun q9 => absurd q9 (by decide))
                refine lv_aload_n hx hb dX12_part_262 rfl (lv_at hl 3 rfl) ?_
                refine lv_iconst (v := kz 0) hx hb dX12_part_263 rfl ?_
                refine iz_put (D := (dC, dI)) (ci := 12) (v := .int (kz 0)) (ty := .int) (C := RX12) (T := TX12) (N := 49) hx hb hts hin tyX12 tyX12_ok nmX12 hown hK hO hS hM.2.2.1 rfl 39 (by decide) hL218 (fun _ h9 => h9) rfl (by decide +kernel) rfl rfl (Nat.le_of_ble_eq_true rfl) dX12_part_264 (fun H locs hO oq hS => ?_)
                rw [mM_39] at hO
                have hI := iv_skip hI hM.2.1 oq
                have c_3 := c_3.kept (oq _ (iv_ne0 g3 hM.2.1 (by decide)))
                have c_4 := c_4.kept (oq _ (iv_ne0 g4 hM.2.1 (by decide)))
                have c_5 := c_5.kept (oq _ (iv_ne0 g5 hM.2.1 (by decide)))
                have c_10 := c_10.kept (oq _ (iv_ne0 g10 hM.2.1 (by decide)))
                have c_11 := c_11.kept (oq _ (iv_ne0 g11 hM.2.1 (by decide)))
                have c_12 := c_12.kept (oq _ (iv_ne0 g12 hM.2.1 (by decide)))
                have c_13 := c_13.kept (oq _ (iv_ne0 g13 hM.2.1 (by decide)))
                have c_17 := c_17.kept (oq _ (iv_ne0 g17 hM.2.1 (by decide)))
                have c_27 := c_27.kept (oq _ (iv_ne0 g27 hM.2.1 (by decide)))
                have c_29 := c_29.kept (oq _ (iv_ne0 g29 hM.2.1 (by decide)))
                have c_30 := c_30.kept (oq _ (iv_ne0 g30 hM.2.1 (by decide)))
                have c_32 := c_32.kept (oq _ (iv_ne0 g32 hM.2.1 (by decide)))
                have c_33 := c_33.kept (oq _ (iv_ne0 g33 hM.2.1 (by decide)))
                have c_44 := c_44.kept (oq _ (iv_ne0 g44 hM.2.1 (by decide)))
                have hO : va_at (dC, dI) vwCl (o, .inr (12, mM am (fup (fup (fup (fup (fup (fup zi 1 0) 28 (zi 1)) 34 1) 35 1) 38 0) 39 0) (fupL (fupL zl 36 r_26) 37 r_31))) H := hO
                clear oq
                refine lv_iconst (v := kz 0) hx hb dX12_part_267 rfl ?_
                refine lv_istore (lv' := [(4, .int (kz 0)), (3, .int (kz 1)), (2, .int (kz (zi 1))), (0, .ref o), (1, .int (kz day))]) hx hb dX12_part_268 hl (by decide) rfl (fun ls hl => ?_)
                refine iz_loopA1 (α := (Nat → Int32)) (P := fun N9 gn f1 H locs ls => (0 ≤ f1) ∧ (f1 ≤ 40) ∧ (∀ f9 : Int, 0 ≤ f9 → f9 < f1 → ge1 gn f9 = 0) ∧ 40 - f1 ≤ (N9 : Int) ∧ lv_has ls 9 [(4, .int (kz f1)), (3, .int (kz 1)), (2, .int (kz (zi 1))), (0, .ref o), (1, .int (kz day))] ∧ iv (dC, dI) ca A X H ∧ va_at (dC, dI) vwCl (o, .inr (12, mM am (fup (fup (fup (fup (fup (fup zi 1 0) 28 (zi 1)) 34 1) 35 1) 38 0) 39 0) (fupL (fupL zl 36 r_26) 37 r_31))) H ∧ va_S A s.heap H locs ∧ va_at (dC, dI) vwCl (am 3, .inl (ca 21, 320, .inl (fc 3))) H ∧ va_at (dC, dI) vwCl (am 4, .inl (ca 20, 40, .inl (fc 4))) H ∧ va_at (dC, dI) vwCl (am 5, .inl (ca 20, 40, .inl (fc 5))) H ∧ va_at (dC, dI) vwCl (am 10, .inl (ca 21, 240, .inl (fc 10))) H ∧ va_at (dC, dI) vwCl (am 11, .inl (ca 20, 24, .inl (fc 11))) H ∧ va_at (dC, dI) vwCl (am 12, .inl (ca 20, 24, .inl (fc 12))) H ∧ va_at (dC, dI) vwCl (am 13, .inl (ca 20, 24, .inl (fc 13))) H ∧ va_at (dC, dI) vwCl (am 17, .inl (ca 22, 36, .inl (fc 17))) H ∧ va_at (dC, dI) vwCl (am 27, .inl (ca 21, 40, .inl (fc 27))) H ∧ va_at (dC, dI) vwCl (am 29, .inl (ca 20, 1600, .inl (fc 29))) H ∧ va_at (dC, dI) vwCl (am 30, .inl (ca 22, 6560, .inl gc_32)) H ∧ va_at (dC, dI) vwCl (am 32, .inl (ca 20, 52480, .inl gb_33)) H ∧ va_at (dC, dI) vwCl (am 33, .inl (ca 20, 6560, .inl gm_34)) H ∧ va_at (dC, dI) vwCl (am 44, .inl (ca 20, 40, .inl gn)) H ∧ ok20 X (am 44) 40 (0) (8) gn) 100000 (fc 44) (x0 := 0) ?_ ⟨by omega, by omega, (fun f9 h0 h1 => absurd h0 (by omega)), by omega, lv_sub hl [0, 1, 2, 3, 4] rfl, hI, hO, hS, c_3, c_4, c_5, c_10, c_11, c_12, c_13, c_17, c_27, c_29, c_30, c_32, c_33, c_44, k_44⟩
                intro n_63 gn f1 H locs ls ⟨n_63f0, n_63f1, n_63f2, n_63f3, hl, hI, hO, hS, c_3, c_4, c_5, c_10, c_11, c_12, c_13, c_17, c_27, c_29, c_30, c_32, c_33, c_44, k_gn⟩ ihn_63
                refine lv_iload hx hb dX12_part_270 (lv_at hl 0 rfl) ?_
                refine lv_aload_n hx hb dX12_part_272 rfl (lv_at hl 3 rfl) ?_
                refine iz_get (D := (dC, dI)) (ci := 12) (v := .int (kz (zi 2))) (C := RX12) (T := TX12) (N := 49) hx hb hts hin hown hK hO rfl 2 (by decide) hL131 (fun _ h9 => h9) rfl dX12_part_273 ?_
                refine iz_ge (tgt := 293) hx hb dX12_part_276 (by decide) (by unfold rg2; omega) (fun br_64 => ?_) (fun br_64 => ?_)
                · refine lv_iconst (v := kz 0) hx hb dX12_part_293 rfl ?_
                  refine lv_istore (lv' := [(4, .int (kz 0)), (3, .int (kz 1)), (2, .int (kz (zi 1))), (0, .ref o), (1, .int (kz day))]) hx hb dX12_part_294 hl (by decide) rfl (fun ls hl => ?_)
                  refine iz_loopA1 (α := kGh × (Nat → Int32)) (P := fun N9 (fn9 : kGh × (Nat → Int32)) k1 H locs ls => (0 ≤ k1) ∧ (k1 ≤ 8) ∧ (zi 2 ≤ (fn9.1.2 (am 4) : Int)) ∧ (k1 ≤ (fn9.1.2 (am 41) : Int)) ∧ ((8 - k1) ≤ (N9 : Int)) ∧ mS fn9.1 A o am ∧ frk fn9.1 am (cup (cup (cup (cup fc 30 gc_32) 32 gb_33) 33 gm_34) 44 fn9.2) ∧ (∀ f9 : Int, 0 ≤ f9 → f9 < zi 2 → ge1 fn9.2 f9 ≤ ge1 gm_34 (pl f9 0 0)) ∧ lv_has ls 9 [(3, .int (kz 1)), (2, .int (kz (zi 1))), (0, .ref o), (1, .int (kz day)), (4, .int (kz k1))] ∧ iv (dC, dI) ca A fn9.1 H ∧ va_at (dC, dI) vwCl (o, .inr (12, mM am (fup (fup (fup (fup (fup (fup zi 1 0) 28 (zi 1)) 34 1) 35 1) 38 0) 39 k1) (fupL (fupL zl 36 r_26) 37 r_31))) H ∧ va_S A s.heap H locs ∧ va_at (dC, dI) vwCl (am 3, .inl (ca 21, 320, .inl (fc 3))) H ∧ va_at (dC, dI) vwCl (am 4, .inl (ca 20, 40, .inl (fc 4))) H ∧ va_at (dC, dI) vwCl (am 5, .inl (ca 20, 40, .inl (fc 5))) H ∧ va_at (dC, dI) vwCl (am 10, .inl (ca 21, 240, .inl (fc 10))) H ∧ va_at (dC, dI) vwCl (am 11, .inl (ca 20, 24, .inl (fc 11))) H ∧ va_at (dC, dI) vwCl (am 12, .inl (ca 20, 24, .inl (fc 12))) H ∧ va_at (dC, dI) vwCl (am 13, .inl (ca 20, 24, .inl (fc 13))) H ∧ va_at (dC, dI) vwCl (am 17, .inl (ca 22, 36, .inl (fc 17))) H ∧ va_at (dC, dI) vwCl (am 27, .inl (ca 21, 40, .inl (fc 27))) H ∧ va_at (dC, dI) vwCl (am 29, .inl (ca 20, 1600, .inl (fc 29))) H ∧ va_at (dC, dI) vwCl (am 30, .inl (ca 22, 6560, .inl gc_32)) H ∧ va_at (dC, dI) vwCl (am 32, .inl (ca 20, 52480, .inl gb_33)) H ∧ va_at (dC, dI) vwCl (am 33, .inl (ca 20, 6560, .inl gm_34)) H ∧ va_at (dC, dI) vwCl (am 44, .inl (ca 20, 40, .inl fn9.2)) H) 100000 (X, gn) (x0 := 0) ?_ ⟨by omega, by omega, by omega, by omega, by omega, hM, ⟨k_4, k_5, k_11, k_12, k_13, k_29, k_gb_33, k_gm_34, k_gn⟩, (fun f9 h0 h1 => by rw [n_63f2 f9 h0 (by omega)]; exact (k_gm_34 (pl f9 0 0) ⟨by unfold pl; omega, by unfold pl; omega⟩).1), lv_sub hl [1, 2, 3, 4, 0] rfl, hI, hO, hS, c_3, c_4, c_5, c_10, c_11, c_12, c_13, c_17, c_27, c_29, c_30, c_32, c_33, c_44⟩
                  intro n_x ⟨X, gn⟩ k1 H locs ls ⟨lx0, lx1, hzA, hzB, lxm, hM, hk, lxn, hl, hI, hO, hS, c_3, c_4, c_5, c_10, c_11, c_12, c_13, c_17, c_27, c_29, c_30, c_32, c_33, c_44⟩ ihx
                  have hM : mS X A o am := hM
                  have hI : iv (dC, dI) ca A X H := hI
                  have hzA : zi 2 ≤ (X.2 (am 4) : Int) := hzA
                  have hzB : k1 ≤ (X.2 (am 41) : Int) := hzB
                  have lxn : ∀ f9 : Int, 0 ≤ f9 → f9 < zi 2 → ge1 gn f9 ≤ ge1 gm_34 (pl f9 0 0) := lxn
                  have g3 : X.1 (am 3) = (103, 21, 320, 0, 0) := hM.1 3 _ rfl (by decide)
                  have g4 : X.1 (am 4) = (104, 20, 40, 0, 8) := hM.1 4 _ rfl (by decide)
                  have g5 : X.1 (am 5) = (105, 20, 40, 0, 5) := hM.1 5 _ rfl (by decide)
                  have w5 : X.2 (am 5) = 0 := hM.2.2.2 5 _ rfl (by decide) (by decide) (by decide)
                  have g10 : X.1 (am 10) = (110, 21, 240, 0, 0) := hM.1 10 _ rfl (by decide)
                  have g11 : X.1 (am 11) = (111, 20, 24, 0, 3) := hM.1 11 _ rfl (by decide)
                  have w11 : X.2 (am 11) = 0 := hM.2.2.2 11 _ rfl (by decide) (by decide) (by decide)
                  have g12 : X.1 (am 12) = (112, 20, 24, 0, 3) := hM.1 12 _ rfl (by decide)
                  have w12 : X.2 (am 12) = 0 := hM.2.2.2 12 _ rfl (by decide) (by decide) (by decide)
                  have g13 : X.1 (am 13) = (113, 20, 24, 0, 4) := hM.1 13 _ rfl (by decide)
                  have w13 : X.2 (am 13) = 0 := hM.2.2.2 13 _ rfl (by decide) (by decide) (by decide)
                  have g17 : X.1 (am 17) = (117, 22, 36, 0, 0) := hM.1 17 _ rfl (by decide)
                  have g27 : X.1 (am 27) = (127, 21, 40, 0, 0) := hM.1 27 _ rfl (by decide)
                  have g29 : X.1 (am 29) = (129, 20, 1600, -2147483648, 2147483647) := hM.1 29 _ rfl (by decide)
                  have w29 : X.2 (am 29) = 0 := hM.2.2.2 29 _ rfl (by decide) (by decide) (by decide)
                  have g30 : X.1 (am 30) = (130, 22, 6560, 0, 0) := hM.1 30 _ rfl (by decide)
                  have g32 : X.1 (am 32) = (132, 20, 52480, -2147483648, 2147483647) := hM.1 32 _ rfl (by decide)
                  have w32 : X.2 (am 32) = 0 := hM.2.2.2 32 _ rfl (by decide) (by decide) (by decide)
                  have g33 : X.1 (am 33) = (133, 20, 6560, 0, 8) := hM.1 33 _ rfl (by decide)
                  have w33 : X.2 (am 33) = 0 := hM.2.2.2 33 _ rfl (by decide) (by decide) (by decide)
                  have g40 : X.1 (am 40) = (140, 20, 8, -2147483648, 2147483647) := hM.1 40 _ rfl (by decide)
                  have w40 : X.2 (am 40) = 0 := hM.2.2.2 40 _ rfl (by decide) (by decide) (by decide)
                  have g41 : X.1 (am 41) = (141, 20, 8, 0, 40) := hM.1 41 _ rfl (by decide)
                  have g42 : X.1 (am 42) = (142, 20, 320, 0, 39) := hM.1 42 _ rfl (by decide)
                  have w42 : X.2 (am 42) = 0 := hM.2.2.2 42 _ rfl (by decide) (by decide) (by decide)
                  have g43 : X.1 (am 43) = (143, 20, 320, -2147483648, 2147483647) := hM.1 43 _ rfl (by decide)
                  have w43 : X.2 (am 43) = 0 := hM.2.2.2 43 _ rfl (by decide) (by decide) (by decide)
                  have g44 : X.1 (am 44) = (144, 20, 40, 0, 8) := hM.1 44 _ rfl (by decide)
                  have w44 : X.2 (am 44) = 0 := hM.2.2.2 44 _ rfl (by decide) (by decide) (by decide)
                  obtain ⟨k_4, k_5, k_11, k_12, k_13, k_29, k_32, k_33, k_44⟩ := id hk
                  have c_3 : va_at (dC, dI) vwCl (am 3, .inl (ca 21, 320, .inl (fc 3))) H := c_3
                  have c_4 : va_at (dC, dI) vwCl (am 4, .inl (ca 20, 40, .inl (fc 4))) H := c_4
                  have c_5 : va_at (dC, dI) vwCl (am 5, .inl (ca 20, 40, .inl (fc 5))) H := c_5
                  have c_10 : va_at (dC, dI) vwCl (am 10, .inl (ca 21, 240, .inl (fc 10))) H := c_10
                  have c_11 : va_at (dC, dI) vwCl (am 11, .inl (ca 20, 24, .inl (fc 11))) H := c_11
                  have c_12 : va_at (dC, dI) vwCl (am 12, .inl (ca 20, 24, .inl (fc 12))) H := c_12
                  have c_13 : va_at (dC, dI) vwCl (am 13, .inl (ca 20, 24, .inl (fc 13))) H := c_13
                  have c_17 : va_at (dC, dI) vwCl (am 17, .inl (ca 22, 36, .inl (fc 17))) H := c_17
                  have c_27 : va_at (dC, dI) vwCl (am 27, .inl (ca 21, 40, .inl (fc 27))) H := c_27
                  have c_29 : va_at (dC, dI) vwCl (am 29, .inl (ca 20, 1600, .inl (fc 29))) H := c_29
                  have c_30 : va_at (dC, dI) vwCl (am 30, .inl (ca 22, 6560, .inl gc_32)) H := c_30
                  have c_32 : va_at (dC, dI) vwCl (am 32, .inl (ca 20, 52480, .inl gb_33)) H := c_32
                  have c_33 : va_at (dC, dI) vwCl (am 33, .inl (ca 20, 6560, .inl gm_34)) H := c_33
                  have c_44 : va_at (dC, dI) vwCl (am 44, .inl (ca 20, 40, .inl gn)) H := c_44
                  have k_4 : ok20 X (am 4) 40 (0) (8) (fc 4) := k_4
                  have k_5 : ok20 X (am 5) 40 (0) (5) (fc 5) := k_5
                  have k_11 : ok20 X (am 11) 24 (0) (3) (fc 11) := k_11
                  have k_12 : ok20 X (am 12) 24 (0) (3) (fc 12) := k_12
                  have k_13 : ok20 X (am 13) 24 (0) (4) (fc 13) := k_13
                  have k_29 : ok20 X (am 29) 1600 (-2147483648) (2147483647) (fc 29) := k_29
                  have k_32 : ok20 X (am 32) 52480 (-2147483648) (2147483647) gb_33 := k_32
                  have k_33 : ok20 X (am 33) 6560 (0) (8) gm_34 := k_33
                  have k_44 : ok20 X (am 44) 40 (0) (8) gn := k_44
                  refine lv_iload hx hb dX12_part_296 (lv_at hl 4 rfl) ?_
                  refine lv_bipush (v := kz 8) hx hb dX12_part_298 (by decide) ?_
                  refine iz_ge (tgt := 448) hx hb dX12_part_300 (by decide) (by unfold rg2; omega) (fun br_65 => ?_) (fun br_65 => ?_)
                  · refine lv_aload_n hx hb dX12_part_448 rfl (lv_at hl 2 rfl) ?_
                    refine iz_get (D := (dC, dI)) (ci := 12) (v := .long r_31) (C := RX12) (T := TX12) (N := 49) hx hb hts hin hown hK hO rfl 37 (by decide) hL234 (fun _ h9 => h9) rfl dX12_part_449 ?_
                    exact W.lret (v := r_31) hx hb hr (fun t9 ht hW => ⟨⟨r_31, (X, (fup (fup (fup (fup (fup (fup zi 1 0) 28 (zi 1)) 34 1) 35 1) 38 0) 39 k1), (fupL (fupL zl 36 r_26) 37 r_31)), rfl, ⟨hM, ⟨⟨by show (0 : Int) ≤ 0; omega, by show 0 ≤ (60 : Int); omega⟩, ⟨z2a, z2b⟩, ⟨z9a, z9b⟩, ⟨z20a, z20b⟩, ⟨z21a, z21b⟩, ⟨z22a, z22b⟩, ⟨z26a, z26b⟩, ⟨by show (0 : Int) ≤ zi 1; omega, by show zi 1 ≤ (40 : Int); omega⟩, ⟨by show (0 : Int) ≤ 1; omega, by show 1 ≤ (1 : Int); omega⟩, ⟨by show (0 : Int) ≤ 1; omega, by show 1 ≤ (1 : Int); omega⟩, ⟨by show (0 : Int) ≤ 0; omega, by show 0 ≤ (1 : Int); omega⟩, ⟨by show (0 : Int) ≤ k1; omega, by show k1 ≤ (8 : Int); omega⟩, ⟨z46a, z46b⟩, by show zi 2 ≤ (X.2 (am 4) : Int); omega, by show k1 ≤ (X.2 (am 41) : Int); omega⟩, rfl⟩, va_K.moved hW.alike hK, by rw [ht]; exact ⟨hI, hO⟩⟩, hS.F ht⟩) hS.2.2 dX12_part_452
                  · refine lv_iconst (v := kz (-1)) hx hb dX12_part_303 rfl ?_
                    refine lv_istore (lv' := [(5, .int (kz (-1))), (3, .int (kz 1)), (2, .int (kz (zi 1))), (0, .ref o), (1, .int (kz day)), (4, .int (kz k1))]) hx hb dX12_part_304 hl (by decide) rfl (fun ls hl => ?_)
                    refine lv_ldc (own := RX12) (v := kz 1073741823) hx hb hown (hts (.constant RX12 240 (kz 1073741823)) (by decide +kernel)) dX12_part_306 ?_
                    refine lv_istore (lv' := [(6, .int (kz 1073741823)), (5, .int (kz (-1))), (3, .int (kz 1)), (2, .int (kz (zi 1))), (0, .ref o), (1, .int (kz day)), (4, .int (kz k1))]) hx hb dX12_part_308 hl (by decide) rfl (fun ls hl => ?_)
                    refine lv_iconst (v := kz 0) hx hb dX12_part_310 rfl ?_
                    refine lv_istore (lv' := [(7, .int (kz 0)), (6, .int (kz 1073741823)), (5, .int (kz (-1))), (3, .int (kz 1)), (2, .int (kz (zi 1))), (0, .ref o), (1, .int (kz day)), (4, .int (kz k1))]) hx hb dX12_part_311 hl (by decide) rfl (fun ls hl => ?_)
                    refine iz_loopA3 (α := Unit) (P := fun N9 fn9 le of f1 H locs ls => (-1 ≤ le) ∧ (le < zi 2) ∧ (-2147483648 ≤ of ∧ of ≤ 2147483647) ∧ (0 ≤ f1) ∧ (f1 ≤ 40) ∧ (0 ≤ le → ge1 gn le < ge1 gm_34 (pl le 0 0)) ∧ 40 - f1 ≤ (N9 : Int) ∧ lv_has ls 9 [(7, .int (kz f1)), (6, .int (kz of)), (5, .int (kz le)), (3, .int (kz 1)), (2, .int (kz (zi 1))), (0, .ref o), (1, .int (kz day)), (4, .int (kz k1))] ∧ iv (dC, dI) ca A X H ∧ va_at (dC, dI) vwCl (o, .inr (12, mM am (fup (fup (fup (fup (fup (fup zi 1 0) 28 (zi 1)) 34 1) 35 1) 38 0) 39 k1) (fupL (fupL zl 36 r_26) 37 r_31))) H ∧ va_S A s.heap H locs ∧ va_at (dC, dI) vwCl (am 3, .inl (ca 21, 320, .inl (fc 3))) H ∧ va_at (dC, dI) vwCl (am 4, .inl (ca 20, 40, .inl (fc 4))) H ∧ va_at (dC, dI) vwCl (am 5, .inl (ca 20, 40, .inl (fc 5))) H ∧ va_at (dC, dI) vwCl (am 10, .inl (ca 21, 240, .inl (fc 10))) H ∧ va_at (dC, dI) vwCl (am 11, .inl (ca 20, 24, .inl (fc 11))) H ∧ va_at (dC, dI) vwCl (am 12, .inl (ca 20, 24, .inl (fc 12))) H ∧ va_at (dC, dI) vwCl (am 13, .inl (ca 20, 24, .inl (fc 13))) H ∧ va_at (dC, dI) vwCl (am 17, .inl (ca 22, 36, .inl (fc 17))) H ∧ va_at (dC, dI) vwCl (am 27, .inl (ca 21, 40, .inl (fc 27))) H ∧ va_at (dC, dI) vwCl (am 29, .inl (ca 20, 1600, .inl (fc 29))) H ∧ va_at (dC, dI) vwCl (am 30, .inl (ca 22, 6560, .inl gc_32)) H ∧ va_at (dC, dI) vwCl (am 32, .inl (ca 20, 52480, .inl gb_33)) H ∧ va_at (dC, dI) vwCl (am 33, .inl (ca 20, 6560, .inl gm_34)) H ∧ va_at (dC, dI) vwCl (am 44, .inl (ca 20, 40, .inl gn)) H) 100000 () (x0 := (-1)) (x1 := 1073741823) (x2 := 0) ?_ ⟨by omega, by omega, by omega, by omega, by omega, (fun q9 => absurd q9 (by omega)), by omega, lv_sub hl [0, 1, 2, 3, 4, 5, 6, 7] rfl, hI, hO, hS, c_3, c_4, c_5, c_10, c_11, c_12, c_13, c_17, c_27, c_29, c_30, c_32, c_33, c_44⟩
                    intro n_66 fn9 le of f1 H locs ls ⟨n_66f0, n_66f1, n_66f2, n_66f3, n_66f4, n_66f5, n_66f6, hl, hI, hO, hS, c_3, c_4, c_5, c_10, c_11, c_12, c_13, c_17, c_27, c_29, c_30, c_32, c_33, c_44⟩ ihn_66
                    refine lv_iload hx hb dX12_part_313 (lv_at hl 0 rfl) ?_
                    refine lv_aload_n hx hb dX12_part_315 rfl (lv_at hl 5 rfl) ?_
                    refine iz_get (D := (dC, dI)) (ci := 12) (v := .int (kz (zi 2))) (C := RX12) (T := TX12) (N := 49) hx hb hts hin hown hK hO rfl 2 (by decide) hL131 (fun _ h9 => h9) rfl dX12_part_316 ?_
                    refine iz_ge (tgt := 410) hx hb dX12_part_319 (by decide) (by unfold rg2; omega) (fun br_67 => ?_) (fun br_67 => ?_)
                    · refine lv_iload hx hb dX12_part_410 (lv_at hl 2 rfl) ?_
                      refine iz_gez (tgt := 418) hx hb dX12_part_412 (by decide) (by unfold rg2; omega) (fun br_68 => ?_) (fun br_68 => ?_)
                      · refine lv_aload_n hx hb dX12_part_418 rfl (lv_at hl 5 rfl) ?_
                        refine lv_iload hx hb dX12_part_419 (lv_at hl 2 rfl) ?_
                        refine lv_aload_n hx hb dX12_part_421 rfl (lv_at hl 5 rfl) ?_
                        refine iz_get (D := (dC, dI)) (ci := 12) (v := .ref (am 44)) (C := RX12) (T := TX12) (N := 49) hx hb hts hin hown hK hO rfl 44 (by decide) hL108 (fun _ h9 => h9) rfl dX12_part_422 ?_
                        refine lv_iload hx hb dX12_part_425 (lv_at hl 2 rfl) ?_
                        refine iz_iald hx hb hK 0 c_44 rfl (by omega) (by decide) dX12_part_427 ?_
                        obtain ⟨v_69a, v_69b, v_69c⟩ := k_44 le (by omega)
                        clear v_69c
                        obtain ⟨v_69, ev_69⟩ : ∃ z9 : Int, ge1 gn le = z9 := ⟨_, rfl⟩
                        rw [ev_69] at v_69a v_69b ⊢
                        have hwt : v_69 < ge1 gm_34 (pl le 0 0) := by have q8 := n_66f5 (by omega); rw [ev_69] at q8; exact q8
                        refine va_callv (va_runV (As := [.int (kz le), .int (kz v_69)]) (rest := []) ⟨hx, hb, hml, hown, hts⟩ (m_tells l dC dI ca A X o am (fup (fup (fup (fup (fup (fup zi 1 0) 28 (zi 1)) 34 1) 35 1) 38 0) 39 k1) (fupL (fupL zl 36 r_26) 37 r_31) (cup (cup (cup (cup fc 30 gc_32) 32 gb_33) 33 gm_34) 44 gn) hM ⟨⟨by show (0 : Int) ≤ 0; omega, by show 0 ≤ (60 : Int); omega⟩, ⟨z2a, z2b⟩, ⟨z9a, z9b⟩, ⟨z20a, z20b⟩, ⟨z21a, z21b⟩, ⟨z22a, z22b⟩, ⟨z26a, z26b⟩, ⟨by show (0 : Int) ≤ zi 1; omega, by show zi 1 ≤ (40 : Int); omega⟩, ⟨by show (0 : Int) ≤ 1; omega, by show 1 ≤ (1 : Int); omega⟩, ⟨by show (0 : Int) ≤ 1; omega, by show 1 ≤ (1 : Int); omega⟩, ⟨by show (0 : Int) ≤ 0; omega, by show 0 ≤ (1 : Int); omega⟩, ⟨by show (0 : Int) ≤ k1; omega, by show k1 ≤ (8 : Int); omega⟩, ⟨z46a, z46b⟩, by show zi 2 ≤ (X.2 (am 4) : Int); omega, by show k1 ≤ (X.2 (am 41) : Int); omega⟩ ⟨k_4, k_5, k_11, k_12, k_13, k_29, k_32, k_33, k_44⟩ le v_69 (by show 0 ≤ le ∧ le < zi 2; omega) (by omega) hwt (by show k1 ≤ 7; omega) rc_gc_32 en_gc_32) (cwV 2 hts gX12_part_X12_tells rfl rfl rfl (by decide +kernel) ⟨Nat.le_of_ble_eq_true rfl, Nat.le_of_ble_eq_true rfl⟩) ⟨fun a U g mk q => by obtain ⟨q0, qK, qI⟩ := q; exact ⟨q0, va_K.moved (u := U) (U := U.calling g mk a) (Vm.Alike.refl U.vm) qK, qI⟩, va_recv hK (at_P hO) (ci := 12) (q0 := 0) rfl rfl, fun U hU hW => ⟨rfl, va_K.moved hW.alike hK, by rw [hU]; exact ⟨⟨hI, hO⟩, c_3, c_4, c_5, c_10, c_11, c_12, c_13, c_17, c_27, c_29, c_30, c_32, c_33, c_44⟩⟩⟩ rfl rfl hl.1 rfl (lv_room (Nat.le_of_ble_eq_true rfl)) dX12_part_428 ⟨Nat.le_of_ble_eq_true rfl, Nat.le_of_ble_eq_true rfl⟩) hS (fun q _ h => h) (fun q h => h) (fun u t9 H locs ht hvm hwt2 hB hz1 hk1 hS => ?_)
                        obtain ⟨-, ⟨hI, hO⟩, c_3, c_4, c_5, c_10, c_11, c_12, c_13, c_17, c_27, c_29, c_30, c_32, c_33, c_44⟩ := hB
                        rw [ht] at hI hO c_3 c_4 c_5 c_10 c_11 c_12 c_13 c_17 c_27 c_29 c_30 c_32 c_33 c_44
                        clear ht hvm hz1 hk1
                        obtain ⟨X, zi2⟩ := u
                        obtain ⟨hM2, hz2, hk2, e2⟩ := hwt2
                        have hO : va_at (dC, dI) vwCl (o, .inr (12, mM am zi2 (fupL (fupL zl 36 r_26) 37 r_31))) H := hO
                        rw [show zi2 = _ from e2] at hO
                        have hO : va_at (dC, dI) vwCl (o, .inr (12, mM am (fup (fup (fup (fup (fup (fup zi 1 0) 28 (zi 1)) 34 1) 35 1) 38 0) 39 (k1 + 1)) (fupL (fupL zl 36 r_26) 37 r_31))) H := hO
                        have hz2 : mZ X am zi2 := hz2
                        rw [show zi2 = _ from e2] at hz2
                        have hzA : zi 2 ≤ (X.2 (am 4) : Int) := hz2.2.2.2.2.2.2.2.2.2.2.2.2.2.1
                        have hzB : (k1 + 1) ≤ (X.2 (am 41) : Int) := hz2.2.2.2.2.2.2.2.2.2.2.2.2.2.2
                        have hM : mS X A o am := hM2
                        have hI : iv (dC, dI) ca A X H := hI
                        clear hM2 hz2 e2
                        obtain ⟨k_4, k_5, k_11, k_12, k_13, k_29, k_32, k_33, k_44⟩ := id hk2
                        have c_3 : va_at (dC, dI) vwCl (am 3, .inl (ca 21, 320, .inl (fc 3))) H := c_3
                        have c_4 : va_at (dC, dI) vwCl (am 4, .inl (ca 20, 40, .inl (fc 4))) H := c_4
                        have c_5 : va_at (dC, dI) vwCl (am 5, .inl (ca 20, 40, .inl (fc 5))) H := c_5
                        have c_10 : va_at (dC, dI) vwCl (am 10, .inl (ca 21, 240, .inl (fc 10))) H := c_10
                        have c_11 : va_at (dC, dI) vwCl (am 11, .inl (ca 20, 24, .inl (fc 11))) H := c_11
                        have c_12 : va_at (dC, dI) vwCl (am 12, .inl (ca 20, 24, .inl (fc 12))) H := c_12
                        have c_13 : va_at (dC, dI) vwCl (am 13, .inl (ca 20, 24, .inl (fc 13))) H := c_13
                        have c_17 : va_at (dC, dI) vwCl (am 17, .inl (ca 22, 36, .inl (fc 17))) H := c_17
                        have c_27 : va_at (dC, dI) vwCl (am 27, .inl (ca 21, 40, .inl (fc 27))) H := c_27
                        have c_29 : va_at (dC, dI) vwCl (am 29, .inl (ca 20, 1600, .inl (fc 29))) H := c_29
                        have c_30 : va_at (dC, dI) vwCl (am 30, .inl (ca 22, 6560, .inl gc_32)) H := c_30
                        have c_32 : va_at (dC, dI) vwCl (am 32, .inl (ca 20, 52480, .inl gb_33)) H := c_32
                        have c_33 : va_at (dC, dI) vwCl (am 33, .inl (ca 20, 6560, .inl gm_34)) H := c_33
                        have c_44 : va_at (dC, dI) vwCl (am 44, .inl (ca 20, 40, .inl gn)) H := c_44
                        have k_4 : ok20 X (am 4) 40 (0) (8) (fc 4) := k_4
                        have k_5 : ok20 X (am 5) 40 (0) (5) (fc 5) := k_5
                        have k_11 : ok20 X (am 11) 24 (0) (3) (fc 11) := k_11
                        have k_12 : ok20 X (am 12) 24 (0) (3) (fc 12) := k_12
                        have k_13 : ok20 X (am 13) 24 (0) (4) (fc 13) := k_13
                        have k_29 : ok20 X (am 29) 1600 (-2147483648) (2147483647) (fc 29) := k_29
                        have k_32 : ok20 X (am 32) 52480 (-2147483648) (2147483647) gb_33 := k_32
                        have k_33 : ok20 X (am 33) 6560 (0) (8) gm_34 := k_33
                        have k_44 : ok20 X (am 44) 40 (0) (8) gn := k_44
                        have g3 : X.1 (am 3) = (103, 21, 320, 0, 0) := hM.1 3 _ rfl (by decide)
                        have g4 : X.1 (am 4) = (104, 20, 40, 0, 8) := hM.1 4 _ rfl (by decide)
                        have g5 : X.1 (am 5) = (105, 20, 40, 0, 5) := hM.1 5 _ rfl (by decide)
                        have w5 : X.2 (am 5) = 0 := hM.2.2.2 5 _ rfl (by decide) (by decide) (by decide)
                        have g10 : X.1 (am 10) = (110, 21, 240, 0, 0) := hM.1 10 _ rfl (by decide)
                        have g11 : X.1 (am 11) = (111, 20, 24, 0, 3) := hM.1 11 _ rfl (by decide)
                        have w11 : X.2 (am 11) = 0 := hM.2.2.2 11 _ rfl (by decide) (by decide) (by decide)
                        have g12 : X.1 (am 12) = (112, 20, 24, 0, 3) := hM.1 12 _ rfl (by decide)
                        have w12 : X.2 (am 12) = 0 := hM.2.2.2 12 _ rfl (by decide) (by decide) (by decide)
                        have g13 : X.1 (am 13) = (113, 20, 24, 0, 4) := hM.1 13 _ rfl (by decide)
                        have w13 : X.2 (am 13) = 0 := hM.2.2.2 13 _ rfl (by decide) (by decide) (by decide)
                        have g17 : X.1 (am 17) = (117, 22, 36, 0, 0) := hM.1 17 _ rfl (by decide)
                        have g27 : X.1 (am 27) = (127, 21, 40, 0, 0) := hM.1 27 _ rfl (by decide)
                        have g29 : X.1 (am 29) = (129, 20, 1600, -2147483648, 2147483647) := hM.1 29 _ rfl (by decide)
                        have w29 : X.2 (am 29) = 0 := hM.2.2.2 29 _ rfl (by decide) (by decide) (by decide)
                        have g30 : X.1 (am 30) = (130, 22, 6560, 0, 0) := hM.1 30 _ rfl (by decide)
                        have g32 : X.1 (am 32) = (132, 20, 52480, -2147483648, 2147483647) := hM.1 32 _ rfl (by decide)
                        have w32 : X.2 (am 32) = 0 := hM.2.2.2 32 _ rfl (by decide) (by decide) (by decide)
                        have g33 : X.1 (am 33) = (133, 20, 6560, 0, 8) := hM.1 33 _ rfl (by decide)
                        have w33 : X.2 (am 33) = 0 := hM.2.2.2 33 _ rfl (by decide) (by decide) (by decide)
                        have g40 : X.1 (am 40) = (140, 20, 8, -2147483648, 2147483647) := hM.1 40 _ rfl (by decide)
                        have w40 : X.2 (am 40) = 0 := hM.2.2.2 40 _ rfl (by decide) (by decide) (by decide)
                        have g41 : X.1 (am 41) = (141, 20, 8, 0, 40) := hM.1 41 _ rfl (by decide)
                        have g42 : X.1 (am 42) = (142, 20, 320, 0, 39) := hM.1 42 _ rfl (by decide)
                        have w42 : X.2 (am 42) = 0 := hM.2.2.2 42 _ rfl (by decide) (by decide) (by decide)
                        have g43 : X.1 (am 43) = (143, 20, 320, -2147483648, 2147483647) := hM.1 43 _ rfl (by decide)
                        have w43 : X.2 (am 43) = 0 := hM.2.2.2 43 _ rfl (by decide) (by decide) (by decide)
                        have g44 : X.1 (am 44) = (144, 20, 40, 0, 8) := hM.1 44 _ rfl (by decide)
                        have w44 : X.2 (am 44) = 0 := hM.2.2.2 44 _ rfl (by decide) (by decide) (by decide)
                        have hb8 : ge1 gm_34 (pl le 0 0) ≤ 8 := (k_33 (pl le 0 0) ⟨by unfold pl; omega, by unfold pl; omega⟩).2.1
                        refine lv_aload_n hx hb dX12_part_431 rfl (lv_at hl 5 rfl) ?_
                        refine iz_get (D := (dC, dI)) (ci := 12) (v := .ref (am 44)) (C := RX12) (T := TX12) (N := 49) hx hb hts hin hown hK hO rfl 44 (by decide) hL108 (fun _ h9 => h9) rfl dX12_part_432 ?_
                        refine lv_iload hx hb dX12_part_435 (lv_at hl 2 rfl) ?_
                        refine lv_dup2_11 hx hb dX12_part_437 rfl rfl ?_
                        refine iz_iald hx hb hK 0 c_44 rfl (by omega) (by decide) dX12_part_438 ?_
                        obtain ⟨v_70a, v_70b, v_70c⟩ := k_44 le (by omega)
                        clear v_70c
                        obtain ⟨v_70, ev_70⟩ : ∃ z9 : Int, ge1 gn le = z9 := ⟨_, rfl⟩
                        rw [ev_70] at v_70a v_70b ⊢
                        refine lv_iconst (v := kz 1) hx hb dX12_part_439 rfl ?_
                        refine iz_iadd hx hb dX12_part_440 ?_
                        refine iz_iast hx hb hK 0 c_44 hS (iv_A hI g44 (by decide)) rfl (by omega) (by decide) dX12_part_441 (fun H locs c9 oq hS => ?_)
                        have hI := iv_s20 hI g44 k_44 c9 oq (by omega) (by omega) (by decide) (by omega)
                        have hO := hO.kept (oq _ (iv_ne0 g44 hM.2.1 (by decide)).symm)
                        have c_3 := c_3.kept (oq _ (iv_ne g3 g44 (by decide)))
                        have c_4 := c_4.kept (oq _ (iv_ne g4 g44 (by decide)))
                        have c_5 := c_5.kept (oq _ (iv_ne g5 g44 (by decide)))
                        have c_10 := c_10.kept (oq _ (iv_ne g10 g44 (by decide)))
                        have c_11 := c_11.kept (oq _ (iv_ne g11 g44 (by decide)))
                        have c_12 := c_12.kept (oq _ (iv_ne g12 g44 (by decide)))
                        have c_13 := c_13.kept (oq _ (iv_ne g13 g44 (by decide)))
                        have c_17 := c_17.kept (oq _ (iv_ne g17 g44 (by decide)))
                        have c_27 := c_27.kept (oq _ (iv_ne g27 g44 (by decide)))
                        have c_29 := c_29.kept (oq _ (iv_ne g29 g44 (by decide)))
                        have c_30 := c_30.kept (oq _ (iv_ne g30 g44 (by decide)))
                        have c_32 := c_32.kept (oq _ (iv_ne g32 g44 (by decide)))
                        have c_33 := c_33.kept (oq _ (iv_ne g33 g44 (by decide)))
                        have k_g_71 : ok20 X (am 44) 40 (0) (8) (upd gn (Int.toNat le) (kz (v_70 + 1))) := ok20_set k_44 (by omega) (by omega) (by decide) (by omega)
                        obtain ⟨g_71, eg_71⟩ : ∃ g9 : Nat → Int32, g9 = upd gn (Int.toNat le) (kz (v_70 + 1)) := ⟨_, rfl⟩
                        rw [← eg_71] at c9 k_g_71
                        clear oq
                        have c_44 := c9
                        clear c9
                        have ug_71 : ∀ w : Int, 0 ≤ w → ge1 g_71 w = if w = le then (v_70 + 1) else ge1 gn w := fun w hw => by rw [eg_71]; exact ge1_upd gn (by omega) hw (by omega) (by omega)
                        refine lv_iinc (v := kz (k1 + 1)) (lv' := [(4, .int (kz (k1 + 1))), (7, .int (kz f1)), (6, .int (kz of)), (5, .int (kz le)), (3, .int (kz 1)), (2, .int (kz (zi 1))), (0, .ref o), (1, .int (kz day))]) hx hb dX12_part_442 hl (k := 7) rfl (kz_add k1 1) (by decide) rfl (fun ls hl => ?_)
                        refine lv_goto (tgt := 296) hx hb dX12_part_445 (by decide) ?_
                        exact ihx (n_x - 1) (by omega) (X, g_71) (k1 + 1) _ _ _ ⟨by omega, by omega, by omega, by omega, by omega, hM, ⟨k_4, k_5, k_11, k_12, k_13, k_29, k_32, k_33, k_g_71⟩, (fun f9 h0 h1 => by rw [ug_71 f9 h0]; by_cases e9 : f9 = le; rw [if_pos e9, e9]; omega; rw [if_neg e9]; exact lxn f9 h0 h1), lv_sub hl [4, 5, 6, 7, 0] rfl, hI, hO, hS, c_3, c_4, c_5, c_10, c_11, c_12, c_13, c_17, c_27, c_29, c_30, c_32, c_33, c_44⟩
                      · refine lv_goto (tgt := 448) hx hb dX12_part_415 (by decide) ?_
                        refine lv_aload_n hx hb dX12_part_448 rfl (lv_at hl 5 rfl) ?_
                        refine iz_get (D := (dC, dI)) (ci := 12) (v := .long r_31) (C := RX12) (T := TX12) (N := 49) hx hb hts hin hown hK hO rfl 37 (by decide) hL234 (fun _ h9 => h9) rfl dX12_part_449 ?_
                        exact W.lret (v := r_31) hx hb hr (fun t9 ht hW => ⟨⟨r_31, (X, (fup (fup (fup (fup (fup (fup zi 1 0) 28 (zi 1)) 34 1) 35 1) 38 0) 39 k1), (fupL (fupL zl 36 r_26) 37 r_31)), rfl, ⟨hM, ⟨⟨by show (0 : Int) ≤ 0; omega, by show 0 ≤ (60 : Int); omega⟩, ⟨z2a, z2b⟩, ⟨z9a, z9b⟩, ⟨z20a, z20b⟩, ⟨z21a, z21b⟩, ⟨z22a, z22b⟩, ⟨z26a, z26b⟩, ⟨by show (0 : Int) ≤ zi 1; omega, by show zi 1 ≤ (40 : Int); omega⟩, ⟨by show (0 : Int) ≤ 1; omega, by show 1 ≤ (1 : Int); omega⟩, ⟨by show (0 : Int) ≤ 1; omega, by show 1 ≤ (1 : Int); omega⟩, ⟨by show (0 : Int) ≤ 0; omega, by show 0 ≤ (1 : Int); omega⟩, ⟨by show (0 : Int) ≤ k1; omega, by show k1 ≤ (8 : Int); omega⟩, ⟨z46a, z46b⟩, by show zi 2 ≤ (X.2 (am 4) : Int); omega, by show k1 ≤ (X.2 (am 41) : Int); omega⟩, rfl⟩, va_K.moved hW.alike hK, by rw [ht]; exact ⟨hI, hO⟩⟩, hS.F ht⟩) hS.2.2 dX12_part_452
                    · refine lv_iload hx hb dX12_part_322 (lv_at hl 0 rfl) ?_
                      refine lv_iconst (v := kz 0) hx hb dX12_part_324 rfl ?_
                      refine lv_iconst (v := kz 0) hx hb dX12_part_325 rfl ?_
                      refine vp_callSi (va_Run.run (va_runS (As := [.int (kz f1), .int (kz 0), .int (kz 0)]) (rest := []) ⟨hx, hb, hml, hown, hts⟩ (m_placeOf l f1 0 0) (va_cwS 3 hts gX12_part_X12_placeOf rfl rfl rfl (by decide +kernel) ⟨Nat.le_of_ble_eq_true rfl, Nat.le_of_ble_eq_true rfl⟩) ⟨fun a U g mk q => q, fun U hU hW => ⟨rfl, trivial⟩⟩ rfl rfl hl.1 rfl (lv_room (Nat.le_of_ble_eq_true rfl)) dX12_part_326 ⟨Nat.le_of_ble_eq_true rfl, Nat.le_of_ble_eq_true rfl⟩)) (fun r_73 hw_72 => ?_)
                      obtain ⟨z_74, rfl, z_74h⟩ := hw_72
                      refine lv_istore (lv' := [(8, .int (kz z_74)), (7, .int (kz f1)), (6, .int (kz of)), (5, .int (kz le)), (3, .int (kz 1)), (2, .int (kz (zi 1))), (0, .ref o), (1, .int (kz day)), (4, .int (kz k1))]) hx hb dX12_part_329 hl (by decide) rfl (fun ls hl => ?_)
                      refine lv_aload_n hx hb dX12_part_331 rfl (lv_at hl 6 rfl) ?_
                      refine iz_get (D := (dC, dI)) (ci := 12) (v := .ref (am 44)) (C := RX12) (T := TX12) (N := 49) hx hb hts hin hown hK hO rfl 44 (by decide) hL108 (fun _ h9 => h9) rfl dX12_part_332 ?_
                      refine lv_iload hx hb dX12_part_335 (lv_at hl 1 rfl) ?_
                      refine iz_iald hx hb hK 0 c_44 rfl (by omega) (by decide) dX12_part_337 ?_
                      obtain ⟨v_75a, v_75b, v_75c⟩ := k_44 f1 (by omega)
                      clear v_75c
                      obtain ⟨v_75, ev_75⟩ : ∃ z9 : Int, ge1 gn f1 = z9 := ⟨_, rfl⟩
                      rw [ev_75] at v_75a v_75b ⊢
                      refine lv_aload_n hx hb dX12_part_338 rfl (lv_at hl 6 rfl) ?_
                      refine iz_get (D := (dC, dI)) (ci := 12) (v := .ref (am 33)) (C := RX12) (T := TX12) (N := 49) hx hb hts hin hown hK hO rfl 33 (by decide) hL93 (fun _ h9 => h9) rfl dX12_part_339 ?_
                      refine lv_iload hx hb dX12_part_342 (lv_at hl 0 rfl) ?_
                      refine iz_iald hx hb hK 0 c_33 rfl (by omega) (by decide) dX12_part_344 ?_
                      obtain ⟨v_76a, v_76b, v_76c⟩ := k_33 z_74 (by omega)
                      clear v_76c
                      obtain ⟨v_76, ev_76⟩ : ∃ z9 : Int, ge1 gm_34 z_74 = z9 := ⟨_, rfl⟩
                      rw [ev_76] at v_76a v_76b ⊢
                      refine iz_eq (tgt := 404) hx hb dX12_part_345 (by decide) (by unfold rg2; omega) (fun br_77 => ?_) (fun br_77 => ?_)
                      · refine lv_iinc (v := kz (f1 + 1)) (lv' := [(7, .int (kz (f1 + 1))), (8, .int (kz z_74)), (6, .int (kz of)), (5, .int (kz le)), (3, .int (kz 1)), (2, .int (kz (zi 1))), (0, .ref o), (1, .int (kz day)), (4, .int (kz k1))]) hx hb dX12_part_404 hl (k := 1) rfl (kz_add f1 1) (by decide) rfl (fun ls hl => ?_)
                        refine lv_goto (tgt := 313) hx hb dX12_part_407 (by decide) ?_
                        exact ihn_66 (n_66 - 1) (by omega) () le of (f1 + 1) _ _ _ ⟨by omega, by omega, by omega, by omega, by omega, n_66f5, by omega, lv_sub hl [0, 2, 3, 4, 5, 6, 7, 8] rfl, hI, hO, hS, c_3, c_4, c_5, c_10, c_11, c_12, c_13, c_17, c_27, c_29, c_30, c_32, c_33, c_44⟩
                      · refine lv_aload_n hx hb dX12_part_348 rfl (lv_at hl 6 rfl) ?_
                        refine iz_get (D := (dC, dI)) (ci := 12) (v := .ref (am 32)) (C := RX12) (T := TX12) (N := 49) hx hb hts hin hown hK hO rfl 32 (by decide) hL90 (fun _ h9 => h9) rfl dX12_part_349 ?_
                        refine lv_bipush (v := kz 8) hx hb dX12_part_352 (by decide) ?_
                        refine lv_iload hx hb dX12_part_354 (lv_at hl 0 rfl) ?_
                        refine iz_imul hx hb dX12_part_356 ?_
                        refine lv_aload_n hx hb dX12_part_357 rfl (lv_at hl 6 rfl) ?_
                        refine iz_get (D := (dC, dI)) (ci := 12) (v := .ref (am 44)) (C := RX12) (T := TX12) (N := 49) hx hb hts hin hown hK hO rfl 44 (by decide) hL108 (fun _ h9 => h9) rfl dX12_part_358 ?_
                        refine lv_iload hx hb dX12_part_361 (lv_at hl 1 rfl) ?_
                        refine iz_iald hx hb hK 0 c_44 rfl (by omega) (by decide) dX12_part_363 ?_
                        rw [ev_75]
                        refine iz_iadd hx hb dX12_part_364 ?_
                        refine iz_iald hx hb hK 0 c_32 rfl (by omega) (by decide) dX12_part_365 ?_
                        obtain ⟨v_78a, v_78b, v_78c⟩ := k_32 ((8 * z_74) + v_75) (by omega)
                        clear v_78c
                        obtain ⟨v_78, ev_78⟩ : ∃ z9 : Int, ge1 gb_33 ((8 * z_74) + v_75) = z9 := ⟨_, rfl⟩
                        rw [ev_78] at v_78a v_78b ⊢
                        refine vp_callSi (va_Run.run (va_runS (As := [.int (kz v_78)]) (rest := []) ⟨hx, hb, hml, hown, hts⟩ (m_costOf l v_78) (va_cwS 1 hts gX12_part_X12_costOf rfl rfl rfl (by decide +kernel) ⟨Nat.le_of_ble_eq_true rfl, Nat.le_of_ble_eq_true rfl⟩) ⟨fun a U g mk q => q, fun U hU hW => ⟨rfl, trivial⟩⟩ rfl rfl hl.1 rfl (lv_room (Nat.le_of_ble_eq_true rfl)) dX12_part_366 ⟨Nat.le_of_ble_eq_true rfl, Nat.le_of_ble_eq_true rfl⟩)) (fun r_80 hw_79 => ?_)
                        obtain ⟨z_81, z_81a, z_81b, rfl⟩ := kz_ex r_80
                        refine lv_iload hx hb dX12_part_369 (lv_at hl 2 rfl) ?_
                        refine iz_lt (tgt := 377) hx hb dX12_part_371 (by decide) (by unfold rg2; omega) (fun br_82 => ?_) (fun br_82 => ?_)
                        · refine lv_aload_n hx hb dX12_part_377 rfl (lv_at hl 6 rfl) ?_
                          refine iz_get (D := (dC, dI)) (ci := 12) (v := .ref (am 32)) (C := RX12) (T := TX12) (N := 49) hx hb hts hin hown hK hO rfl 32 (by decide) hL90 (fun _ h9 => h9) rfl dX12_part_378 ?_
                          refine lv_bipush (v := kz 8) hx hb dX12_part_381 (by decide) ?_
                          refine lv_iload hx hb dX12_part_383 (lv_at hl 0 rfl) ?_
                          refine iz_imul hx hb dX12_part_385 ?_
                          refine lv_aload_n hx hb dX12_part_386 rfl (lv_at hl 6 rfl) ?_
                          refine iz_get (D := (dC, dI)) (ci := 12) (v := .ref (am 44)) (C := RX12) (T := TX12) (N := 49) hx hb hts hin hown hK hO rfl 44 (by decide) hL108 (fun _ h9 => h9) rfl dX12_part_387 ?_
                          refine lv_iload hx hb dX12_part_390 (lv_at hl 1 rfl) ?_
                          refine iz_iald hx hb hK 0 c_44 rfl (by omega) (by decide) dX12_part_392 ?_
                          rw [ev_75]
                          refine iz_iadd hx hb dX12_part_393 ?_
                          refine iz_iald hx hb hK 0 c_32 rfl (by omega) (by decide) dX12_part_394 ?_
                          rw [ev_78]
                          refine vp_callSi (va_Run.run (va_runS (As := [.int (kz v_78)]) (rest := []) ⟨hx, hb, hml, hown, hts⟩ (m_costOf l v_78) (va_cwS 1 hts gX12_part_X12_costOf rfl rfl rfl (by decide +kernel) ⟨Nat.le_of_ble_eq_true rfl, Nat.le_of_ble_eq_true rfl⟩) ⟨fun a U g mk q => q, fun U hU hW => ⟨rfl, trivial⟩⟩ rfl rfl hl.1 rfl (lv_room (Nat.le_of_ble_eq_true rfl)) dX12_part_395 ⟨Nat.le_of_ble_eq_true rfl, Nat.le_of_ble_eq_true rfl⟩)) (fun r_84 hw_83 => ?_)
                          obtain ⟨z_85, z_85a, z_85b, rfl⟩ := kz_ex r_84
                          refine lv_istore (lv' := [(6, .int (kz z_85)), (8, .int (kz z_74)), (7, .int (kz f1)), (5, .int (kz le)), (3, .int (kz 1)), (2, .int (kz (zi 1))), (0, .ref o), (1, .int (kz day)), (4, .int (kz k1))]) hx hb dX12_part_398 hl (by decide) rfl (fun ls hl => ?_)
                          refine lv_iload hx hb dX12_part_400 (lv_at hl 2 rfl) ?_
                          refine lv_istore (lv' := [(5, .int (kz f1)), (6, .int (kz z_85)), (8, .int (kz z_74)), (7, .int (kz f1)), (3, .int (kz 1)), (2, .int (kz (zi 1))), (0, .ref o), (1, .int (kz day)), (4, .int (kz k1))]) hx hb dX12_part_402 hl (by decide) rfl (fun ls hl => ?_)
                          refine lv_iinc (v := kz (f1 + 1)) (lv' := [(7, .int (kz (f1 + 1))), (5, .int (kz f1)), (6, .int (kz z_85)), (8, .int (kz z_74)), (3, .int (kz 1)), (2, .int (kz (zi 1))), (0, .ref o), (1, .int (kz day)), (4, .int (kz k1))]) hx hb dX12_part_404 hl (k := 3) rfl (kz_add f1 1) (by decide) rfl (fun ls hl => ?_)
                          refine lv_goto (tgt := 313) hx hb dX12_part_407 (by decide) ?_
                          exact ihn_66 (n_66 - 1) (by omega) () f1 z_85 (f1 + 1) _ _ _ ⟨by omega, by omega, by omega, by omega, by omega, (fun _ => by rw [show pl f1 0 0 = z_74 from z_74h.symm, ev_75, ev_76]; have q8 := lxn f1 (by omega) (by omega); rw [show pl f1 0 0 = z_74 from z_74h.symm, ev_75, ev_76] at q8; omega), by omega, lv_sub hl [0, 2, 1, 4, 5, 6, 7, 8] rfl, hI, hO, hS, c_3, c_4, c_5, c_10, c_11, c_12, c_13, c_17, c_27, c_29, c_30, c_32, c_33, c_44⟩
                        · refine lv_goto (tgt := 404) hx hb dX12_part_374 (by decide) ?_
                          refine lv_iinc (v := kz (f1 + 1)) (lv' := [(7, .int (kz (f1 + 1))), (8, .int (kz z_74)), (6, .int (kz of)), (5, .int (kz le)), (3, .int (kz 1)), (2, .int (kz (zi 1))), (0, .ref o), (1, .int (kz day)), (4, .int (kz k1))]) hx hb dX12_part_404 hl (k := 1) rfl (kz_add f1 1) (by decide) rfl (fun ls hl => ?_)
                          refine lv_goto (tgt := 313) hx hb dX12_part_407 (by decide) ?_
                          exact ihn_66 (n_66 - 1) (by omega) () le of (f1 + 1) _ _ _ ⟨by omega, by omega, by omega, by omega, by omega, n_66f5, by omega, lv_sub hl [0, 2, 3, 4, 5, 6, 7, 8] rfl, hI, hO, hS, c_3, c_4, c_5, c_10, c_11, c_12, c_13, c_17, c_27, c_29, c_30, c_32, c_33, c_44⟩
                · refine lv_aload_n hx hb dX12_part_279 rfl (lv_at hl 3 rfl) ?_
                  refine iz_get (D := (dC, dI)) (ci := 12) (v := .ref (am 44)) (C := RX12) (T := TX12) (N := 49) hx hb hts hin hown hK hO rfl 44 (by decide) hL108 (fun _ h9 => h9) rfl dX12_part_280 ?_
                  refine lv_iload hx hb dX12_part_283 (lv_at hl 0 rfl) ?_
                  refine lv_iconst (v := kz 0) hx hb dX12_part_285 rfl ?_
                  refine iz_iast hx hb hK 0 c_44 hS (iv_A hI g44 (by decide)) rfl (by omega) (by decide) dX12_part_286 (fun H locs c9 oq hS => ?_)
                  have hI := iv_s20 hI g44 k_gn c9 oq (by omega) (by omega) (by decide) (by omega)
                  have hO := hO.kept (oq _ (iv_ne0 g44 hM.2.1 (by decide)).symm)
                  have c_3 := c_3.kept (oq _ (iv_ne g3 g44 (by decide)))
                  have c_4 := c_4.kept (oq _ (iv_ne g4 g44 (by decide)))
                  have c_5 := c_5.kept (oq _ (iv_ne g5 g44 (by decide)))
                  have c_10 := c_10.kept (oq _ (iv_ne g10 g44 (by decide)))
                  have c_11 := c_11.kept (oq _ (iv_ne g11 g44 (by decide)))
                  have c_12 := c_12.kept (oq _ (iv_ne g12 g44 (by decide)))
                  have c_13 := c_13.kept (oq _ (iv_ne g13 g44 (by decide)))
                  have c_17 := c_17.kept (oq _ (iv_ne g17 g44 (by decide)))
                  have c_27 := c_27.kept (oq _ (iv_ne g27 g44 (by decide)))
                  have c_29 := c_29.kept (oq _ (iv_ne g29 g44 (by decide)))
                  have c_30 := c_30.kept (oq _ (iv_ne g30 g44 (by decide)))
                  have c_32 := c_32.kept (oq _ (iv_ne g32 g44 (by decide)))
                  have c_33 := c_33.kept (oq _ (iv_ne g33 g44 (by decide)))
                  have k_g_86 : ok20 X (am 44) 40 (0) (8) (upd gn (Int.toNat f1) (kz 0)) := ok20_set k_gn (by omega) (by omega) (by decide) (by omega)
                  obtain ⟨g_86, eg_86⟩ : ∃ g9 : Nat → Int32, g9 = upd gn (Int.toNat f1) (kz 0) := ⟨_, rfl⟩
                  rw [← eg_86] at c9 k_g_86
                  clear oq
                  have c_44 := c9
                  clear c9
                  have ug_86 : ∀ w : Int, 0 ≤ w → ge1 g_86 w = if w = f1 then 0 else ge1 gn w := fun w hw => by rw [eg_86]; exact ge1_upd gn (by omega) hw (by omega) (by omega)
                  refine lv_iinc (v := kz (f1 + 1)) (lv' := [(4, .int (kz (f1 + 1))), (3, .int (kz 1)), (2, .int (kz (zi 1))), (0, .ref o), (1, .int (kz day))]) hx hb dX12_part_287 hl (k := 0) rfl (kz_add f1 1) (by decide) rfl (fun ls hl => ?_)
                  refine lv_goto (tgt := 270) hx hb dX12_part_290 (by decide) ?_
                  exact ihn_63 (n_63 - 1) (by omega) g_86 (f1 + 1) _ _ _ ⟨by omega, by omega, (fun f9 h0 h1 => by rw [ug_86 f9 h0]; by_cases e9 : f9 = f1; rw [if_pos e9]; rw [if_neg e9]; exact n_63f2 f9 h0 (by omega)), by omega, lv_sub hl [0, 1, 2, 3, 4] rfl, hI, hO, hS, c_3, c_4, c_5, c_10, c_11, c_12, c_13, c_17, c_27, c_29, c_30, c_32, c_33, c_44, k_g_86⟩
              · refine lv_iconst (v := kz 1) hx hb dX12_part_234 rfl ?_
                refine lv_goto (tgt := 239) hx hb dX12_part_235 (by decide) ?_
                refine iz_put (D := (dC, dI)) (ci := 12) (v := .int (kz 1)) (ty := .boolean) (C := RX12) (T := TX12) (N := 49) hx hb hts hin tyX12 tyX12_ok nmX12 hown hK hO hS hM.2.2.1 rfl 38 (by decide) hL237 (fun _ h9 => h9) rfl (by decide +kernel) (by decide) rfl (Nat.le_of_ble_eq_true rfl) dX12_part_239 (fun H locs hO oq hS => ?_)
                rw [mM_38] at hO
                have hI := iv_skip hI hM.2.1 oq
                have c_3 := c_3.kept (oq _ (iv_ne0 g3 hM.2.1 (by decide)))
                have c_4 := c_4.kept (oq _ (iv_ne0 g4 hM.2.1 (by decide)))
                have c_5 := c_5.kept (oq _ (iv_ne0 g5 hM.2.1 (by decide)))
                have c_10 := c_10.kept (oq _ (iv_ne0 g10 hM.2.1 (by decide)))
                have c_11 := c_11.kept (oq _ (iv_ne0 g11 hM.2.1 (by decide)))
                have c_12 := c_12.kept (oq _ (iv_ne0 g12 hM.2.1 (by decide)))
                have c_13 := c_13.kept (oq _ (iv_ne0 g13 hM.2.1 (by decide)))
                have c_17 := c_17.kept (oq _ (iv_ne0 g17 hM.2.1 (by decide)))
                have c_27 := c_27.kept (oq _ (iv_ne0 g27 hM.2.1 (by decide)))
                have c_29 := c_29.kept (oq _ (iv_ne0 g29 hM.2.1 (by decide)))
                have c_30 := c_30.kept (oq _ (iv_ne0 g30 hM.2.1 (by decide)))
                have c_32 := c_32.kept (oq _ (iv_ne0 g32 hM.2.1 (by decide)))
                have c_33 := c_33.kept (oq _ (iv_ne0 g33 hM.2.1 (by decide)))
                have c_44 := c_44.kept (oq _ (iv_ne0 g44 hM.2.1 (by decide)))
                have hO : va_at (dC, dI) vwCl (o, .inr (12, mM am (fup (fup (fup (fup (fup zi 1 0) 28 (zi 1)) 34 1) 35 1) 38 1) (fupL (fupL zl 36 r_26) 37 r_31))) H := hO
                clear oq
                refine lv_aload_n hx hb dX12_part_242 rfl (lv_at hl 3 rfl) ?_
                refine iz_get (D := (dC, dI)) (ci := 12) (v := .int (kz 1)) (C := RX12) (T := TX12) (N := 49) hx hb hts hin hown hK hO rfl 38 (by decide) hL237 (fun _ h9 => h9) rfl dX12_part_243 ?_
                refine iz_eqz (tgt := 262) hx hb dX12_part_246 (by decide) (by unfold rg2; omega) (fun q9 => absurd q9 (by decide)) (fun _ => ?_)
                refine lv_aload_n hx hb dX12_part_249 rfl (lv_at hl 3 rfl) ?_
                refine lv_iconst (v := kz 0) hx hb dX12_part_250 rfl ?_
                refine iz_put (D := (dC, dI)) (ci := 12) (v := .int (kz 0)) (ty := .boolean) (C := RX12) (T := TX12) (N := 49) hx hb hts hin tyX12 tyX12_ok nmX12 hown hK hO hS hM.2.2.1 rfl 34 (by decide) hL182 (fun _ h9 => h9) rfl (by decide +kernel) (by decide) rfl (Nat.le_of_ble_eq_true rfl) dX12_part_251 (fun H locs hO oq hS => ?_)
                rw [mM_34] at hO
                have hI := iv_skip hI hM.2.1 oq
                have c_3 := c_3.kept (oq _ (iv_ne0 g3 hM.2.1 (by decide)))
                have c_4 := c_4.kept (oq _ (iv_ne0 g4 hM.2.1 (by decide)))
                have c_5 := c_5.kept (oq _ (iv_ne0 g5 hM.2.1 (by decide)))
                have c_10 := c_10.kept (oq _ (iv_ne0 g10 hM.2.1 (by decide)))
                have c_11 := c_11.kept (oq _ (iv_ne0 g11 hM.2.1 (by decide)))
                have c_12 := c_12.kept (oq _ (iv_ne0 g12 hM.2.1 (by decide)))
                have c_13 := c_13.kept (oq _ (iv_ne0 g13 hM.2.1 (by decide)))
                have c_17 := c_17.kept (oq _ (iv_ne0 g17 hM.2.1 (by decide)))
                have c_27 := c_27.kept (oq _ (iv_ne0 g27 hM.2.1 (by decide)))
                have c_29 := c_29.kept (oq _ (iv_ne0 g29 hM.2.1 (by decide)))
                have c_30 := c_30.kept (oq _ (iv_ne0 g30 hM.2.1 (by decide)))
                have c_32 := c_32.kept (oq _ (iv_ne0 g32 hM.2.1 (by decide)))
                have c_33 := c_33.kept (oq _ (iv_ne0 g33 hM.2.1 (by decide)))
                have c_44 := c_44.kept (oq _ (iv_ne0 g44 hM.2.1 (by decide)))
                have hO : va_at (dC, dI) vwCl (o, .inr (12, mM am (fup (fup (fup (fup (fup zi 1 0) 28 (zi 1)) 34 0) 35 1) 38 1) (fupL (fupL zl 36 r_26) 37 r_31))) H := hO
                clear oq
                refine lv_aload_n hx hb dX12_part_254 rfl (lv_at hl 3 rfl) ?_
                refine lv_aload_n hx hb dX12_part_255 rfl (lv_at hl 3 rfl) ?_
                refine va_calll (va_runV (As := []) (rest := [.ref o]) ⟨hx, hb, hml, hown, hts⟩ (m_partings l dC dI ca A X o am (fup (fup (fup (fup (fup zi 1 0) 28 (zi 1)) 34 0) 35 1) 38 1) (fupL (fupL zl 36 r_26) 37 r_31) (cup (cup (cup fc 30 gc_32) 32 gb_33) 33 gm_34) hM ⟨⟨by show (0 : Int) ≤ 0; omega, by show 0 ≤ (60 : Int); omega⟩, ⟨z2a, z2b⟩, ⟨z9a, z9b⟩, ⟨z20a, z20b⟩, ⟨z21a, z21b⟩, ⟨z22a, z22b⟩, ⟨z26a, z26b⟩, ⟨by show (0 : Int) ≤ zi 1; omega, by show zi 1 ≤ (40 : Int); omega⟩, ⟨by show (0 : Int) ≤ 0; omega, by show 0 ≤ (1 : Int); omega⟩, ⟨by show (0 : Int) ≤ 1; omega, by show 1 ≤ (1 : Int); omega⟩, ⟨by show (0 : Int) ≤ 1; omega, by show 1 ≤ (1 : Int); omega⟩, ⟨z39a, z39b⟩, ⟨z46a, z46b⟩, by show zi 2 ≤ (X.2 (am 4) : Int); omega, by show zi 39 ≤ (X.2 (am 41) : Int); omega⟩ ⟨k_4, k_5, k_11, k_12, k_13, k_29, k_gb_33, k_gm_34, k_44⟩) (cwV 0 hts gX12_part_X12_partings rfl rfl rfl (by decide +kernel) ⟨Nat.le_of_ble_eq_true rfl, Nat.le_of_ble_eq_true rfl⟩) ⟨fun a U g mk q => by obtain ⟨q0, qK, qI⟩ := q; exact ⟨q0, va_K.moved (u := U) (U := U.calling g mk a) (Vm.Alike.refl U.vm) qK, qI⟩, va_recv hK (at_P hO) (ci := 12) (q0 := 0) rfl rfl, fun U hU hW => ⟨rfl, va_K.moved hW.alike hK, by rw [hU]; exact ⟨⟨hI, hO⟩, c_3, c_4, c_5, c_10, c_11, c_12, c_13, c_17, c_27, c_29, c_30, c_32, c_33, c_44⟩⟩⟩ rfl rfl hl.1 rfl (lv_room (Nat.le_of_ble_eq_true rfl)) dX12_part_256 ⟨Nat.le_of_ble_eq_true rfl, Nat.le_of_ble_eq_true rfl⟩) hS (fun q _ h => h) (fun q h => h) (fun r_88 u t9 H locs ht hvm hw_87 hB hz1 hk1 hS => ?_)
                obtain ⟨-, ⟨hI, hO⟩, c_3, c_4, c_5, c_10, c_11, c_12, c_13, c_17, c_27, c_29, c_30, c_32, c_33, c_44⟩ := hB
                rw [ht] at hI hO c_3 c_4 c_5 c_10 c_11 c_12 c_13 c_17 c_27 c_29 c_30 c_32 c_33 c_44
                clear ht hvm hz1 hk1
                obtain ⟨gc_89, gb_90, gm_91, rfl, k_gb_90, k_gm_91, rc_gc_89, en_gc_89⟩ := hw_87
                have rc_gc_89 : rc fc (zi 1) 0 (zi 2) (zi 9) gc_89 := rc_gc_89
                have en_gc_89 : ∀ f9 b9 t9 : Int, (0 ≤ f9 ∧ f9 < zi 2) → (0 ≤ b9 ∧ b9 ≤ 3) → (0 ≤ t9 ∧ t9 ≤ zi 1) → ¬ ge1 gc_89 (pl f9 b9 t9) = 0 → ∀ w9 : Int, 0 ≤ w9 → w9 < ge1 gm_91 (pl f9 b9 t9) → ev1 (cup fc 33 gm_91) (zi 1) 0 (zi 2) (zi 9) f9 b9 t9 (ge1 gb_90 (8 * pl f9 b9 t9 + w9)) := en_gc_89
                have c_3 : va_at (dC, dI) vwCl (am 3, .inl (ca 21, 320, .inl (fc 3))) H := c_3
                have c_4 : va_at (dC, dI) vwCl (am 4, .inl (ca 20, 40, .inl (fc 4))) H := c_4
                have c_5 : va_at (dC, dI) vwCl (am 5, .inl (ca 20, 40, .inl (fc 5))) H := c_5
                have c_10 : va_at (dC, dI) vwCl (am 10, .inl (ca 21, 240, .inl (fc 10))) H := c_10
                have c_11 : va_at (dC, dI) vwCl (am 11, .inl (ca 20, 24, .inl (fc 11))) H := c_11
                have c_12 : va_at (dC, dI) vwCl (am 12, .inl (ca 20, 24, .inl (fc 12))) H := c_12
                have c_13 : va_at (dC, dI) vwCl (am 13, .inl (ca 20, 24, .inl (fc 13))) H := c_13
                have c_17 : va_at (dC, dI) vwCl (am 17, .inl (ca 22, 36, .inl (fc 17))) H := c_17
                have c_27 : va_at (dC, dI) vwCl (am 27, .inl (ca 21, 40, .inl (fc 27))) H := c_27
                have c_29 : va_at (dC, dI) vwCl (am 29, .inl (ca 20, 1600, .inl (fc 29))) H := c_29
                have c_30 : va_at (dC, dI) vwCl (am 30, .inl (ca 22, 6560, .inl gc_89)) H := c_30
                have c_32 : va_at (dC, dI) vwCl (am 32, .inl (ca 20, 52480, .inl gb_90)) H := c_32
                have c_33 : va_at (dC, dI) vwCl (am 33, .inl (ca 20, 6560, .inl gm_91)) H := c_33
                have c_44 : va_at (dC, dI) vwCl (am 44, .inl (ca 20, 40, .inl (fc 44))) H := c_44
                refine iz_put (D := (dC, dI)) (ci := 12) (v := .long r_88) (ty := .long) (C := RX12) (T := TX12) (N := 49) hx hb hts hin tyX12 tyX12_ok nmX12 hown hK hO hS hM.2.2.1 rfl 37 (by decide) hL234 (fun _ h9 => h9) rfl (by decide +kernel) rfl rfl (Nat.le_of_ble_eq_true rfl) dX12_part_259 (fun H locs hO oq hS => ?_)
                rw [mM_37] at hO
                have hI := iv_skip hI hM.2.1 oq
                have c_3 := c_3.kept (oq _ (iv_ne0 g3 hM.2.1 (by decide)))
                have c_4 := c_4.kept (oq _ (iv_ne0 g4 hM.2.1 (by decide)))
                have c_5 := c_5.kept (oq _ (iv_ne0 g5 hM.2.1 (by decide)))
                have c_10 := c_10.kept (oq _ (iv_ne0 g10 hM.2.1 (by decide)))
                have c_11 := c_11.kept (oq _ (iv_ne0 g11 hM.2.1 (by decide)))
                have c_12 := c_12.kept (oq _ (iv_ne0 g12 hM.2.1 (by decide)))
                have c_13 := c_13.kept (oq _ (iv_ne0 g13 hM.2.1 (by decide)))
                have c_17 := c_17.kept (oq _ (iv_ne0 g17 hM.2.1 (by decide)))
                have c_27 := c_27.kept (oq _ (iv_ne0 g27 hM.2.1 (by decide)))
                have c_29 := c_29.kept (oq _ (iv_ne0 g29 hM.2.1 (by decide)))
                have c_30 := c_30.kept (oq _ (iv_ne0 g30 hM.2.1 (by decide)))
                have c_32 := c_32.kept (oq _ (iv_ne0 g32 hM.2.1 (by decide)))
                have c_33 := c_33.kept (oq _ (iv_ne0 g33 hM.2.1 (by decide)))
                have c_44 := c_44.kept (oq _ (iv_ne0 g44 hM.2.1 (by decide)))
                have hO : va_at (dC, dI) vwCl (o, .inr (12, mM am (fup (fup (fup (fup (fup zi 1 0) 28 (zi 1)) 34 0) 35 1) 38 1) (fupL (fupL zl 36 r_26) 37 r_88))) H := hO
                clear oq
                refine lv_aload_n hx hb dX12_part_262 rfl (lv_at hl 3 rfl) ?_
                refine lv_iconst (v := kz 0) hx hb dX12_part_263 rfl ?_
                refine iz_put (D := (dC, dI)) (ci := 12) (v := .int (kz 0)) (ty := .int) (C := RX12) (T := TX12) (N := 49) hx hb hts hin tyX12 tyX12_ok nmX12 hown hK hO hS hM.2.2.1 rfl 39 (by decide) hL218 (fun _ h9 => h9) rfl (by decide +kernel) rfl rfl (Nat.le_of_ble_eq_true rfl) dX12_part_264 (fun H locs hO oq hS => ?_)
                rw [mM_39] at hO
                have hI := iv_skip hI hM.2.1 oq
                have c_3 := c_3.kept (oq _ (iv_ne0 g3 hM.2.1 (by decide)))
                have c_4 := c_4.kept (oq _ (iv_ne0 g4 hM.2.1 (by decide)))
                have c_5 := c_5.kept (oq _ (iv_ne0 g5 hM.2.1 (by decide)))
                have c_10 := c_10.kept (oq _ (iv_ne0 g10 hM.2.1 (by decide)))
                have c_11 := c_11.kept (oq _ (iv_ne0 g11 hM.2.1 (by decide)))
                have c_12 := c_12.kept (oq _ (iv_ne0 g12 hM.2.1 (by decide)))
                have c_13 := c_13.kept (oq _ (iv_ne0 g13 hM.2.1 (by decide)))
                have c_17 := c_17.kept (oq _ (iv_ne0 g17 hM.2.1 (by decide)))
                have c_27 := c_27.kept (oq _ (iv_ne0 g27 hM.2.1 (by decide)))
                have c_29 := c_29.kept (oq _ (iv_ne0 g29 hM.2.1 (by decide)))
                have c_30 := c_30.kept (oq _ (iv_ne0 g30 hM.2.1 (by decide)))
                have c_32 := c_32.kept (oq _ (iv_ne0 g32 hM.2.1 (by decide)))
                have c_33 := c_33.kept (oq _ (iv_ne0 g33 hM.2.1 (by decide)))
                have c_44 := c_44.kept (oq _ (iv_ne0 g44 hM.2.1 (by decide)))
                have hO : va_at (dC, dI) vwCl (o, .inr (12, mM am (fup (fup (fup (fup (fup (fup zi 1 0) 28 (zi 1)) 34 0) 35 1) 38 1) 39 0) (fupL (fupL zl 36 r_26) 37 r_88))) H := hO
                clear oq
                refine lv_iconst (v := kz 0) hx hb dX12_part_267 rfl ?_
                refine lv_istore (lv' := [(4, .int (kz 0)), (3, .int (kz 1)), (2, .int (kz (zi 1))), (0, .ref o), (1, .int (kz day))]) hx hb dX12_part_268 hl (by decide) rfl (fun ls hl => ?_)
                refine iz_loopA1 (α := (Nat → Int32)) (P := fun N9 gn f1 H locs ls => (0 ≤ f1) ∧ (f1 ≤ 40) ∧ (∀ f9 : Int, 0 ≤ f9 → f9 < f1 → ge1 gn f9 = 0) ∧ 40 - f1 ≤ (N9 : Int) ∧ lv_has ls 9 [(4, .int (kz f1)), (3, .int (kz 1)), (2, .int (kz (zi 1))), (0, .ref o), (1, .int (kz day))] ∧ iv (dC, dI) ca A X H ∧ va_at (dC, dI) vwCl (o, .inr (12, mM am (fup (fup (fup (fup (fup (fup zi 1 0) 28 (zi 1)) 34 0) 35 1) 38 1) 39 0) (fupL (fupL zl 36 r_26) 37 r_88))) H ∧ va_S A s.heap H locs ∧ va_at (dC, dI) vwCl (am 3, .inl (ca 21, 320, .inl (fc 3))) H ∧ va_at (dC, dI) vwCl (am 4, .inl (ca 20, 40, .inl (fc 4))) H ∧ va_at (dC, dI) vwCl (am 5, .inl (ca 20, 40, .inl (fc 5))) H ∧ va_at (dC, dI) vwCl (am 10, .inl (ca 21, 240, .inl (fc 10))) H ∧ va_at (dC, dI) vwCl (am 11, .inl (ca 20, 24, .inl (fc 11))) H ∧ va_at (dC, dI) vwCl (am 12, .inl (ca 20, 24, .inl (fc 12))) H ∧ va_at (dC, dI) vwCl (am 13, .inl (ca 20, 24, .inl (fc 13))) H ∧ va_at (dC, dI) vwCl (am 17, .inl (ca 22, 36, .inl (fc 17))) H ∧ va_at (dC, dI) vwCl (am 27, .inl (ca 21, 40, .inl (fc 27))) H ∧ va_at (dC, dI) vwCl (am 29, .inl (ca 20, 1600, .inl (fc 29))) H ∧ va_at (dC, dI) vwCl (am 30, .inl (ca 22, 6560, .inl gc_89)) H ∧ va_at (dC, dI) vwCl (am 32, .inl (ca 20, 52480, .inl gb_90)) H ∧ va_at (dC, dI) vwCl (am 33, .inl (ca 20, 6560, .inl gm_91)) H ∧ va_at (dC, dI) vwCl (am 44, .inl (ca 20, 40, .inl gn)) H ∧ ok20 X (am 44) 40 (0) (8) gn) 100000 (fc 44) (x0 := 0) ?_ ⟨by omega, by omega, (fun f9 h0 h1 => absurd h0 (by omega)), by omega, lv_sub hl [0, 1, 2, 3, 4] rfl, hI, hO, hS, c_3, c_4, c_5, c_10, c_11, c_12, c_13, c_17, c_27, c_29, c_30, c_32, c_33, c_44, k_44⟩
                intro n_92 gn f1 H locs ls ⟨n_92f0, n_92f1, n_92f2, n_92f3, hl, hI, hO, hS, c_3, c_4, c_5, c_10, c_11, c_12, c_13, c_17, c_27, c_29, c_30, c_32, c_33, c_44, k_gn⟩ ihn_92
                refine lv_iload hx hb dX12_part_270 (lv_at hl 0 rfl) ?_
                refine lv_aload_n hx hb dX12_part_272 rfl (lv_at hl 3 rfl) ?_
                refine iz_get (D := (dC, dI)) (ci := 12) (v := .int (kz (zi 2))) (C := RX12) (T := TX12) (N := 49) hx hb hts hin hown hK hO rfl 2 (by decide) hL131 (fun _ h9 => h9) rfl dX12_part_273 ?_
                refine iz_ge (tgt := 293) hx hb dX12_part_276 (by decide) (by unfold rg2; omega) (fun br_93 => ?_) (fun br_93 => ?_)
                · refine lv_iconst (v := kz 0) hx hb dX12_part_293 rfl ?_
                  refine lv_istore (lv' := [(4, .int (kz 0)), (3, .int (kz 1)), (2, .int (kz (zi 1))), (0, .ref o), (1, .int (kz day))]) hx hb dX12_part_294 hl (by decide) rfl (fun ls hl => ?_)
                  refine iz_loopA1 (α := kGh × (Nat → Int32)) (P := fun N9 (fn9 : kGh × (Nat → Int32)) k1 H locs ls => (0 ≤ k1) ∧ (k1 ≤ 8) ∧ (zi 2 ≤ (fn9.1.2 (am 4) : Int)) ∧ (k1 ≤ (fn9.1.2 (am 41) : Int)) ∧ ((8 - k1) ≤ (N9 : Int)) ∧ mS fn9.1 A o am ∧ frk fn9.1 am (cup (cup (cup (cup fc 30 gc_89) 32 gb_90) 33 gm_91) 44 fn9.2) ∧ (∀ f9 : Int, 0 ≤ f9 → f9 < zi 2 → ge1 fn9.2 f9 ≤ ge1 gm_91 (pl f9 0 0)) ∧ lv_has ls 9 [(3, .int (kz 1)), (2, .int (kz (zi 1))), (0, .ref o), (1, .int (kz day)), (4, .int (kz k1))] ∧ iv (dC, dI) ca A fn9.1 H ∧ va_at (dC, dI) vwCl (o, .inr (12, mM am (fup (fup (fup (fup (fup (fup zi 1 0) 28 (zi 1)) 34 0) 35 1) 38 1) 39 k1) (fupL (fupL zl 36 r_26) 37 r_88))) H ∧ va_S A s.heap H locs ∧ va_at (dC, dI) vwCl (am 3, .inl (ca 21, 320, .inl (fc 3))) H ∧ va_at (dC, dI) vwCl (am 4, .inl (ca 20, 40, .inl (fc 4))) H ∧ va_at (dC, dI) vwCl (am 5, .inl (ca 20, 40, .inl (fc 5))) H ∧ va_at (dC, dI) vwCl (am 10, .inl (ca 21, 240, .inl (fc 10))) H ∧ va_at (dC, dI) vwCl (am 11, .inl (ca 20, 24, .inl (fc 11))) H ∧ va_at (dC, dI) vwCl (am 12, .inl (ca 20, 24, .inl (fc 12))) H ∧ va_at (dC, dI) vwCl (am 13, .inl (ca 20, 24, .inl (fc 13))) H ∧ va_at (dC, dI) vwCl (am 17, .inl (ca 22, 36, .inl (fc 17))) H ∧ va_at (dC, dI) vwCl (am 27, .inl (ca 21, 40, .inl (fc 27))) H ∧ va_at (dC, dI) vwCl (am 29, .inl (ca 20, 1600, .inl (fc 29))) H ∧ va_at (dC, dI) vwCl (am 30, .inl (ca 22, 6560, .inl gc_89)) H ∧ va_at (dC, dI) vwCl (am 32, .inl (ca 20, 52480, .inl gb_90)) H ∧ va_at (dC, dI) vwCl (am 33, .inl (ca 20, 6560, .inl gm_91)) H ∧ va_at (dC, dI) vwCl (am 44, .inl (ca 20, 40, .inl fn9.2)) H) 100000 (X, gn) (x0 := 0) ?_ ⟨by omega, by omega, by omega, by omega, by omega, hM, ⟨k_4, k_5, k_11, k_12, k_13, k_29, k_gb_90, k_gm_91, k_gn⟩, (fun f9 h0 h1 => by rw [n_92f2 f9 h0 (by omega)]; exact (k_gm_91 (pl f9 0 0) ⟨by unfold pl; omega, by unfold pl; omega⟩).1), lv_sub hl [1, 2, 3, 4, 0] rfl, hI, hO, hS, c_3, c_4, c_5, c_10, c_11, c_12, c_13, c_17, c_27, c_29, c_30, c_32, c_33, c_44⟩
                  intro n_x ⟨X, gn⟩ k1 H locs ls ⟨lx0, lx1, hzA, hzB, lxm, hM, hk, lxn, hl, hI, hO, hS, c_3, c_4, c_5, c_10, c_11, c_12, c_13, c_17, c_27, c_29, c_30, c_32, c_33, c_44⟩ ihx
                  have hM : mS X A o am := hM
                  have hI : iv (dC, dI) ca A X H := hI
                  have hzA : zi 2 ≤ (X.2 (am 4) : Int) := hzA
                  have hzB : k1 ≤ (X.2 (am 41) : Int) := hzB
                  have lxn : ∀ f9 : Int, 0 ≤ f9 → f9 < zi 2 → ge1 gn f9 ≤ ge1 gm_91 (pl f9 0 0) := lxn
                  have g3 : X.1 (am 3) = (103, 21, 320, 0, 0) := hM.1 3 _ rfl (by decide)
                  have g4 : X.1 (am 4) = (104, 20, 40, 0, 8) := hM.1 4 _ rfl (by decide)
                  have g5 : X.1 (am 5) = (105, 20, 40, 0, 5) := hM.1 5 _ rfl (by decide)
                  have w5 : X.2 (am 5) = 0 := hM.2.2.2 5 _ rfl (by decide) (by decide) (by decide)
                  have g10 : X.1 (am 10) = (110, 21, 240, 0, 0) := hM.1 10 _ rfl (by decide)
                  have g11 : X.1 (am 11) = (111, 20, 24, 0, 3) := hM.1 11 _ rfl (by decide)
                  have w11 : X.2 (am 11) = 0 := hM.2.2.2 11 _ rfl (by decide) (by decide) (by decide)
                  have g12 : X.1 (am 12) = (112, 20, 24, 0, 3) := hM.1 12 _ rfl (by decide)
                  have w12 : X.2 (am 12) = 0 := hM.2.2.2 12 _ rfl (by decide) (by decide) (by decide)
                  have g13 : X.1 (am 13) = (113, 20, 24, 0, 4) := hM.1 13 _ rfl (by decide)
                  have w13 : X.2 (am 13) = 0 := hM.2.2.2 13 _ rfl (by decide) (by decide) (by decide)
                  have g17 : X.1 (am 17) = (117, 22, 36, 0, 0) := hM.1 17 _ rfl (by decide)
                  have g27 : X.1 (am 27) = (127, 21, 40, 0, 0) := hM.1 27 _ rfl (by decide)
                  have g29 : X.1 (am 29) = (129, 20, 1600, -2147483648, 2147483647) := hM.1 29 _ rfl (by decide)
                  have w29 : X.2 (am 29) = 0 := hM.2.2.2 29 _ rfl (by decide) (by decide) (by decide)
                  have g30 : X.1 (am 30) = (130, 22, 6560, 0, 0) := hM.1 30 _ rfl (by decide)
                  have g32 : X.1 (am 32) = (132, 20, 52480, -2147483648, 2147483647) := hM.1 32 _ rfl (by decide)
                  have w32 : X.2 (am 32) = 0 := hM.2.2.2 32 _ rfl (by decide) (by decide) (by decide)
                  have g33 : X.1 (am 33) = (133, 20, 6560, 0, 8) := hM.1 33 _ rfl (by decide)
                  have w33 : X.2 (am 33) = 0 := hM.2.2.2 33 _ rfl (by decide) (by decide) (by decide)
                  have g40 : X.1 (am 40) = (140, 20, 8, -2147483648, 2147483647) := hM.1 40 _ rfl (by decide)
                  have w40 : X.2 (am 40) = 0 := hM.2.2.2 40 _ rfl (by decide) (by decide) (by decide)
                  have g41 : X.1 (am 41) = (141, 20, 8, 0, 40) := hM.1 41 _ rfl (by decide)
                  have g42 : X.1 (am 42) = (142, 20, 320, 0, 39) := hM.1 42 _ rfl (by decide)
                  have w42 : X.2 (am 42) = 0 := hM.2.2.2 42 _ rfl (by decide) (by decide) (by decide)
                  have g43 : X.1 (am 43) = (143, 20, 320, -2147483648, 2147483647) := hM.1 43 _ rfl (by decide)
                  have w43 : X.2 (am 43) = 0 := hM.2.2.2 43 _ rfl (by decide) (by decide) (by decide)
                  have g44 : X.1 (am 44) = (144, 20, 40, 0, 8) := hM.1 44 _ rfl (by decide)
                  have w44 : X.2 (am 44) = 0 := hM.2.2.2 44 _ rfl (by decide) (by decide) (by decide)
                  obtain ⟨k_4, k_5, k_11, k_12, k_13, k_29, k_32, k_33, k_44⟩ := id hk
                  have c_3 : va_at (dC, dI) vwCl (am 3, .inl (ca 21, 320, .inl (fc 3))) H := c_3
                  have c_4 : va_at (dC, dI) vwCl (am 4, .inl (ca 20, 40, .inl (fc 4))) H := c_4
                  have c_5 : va_at (dC, dI) vwCl (am 5, .inl (ca 20, 40, .inl (fc 5))) H := c_5
                  have c_10 : va_at (dC, dI) vwCl (am 10, .inl (ca 21, 240, .inl (fc 10))) H := c_10
                  have c_11 : va_at (dC, dI) vwCl (am 11, .inl (ca 20, 24, .inl (fc 11))) H := c_11
                  have c_12 : va_at (dC, dI) vwCl (am 12, .inl (ca 20, 24, .inl (fc 12))) H := c_12
                  have c_13 : va_at (dC, dI) vwCl (am 13, .inl (ca 20, 24, .inl (fc 13))) H := c_13
                  have c_17 : va_at (dC, dI) vwCl (am 17, .inl (ca 22, 36, .inl (fc 17))) H := c_17
                  have c_27 : va_at (dC, dI) vwCl (am 27, .inl (ca 21, 40, .inl (fc 27))) H := c_27
                  have c_29 : va_at (dC, dI) vwCl (am 29, .inl (ca 20, 1600, .inl (fc 29))) H := c_29
                  have c_30 : va_at (dC, dI) vwCl (am 30, .inl (ca 22, 6560, .inl gc_89)) H := c_30
                  have c_32 : va_at (dC, dI) vwCl (am 32, .inl (ca 20, 52480, .inl gb_90)) H := c_32
                  have c_33 : va_at (dC, dI) vwCl (am 33, .inl (ca 20, 6560, .inl gm_91)) H := c_33
                  have c_44 : va_at (dC, dI) vwCl (am 44, .inl (ca 20, 40, .inl gn)) H := c_44
                  have k_4 : ok20 X (am 4) 40 (0) (8) (fc 4) := k_4
                  have k_5 : ok20 X (am 5) 40 (0) (5) (fc 5) := k_5
                  have k_11 : ok20 X (am 11) 24 (0) (3) (fc 11) := k_11
                  have k_12 : ok20 X (am 12) 24 (0) (3) (fc 12) := k_12
                  have k_13 : ok20 X (am 13) 24 (0) (4) (fc 13) := k_13
                  have k_29 : ok20 X (am 29) 1600 (-2147483648) (2147483647) (fc 29) := k_29
                  have k_32 : ok20 X (am 32) 52480 (-2147483648) (2147483647) gb_90 := k_32
                  have k_33 : ok20 X (am 33) 6560 (0) (8) gm_91 := k_33
                  have k_44 : ok20 X (am 44) 40 (0) (8) gn := k_44
                  refine lv_iload hx hb dX12_part_296 (lv_at hl 4 rfl) ?_
                  refine lv_bipush (v := kz 8) hx hb dX12_part_298 (by decide) ?_
                  refine iz_ge (tgt := 448) hx hb dX12_part_300 (by decide) (by unfold rg2; omega) (fun br_94 => ?_) (fun br_94 => ?_)
                  · refine lv_aload_n hx hb dX12_part_448 rfl (lv_at hl 2 rfl) ?_
                    refine iz_get (D := (dC, dI)) (ci := 12) (v := .long r_88) (C := RX12) (T := TX12) (N := 49) hx hb hts hin hown hK hO rfl 37 (by decide) hL234 (fun _ h9 => h9) rfl dX12_part_449 ?_
                    exact W.lret (v := r_88) hx hb hr (fun t9 ht hW => ⟨⟨r_88, (X, (fup (fup (fup (fup (fup (fup zi 1 0) 28 (zi 1)) 34 0) 35 1) 38 1) 39 k1), (fupL (fupL zl 36 r_26) 37 r_88)), rfl, ⟨hM, ⟨⟨by show (0 : Int) ≤ 0; omega, by show 0 ≤ (60 : Int); omega⟩, ⟨z2a, z2b⟩, ⟨z9a, z9b⟩, ⟨z20a, z20b⟩, ⟨z21a, z21b⟩, ⟨z22a, z22b⟩, ⟨z26a, z26b⟩, ⟨by show (0 : Int) ≤ zi 1; omega, by show zi 1 ≤ (40 : Int); omega⟩, ⟨by show (0 : Int) ≤ 0; omega, by show 0 ≤ (1 : Int); omega⟩, ⟨by show (0 : Int) ≤ 1; omega, by show 1 ≤ (1 : Int); omega⟩, ⟨by show (0 : Int) ≤ 1; omega, by show 1 ≤ (1 : Int); omega⟩, ⟨by show (0 : Int) ≤ k1; omega, by show k1 ≤ (8 : Int); omega⟩, ⟨z46a, z46b⟩, by show zi 2 ≤ (X.2 (am 4) : Int); omega, by show k1 ≤ (X.2 (am 41) : Int); omega⟩, rfl⟩, va_K.moved hW.alike hK, by rw [ht]; exact ⟨hI, hO⟩⟩, hS.F ht⟩) hS.2.2 dX12_part_452
                  · refine lv_iconst (v := kz (-1)) hx hb dX12_part_303 rfl ?_
                    refine lv_istore (lv' := [(5, .int (kz (-1))), (3, .int (kz 1)), (2, .int (kz (zi 1))), (0, .ref o), (1, .int (kz day)), (4, .int (kz k1))]) hx hb dX12_part_304 hl (by decide) rfl (fun ls hl => ?_)
                    refine lv_ldc (own := RX12) (v := kz 1073741823) hx hb hown (hts (.constant RX12 240 (kz 1073741823)) (by decide +kernel)) dX12_part_306 ?_
                    refine lv_istore (lv' := [(6, .int (kz 1073741823)), (5, .int (kz (-1))), (3, .int (kz 1)), (2, .int (kz (zi 1))), (0, .ref o), (1, .int (kz day)), (4, .int (kz k1))]) hx hb dX12_part_308 hl (by decide) rfl (fun ls hl => ?_)
                    refine lv_iconst (v := kz 0) hx hb dX12_part_310 rfl ?_
                    refine lv_istore (lv' := [(7, .int (kz 0)), (6, .int (kz 1073741823)), (5, .int (kz (-1))), (3, .int (kz 1)), (2, .int (kz (zi 1))), (0, .ref o), (1, .int (kz day)), (4, .int (kz k1))]) hx hb dX12_part_311 hl (by decide) rfl (fun ls hl => ?_)
                    refine iz_loopA3 (α := Unit) (P := fun N9 fn9 le of f1 H locs ls => (-1 ≤ le) ∧ (le < zi 2) ∧ (-2147483648 ≤ of ∧ of ≤ 2147483647) ∧ (0 ≤ f1) ∧ (f1 ≤ 40) ∧ (0 ≤ le → ge1 gn le < ge1 gm_91 (pl le 0 0)) ∧ 40 - f1 ≤ (N9 : Int) ∧ lv_has ls 9 [(7, .int (kz f1)), (6, .int (kz of)), (5, .int (kz le)), (3, .int (kz 1)), (2, .int (kz (zi 1))), (0, .ref o), (1, .int (kz day)), (4, .int (kz k1))] ∧ iv (dC, dI) ca A X H ∧ va_at (dC, dI) vwCl (o, .inr (12, mM am (fup (fup (fup (fup (fup (fup zi 1 0) 28 (zi 1)) 34 0) 35 1) 38 1) 39 k1) (fupL (fupL zl 36 r_26) 37 r_88))) H ∧ va_S A s.heap H locs ∧ va_at (dC, dI) vwCl (am 3, .inl (ca 21, 320, .inl (fc 3))) H ∧ va_at (dC, dI) vwCl (am 4, .inl (ca 20, 40, .inl (fc 4))) H ∧ va_at (dC, dI) vwCl (am 5, .inl (ca 20, 40, .inl (fc 5))) H ∧ va_at (dC, dI) vwCl (am 10, .inl (ca 21, 240, .inl (fc 10))) H ∧ va_at (dC, dI) vwCl (am 11, .inl (ca 20, 24, .inl (fc 11))) H ∧ va_at (dC, dI) vwCl (am 12, .inl (ca 20, 24, .inl (fc 12))) H ∧ va_at (dC, dI) vwCl (am 13, .inl (ca 20, 24, .inl (fc 13))) H ∧ va_at (dC, dI) vwCl (am 17, .inl (ca 22, 36, .inl (fc 17))) H ∧ va_at (dC, dI) vwCl (am 27, .inl (ca 21, 40, .inl (fc 27))) H ∧ va_at (dC, dI) vwCl (am 29, .inl (ca 20, 1600, .inl (fc 29))) H ∧ va_at (dC, dI) vwCl (am 30, .inl (ca 22, 6560, .inl gc_89)) H ∧ va_at (dC, dI) vwCl (am 32, .inl (ca 20, 52480, .inl gb_90)) H ∧ va_at (dC, dI) vwCl (am 33, .inl (ca 20, 6560, .inl gm_91)) H ∧ va_at (dC, dI) vwCl (am 44, .inl (ca 20, 40, .inl gn)) H) 100000 () (x0 := (-1)) (x1 := 1073741823) (x2 := 0) ?_ ⟨by omega, by omega, by omega, by omega, by omega, (fun q9 => absurd q9 (by omega)), by omega, lv_sub hl [0, 1, 2, 3, 4, 5, 6, 7] rfl, hI, hO, hS, c_3, c_4, c_5, c_10, c_11, c_12, c_13, c_17, c_27, c_29, c_30, c_32, c_33, c_44⟩
                    intro n_95 fn9 le of f1 H locs ls ⟨n_95f0, n_95f1, n_95f2, n_95f3, n_95f4, n_95f5, n_95f6, hl, hI, hO, hS, c_3, c_4, c_5, c_10, c_11, c_12, c_13, c_17, c_27, c_29, c_30, c_32, c_33, c_44⟩ ihn_95
                    refine lv_iload hx hb dX12_part_313 (lv_at hl 0 rfl) ?_
                    refine lv_aload_n hx hb dX12_part_315 rfl (lv_at hl 5 rfl) ?_
                    refine iz_get (D := (dC, dI)) (ci := 12) (v := .int (kz (zi 2))) (C := RX12) (T := TX12) (N := 49) hx hb hts hin hown hK hO rfl 2 (by decide) hL131 (fun _ h9 => h9) rfl dX12_part_316 ?_
                    refine iz_ge (tgt := 410) hx hb dX12_part_319 (by decide) (by unfold rg2; omega) (fun br_96 => ?_) (fun br_96 => ?_)
                    · refine lv_iload hx hb dX12_part_410 (lv_at hl 2 rfl) ?_
                      refine iz_gez (tgt := 418) hx hb dX12_part_412 (by decide) (by unfold rg2; omega) (fun br_97 => ?_) (fun br_97 => ?_)
                      · refine lv_aload_n hx hb dX12_part_418 rfl (lv_at hl 5 rfl) ?_
                        refine lv_iload hx hb dX12_part_419 (lv_at hl 2 rfl) ?_
                        refine lv_aload_n hx hb dX12_part_421 rfl (lv_at hl 5 rfl) ?_
                        refine iz_get (D := (dC, dI)) (ci := 12) (v := .ref (am 44)) (C := RX12) (T := TX12) (N := 49) hx hb hts hin hown hK hO rfl 44 (by decide) hL108 (fun _ h9 => h9) rfl dX12_part_422 ?_
                        refine lv_iload hx hb dX12_part_425 (lv_at hl 2 rfl) ?_
                        refine iz_iald hx hb hK 0 c_44 rfl (by omega) (by decide) dX12_part_427 ?_
                        obtain ⟨v_98a, v_98b, v_98c⟩ := k_44 le (by omega)
                        clear v_98c
                        obtain ⟨v_98, ev_98⟩ : ∃ z9 : Int, ge1 gn le = z9 := ⟨_, rfl⟩
                        rw [ev_98] at v_98a v_98b ⊢
                        have hwt : v_98 < ge1 gm_91 (pl le 0 0) := by have q8 := n_95f5 (by omega); rw [ev_98] at q8; exact q8
                        refine va_callv (va_runV (As := [.int (kz le), .int (kz v_98)]) (rest := []) ⟨hx, hb, hml, hown, hts⟩ (m_tells l dC dI ca A X o am (fup (fup (fup (fup (fup (fup zi 1 0) 28 (zi 1)) 34 0) 35 1) 38 1) 39 k1) (fupL (fupL zl 36 r_26) 37 r_88) (cup (cup (cup (cup fc 30 gc_89) 32 gb_90) 33 gm_91) 44 gn) hM ⟨⟨by show (0 : Int) ≤ 0; omega, by show 0 ≤ (60 : Int); omega⟩, ⟨z2a, z2b⟩, ⟨z9a, z9b⟩, ⟨z20a, z20b⟩, ⟨z21a, z21b⟩, ⟨z22a, z22b⟩, ⟨z26a, z26b⟩, ⟨by show (0 : Int) ≤ zi 1; omega, by show zi 1 ≤ (40 : Int); omega⟩, ⟨by show (0 : Int) ≤ 0; omega, by show 0 ≤ (1 : Int); omega⟩, ⟨by show (0 : Int) ≤ 1; omega, by show 1 ≤ (1 : Int); omega⟩, ⟨by show (0 : Int) ≤ 1; omega, by show 1 ≤ (1 : Int); omega⟩, ⟨by show (0 : Int) ≤ k1; omega, by show k1 ≤ (8 : Int); omega⟩, ⟨z46a, z46b⟩, by show zi 2 ≤ (X.2 (am 4) : Int); omega, by show k1 ≤ (X.2 (am 41) : Int); omega⟩ ⟨k_4, k_5, k_11, k_12, k_13, k_29, k_32, k_33, k_44⟩ le v_98 (by show 0 ≤ le ∧ le < zi 2; omega) (by omega) hwt (by show k1 ≤ 7; omega) rc_gc_89 en_gc_89) (cwV 2 hts gX12_part_X12_tells rfl rfl rfl (by decide +kernel) ⟨Nat.le_of_ble_eq_true rfl, Nat.le_of_ble_eq_true rfl⟩) ⟨fun a U g mk q => by obtain ⟨q0, qK, qI⟩ := q; exact ⟨q0, va_K.moved (u := U) (U := U.calling g mk a) (Vm.Alike.refl U.vm) qK, qI⟩, va_recv hK (at_P hO) (ci := 12) (q0 := 0) rfl rfl, fun U hU hW => ⟨rfl, va_K.moved hW.alike hK, by rw [hU]; exact ⟨⟨hI, hO⟩, c_3, c_4, c_5, c_10, c_11, c_12, c_13, c_17, c_27, c_29, c_30, c_32, c_33, c_44⟩⟩⟩ rfl rfl hl.1 rfl (lv_room (Nat.le_of_ble_eq_true rfl)) dX12_part_428 ⟨Nat.le_of_ble_eq_true rfl, Nat.le_of_ble_eq_true rfl⟩) hS (fun q _ h => h) (fun q h => h) (fun u t9 H locs ht hvm hwt2 hB hz1 hk1 hS => ?_)
                        obtain ⟨-, ⟨hI, hO⟩, c_3, c_4, c_5, c_10, c_11, c_12, c_13, c_17, c_27, c_29, c_30, c_32, c_33, c_44⟩ := hB
                        rw [ht] at hI hO c_3 c_4 c_5 c_10 c_11 c_12 c_13 c_17 c_27 c_29 c_30 c_32 c_33 c_44
                        clear ht hvm hz1 hk1
                        obtain ⟨X, zi2⟩ := u
                        obtain ⟨hM2, hz2, hk2, e2⟩ := hwt2
                        have hO : va_at (dC, dI) vwCl (o, .inr (12, mM am zi2 (fupL (fupL zl 36 r_26) 37 r_88))) H := hO
                        rw [show zi2 = _ from e2] at hO
                        have hO : va_at (dC, dI) vwCl (o, .inr (12, mM am (fup (fup (fup (fup (fup (fup zi 1 0) 28 (zi 1)) 34 0) 35 1) 38 1) 39 (k1 + 1)) (fupL (fupL zl 36 r_26) 37 r_88))) H := hO
                        have hz2 : mZ X am zi2 := hz2
                        rw [show zi2 = _ from e2] at hz2
                        have hzA : zi 2 ≤ (X.2 (am 4) : Int) := hz2.2.2.2.2.2.2.2.2.2.2.2.2.2.1
                        have hzB : (k1 + 1) ≤ (X.2 (am 41) : Int) := hz2.2.2.2.2.2.2.2.2.2.2.2.2.2.2
                        have hM : mS X A o am := hM2
                        have hI : iv (dC, dI) ca A X H := hI
                        clear hM2 hz2 e2
                        obtain ⟨k_4, k_5, k_11, k_12, k_13, k_29, k_32, k_33, k_44⟩ := id hk2
                        have c_3 : va_at (dC, dI) vwCl (am 3, .inl (ca 21, 320, .inl (fc 3))) H := c_3
                        have c_4 : va_at (dC, dI) vwCl (am 4, .inl (ca 20, 40, .inl (fc 4))) H := c_4
                        have c_5 : va_at (dC, dI) vwCl (am 5, .inl (ca 20, 40, .inl (fc 5))) H := c_5
                        have c_10 : va_at (dC, dI) vwCl (am 10, .inl (ca 21, 240, .inl (fc 10))) H := c_10
                        have c_11 : va_at (dC, dI) vwCl (am 11, .inl (ca 20, 24, .inl (fc 11))) H := c_11
                        have c_12 : va_at (dC, dI) vwCl (am 12, .inl (ca 20, 24, .inl (fc 12))) H := c_12
                        have c_13 : va_at (dC, dI) vwCl (am 13, .inl (ca 20, 24, .inl (fc 13))) H := c_13
                        have c_17 : va_at (dC, dI) vwCl (am 17, .inl (ca 22, 36, .inl (fc 17))) H := c_17
                        have c_27 : va_at (dC, dI) vwCl (am 27, .inl (ca 21, 40, .inl (fc 27))) H := c_27
                        have c_29 : va_at (dC, dI) vwCl (am 29, .inl (ca 20, 1600, .inl (fc 29))) H := c_29
                        have c_30 : va_at (dC, dI) vwCl (am 30, .inl (ca 22, 6560, .inl gc_89)) H := c_30
                        have c_32 : va_at (dC, dI) vwCl (am 32, .inl (ca 20, 52480, .inl gb_90)) H := c_32
                        have c_33 : va_at (dC, dI) vwCl (am 33, .inl (ca 20, 6560, .inl gm_91)) H := c_33
                        have c_44 : va_at (dC, dI) vwCl (am 44, .inl (ca 20, 40, .inl gn)) H := c_44
                        have k_4 : ok20 X (am 4) 40 (0) (8) (fc 4) := k_4
                        have k_5 : ok20 X (am 5) 40 (0) (5) (fc 5) := k_5
                        have k_11 : ok20 X (am 11) 24 (0) (3) (fc 11) := k_11
                        have k_12 : ok20 X (am 12) 24 (0) (3) (fc 12) := k_12
                        have k_13 : ok20 X (am 13) 24 (0) (4) (fc 13) := k_13
                        have k_29 : ok20 X (am 29) 1600 (-2147483648) (2147483647) (fc 29) := k_29
                        have k_32 : ok20 X (am 32) 52480 (-2147483648) (2147483647) gb_90 := k_32
                        have k_33 : ok20 X (am 33) 6560 (0) (8) gm_91 := k_33
                        have k_44 : ok20 X (am 44) 40 (0) (8) gn := k_44
                        have g3 : X.1 (am 3) = (103, 21, 320, 0, 0) := hM.1 3 _ rfl (by decide)
                        have g4 : X.1 (am 4) = (104, 20, 40, 0, 8) := hM.1 4 _ rfl (by decide)
                        have g5 : X.1 (am 5) = (105, 20, 40, 0, 5) := hM.1 5 _ rfl (by decide)
                        have w5 : X.2 (am 5) = 0 := hM.2.2.2 5 _ rfl (by decide) (by decide) (by decide)
                        have g10 : X.1 (am 10) = (110, 21, 240, 0, 0) := hM.1 10 _ rfl (by decide)
                        have g11 : X.1 (am 11) = (111, 20, 24, 0, 3) := hM.1 11 _ rfl (by decide)
                        have w11 : X.2 (am 11) = 0 := hM.2.2.2 11 _ rfl (by decide) (by decide) (by decide)
                        have g12 : X.1 (am 12) = (112, 20, 24, 0, 3) := hM.1 12 _ rfl (by decide)
                        have w12 : X.2 (am 12) = 0 := hM.2.2.2 12 _ rfl (by decide) (by decide) (by decide)
                        have g13 : X.1 (am 13) = (113, 20, 24, 0, 4) := hM.1 13 _ rfl (by decide)
                        have w13 : X.2 (am 13) = 0 := hM.2.2.2 13 _ rfl (by decide) (by decide) (by decide)
                        have g17 : X.1 (am 17) = (117, 22, 36, 0, 0) := hM.1 17 _ rfl (by decide)
                        have g27 : X.1 (am 27) = (127, 21, 40, 0, 0) := hM.1 27 _ rfl (by decide)
                        have g29 : X.1 (am 29) = (129, 20, 1600, -2147483648, 2147483647) := hM.1 29 _ rfl (by decide)
                        have w29 : X.2 (am 29) = 0 := hM.2.2.2 29 _ rfl (by decide) (by decide) (by decide)
                        have g30 : X.1 (am 30) = (130, 22, 6560, 0, 0) := hM.1 30 _ rfl (by decide)
                        have g32 : X.1 (am 32) = (132, 20, 52480, -2147483648, 2147483647) := hM.1 32 _ rfl (by decide)
                        have w32 : X.2 (am 32) = 0 := hM.2.2.2 32 _ rfl (by decide) (by decide) (by decide)
                        have g33 : X.1 (am 33) = (133, 20, 6560, 0, 8) := hM.1 33 _ rfl (by decide)
                        have w33 : X.2 (am 33) = 0 := hM.2.2.2 33 _ rfl (by decide) (by decide) (by decide)
                        have g40 : X.1 (am 40) = (140, 20, 8, -2147483648, 2147483647) := hM.1 40 _ rfl (by decide)
                        have w40 : X.2 (am 40) = 0 := hM.2.2.2 40 _ rfl (by decide) (by decide) (by decide)
                        have g41 : X.1 (am 41) = (141, 20, 8, 0, 40) := hM.1 41 _ rfl (by decide)
                        have g42 : X.1 (am 42) = (142, 20, 320, 0, 39) := hM.1 42 _ rfl (by decide)
                        have w42 : X.2 (am 42) = 0 := hM.2.2.2 42 _ rfl (by decide) (by decide) (by decide)
                        have g43 : X.1 (am 43) = (143, 20, 320, -2147483648, 2147483647) := hM.1 43 _ rfl (by decide)
                        have w43 : X.2 (am 43) = 0 := hM.2.2.2 43 _ rfl (by decide) (by decide) (by decide)
                        have g44 : X.1 (am 44) = (144, 20, 40, 0, 8) := hM.1 44 _ rfl (by decide)
                        have w44 : X.2 (am 44) = 0 := hM.2.2.2 44 _ rfl (by decide) (by decide) (by decide)
                        have hb8 : ge1 gm_91 (pl le 0 0) ≤ 8 := (k_33 (pl le 0 0) ⟨by unfold pl; omega, by unfold pl; omega⟩).2.1
                        refine lv_aload_n hx hb dX12_part_431 rfl (lv_at hl 5 rfl) ?_
                        refine iz_get (D := (dC, dI)) (ci := 12) (v := .ref (am 44)) (C := RX12) (T := TX12) (N := 49) hx hb hts hin hown hK hO rfl 44 (by decide) hL108 (fun _ h9 => h9) rfl dX12_part_432 ?_
                        refine lv_iload hx hb dX12_part_435 (lv_at hl 2 rfl) ?_
                        refine lv_dup2_11 hx hb dX12_part_437 rfl rfl ?_
                        refine iz_iald hx hb hK 0 c_44 rfl (by omega) (by decide) dX12_part_438 ?_
                        obtain ⟨v_99a, v_99b, v_99c⟩ := k_44 le (by omega)
                        clear v_99c
                        obtain ⟨v_99, ev_99⟩ : ∃ z9 : Int, ge1 gn le = z9 := ⟨_, rfl⟩
                        rw [ev_99] at v_99a v_99b ⊢
                        refine lv_iconst (v := kz 1) hx hb dX12_part_439 rfl ?_
                        refine iz_iadd hx hb dX12_part_440 ?_
                        refine iz_iast hx hb hK 0 c_44 hS (iv_A hI g44 (by decide)) rfl (by omega) (by decide) dX12_part_441 (fun H locs c9 oq hS => ?_)
                        have hI := iv_s20 hI g44 k_44 c9 oq (by omega) (by omega) (by decide) (by omega)
                        have hO := hO.kept (oq _ (iv_ne0 g44 hM.2.1 (by decide)).symm)
                        have c_3 := c_3.kept (oq _ (iv_ne g3 g44 (by decide)))
                        have c_4 := c_4.kept (oq _ (iv_ne g4 g44 (by decide)))
                        have c_5 := c_5.kept (oq _ (iv_ne g5 g44 (by decide)))
                        have c_10 := c_10.kept (oq _ (iv_ne g10 g44 (by decide)))
                        have c_11 := c_11.kept (oq _ (iv_ne g11 g44 (by decide)))
                        have c_12 := c_12.kept (oq _ (iv_ne g12 g44 (by decide)))
                        have c_13 := c_13.kept (oq _ (iv_ne g13 g44 (by decide)))
                        have c_17 := c_17.kept (oq _ (iv_ne g17 g44 (by decide)))
                        have c_27 := c_27.kept (oq _ (iv_ne g27 g44 (by decide)))
                        have c_29 := c_29.kept (oq _ (iv_ne g29 g44 (by decide)))
                        have c_30 := c_30.kept (oq _ (iv_ne g30 g44 (by decide)))
                        have c_32 := c_32.kept (oq _ (iv_ne g32 g44 (by decide)))
                        have c_33 := c_33.kept (oq _ (iv_ne g33 g44 (by decide)))
                        have k_g_100 : ok20 X (am 44) 40 (0) (8) (upd gn (Int.toNat le) (kz (v_99 + 1))) := ok20_set k_44 (by omega) (by omega) (by decide) (by omega)
                        obtain ⟨g_100, eg_100⟩ : ∃ g9 : Nat → Int32, g9 = upd gn (Int.toNat le) (kz (v_99 + 1)) := ⟨_, rfl⟩
                        rw [← eg_100] at c9 k_g_100
                        clear oq
                        have c_44 := c9
                        clear c9
                        have ug_100 : ∀ w : Int, 0 ≤ w → ge1 g_100 w = if w = le then (v_99 + 1) else ge1 gn w := fun w hw => by rw [eg_100]; exact ge1_upd gn (by omega) hw (by omega) (by omega)
                        refine lv_iinc (v := kz (k1 + 1)) (lv' := [(4, .int (kz (k1 + 1))), (7, .int (kz f1)), (6, .int (kz of)), (5, .int (kz le)), (3, .int (kz 1)), (2, .int (kz (zi 1))), (0, .ref o), (1, .int (kz day))]) hx hb dX12_part_442 hl (k := 7) rfl (kz_add k1 1) (by decide) rfl (fun ls hl => ?_)
                        refine lv_goto (tgt := 296) hx hb dX12_part_445 (by decide) ?_
                        exact ihx (n_x - 1) (by omega) (X, g_100) (k1 + 1) _ _ _ ⟨by omega, by omega, by omega, by omega, by omega, hM, ⟨k_4, k_5, k_11, k_12, k_13, k_29, k_32, k_33, k_g_100⟩, (fun f9 h0 h1 => by rw [ug_100 f9 h0]; by_cases e9 : f9 = le; rw [if_pos e9, e9]; omega; rw [if_neg e9]; exact lxn f9 h0 h1), lv_sub hl [4, 5, 6, 7, 0] rfl, hI, hO, hS, c_3, c_4, c_5, c_10, c_11, c_12, c_13, c_17, c_27, c_29, c_30, c_32, c_33, c_44⟩
                      · refine lv_goto (tgt := 448) hx hb dX12_part_415 (by decide) ?_
                        refine lv_aload_n hx hb dX12_part_448 rfl (lv_at hl 5 rfl) ?_
                        refine iz_get (D := (dC, dI)) (ci := 12) (v := .long r_88) (C := RX12) (T := TX12) (N := 49) hx hb hts hin hown hK hO rfl 37 (by decide) hL234 (fun _ h9 => h9) rfl dX12_part_449 ?_
                        exact W.lret (v := r_88) hx hb hr (fun t9 ht hW => ⟨⟨r_88, (X, (fup (fup (fup (fup (fup (fup zi 1 0) 28 (zi 1)) 34 0) 35 1) 38 1) 39 k1), (fupL (fupL zl 36 r_26) 37 r_88)), rfl, ⟨hM, ⟨⟨by show (0 : Int) ≤ 0; omega, by show 0 ≤ (60 : Int); omega⟩, ⟨z2a, z2b⟩, ⟨z9a, z9b⟩, ⟨z20a, z20b⟩, ⟨z21a, z21b⟩, ⟨z22a, z22b⟩, ⟨z26a, z26b⟩, ⟨by show (0 : Int) ≤ zi 1; omega, by show zi 1 ≤ (40 : Int); omega⟩, ⟨by show (0 : Int) ≤ 0; omega, by show 0 ≤ (1 : Int); omega⟩, ⟨by show (0 : Int) ≤ 1; omega, by show 1 ≤ (1 : Int); omega⟩, ⟨by show (0 : Int) ≤ 1; omega, by show 1 ≤ (1 : Int); omega⟩, ⟨by show (0 : Int) ≤ k1; omega, by show k1 ≤ (8 : Int); omega⟩, ⟨z46a, z46b⟩, by show zi 2 ≤ (X.2 (am 4) : Int); omega, by show k1 ≤ (X.2 (am 41) : Int); omega⟩, rfl⟩, va_K.moved hW.alike hK, by rw [ht]; exact ⟨hI, hO⟩⟩, hS.F ht⟩) hS.2.2 dX12_part_452
                    · refine lv_iload hx hb dX12_part_322 (lv_at hl 0 rfl) ?_
                      refine lv_iconst (v := kz 0) hx hb dX12_part_324 rfl ?_
                      refine lv_iconst (v := kz 0) hx hb dX12_part_325 rfl ?_
                      refine vp_callSi (va_Run.run (va_runS (As := [.int (kz f1), .int (kz 0), .int (kz 0)]) (rest := []) ⟨hx, hb, hml, hown, hts⟩ (m_placeOf l f1 0 0) (va_cwS 3 hts gX12_part_X12_placeOf rfl rfl rfl (by decide +kernel) ⟨Nat.le_of_ble_eq_true rfl, Nat.le_of_ble_eq_true rfl⟩) ⟨fun a U g mk q => q, fun U hU hW => ⟨rfl, trivial⟩⟩ rfl rfl hl.1 rfl (lv_room (Nat.le_of_ble_eq_true rfl)) dX12_part_326 ⟨Nat.le_of_ble_eq_true rfl, Nat.le_of_ble_eq_true rfl⟩)) (fun r_102 hw_101 => ?_)
                      obtain ⟨z_103, rfl, z_103h⟩ := hw_101
                      refine lv_istore (lv' := [(8, .int (kz z_103)), (7, .int (kz f1)), (6, .int (kz of)), (5, .int (kz le)), (3, .int (kz 1)), (2, .int (kz (zi 1))), (0, .ref o), (1, .int (kz day)), (4, .int (kz k1))]) hx hb dX12_part_329 hl (by decide) rfl (fun ls hl => ?_)
                      refine lv_aload_n hx hb dX12_part_331 rfl (lv_at hl 6 rfl) ?_
                      refine iz_get (D := (dC, dI)) (ci := 12) (v := .ref (am 44)) (C := RX12) (T := TX12) (N := 49) hx hb hts hin hown hK hO rfl 44 (by decide) hL108 (fun _ h9 => h9) rfl dX12_part_332 ?_
                      refine lv_iload hx hb dX12_part_335 (lv_at hl 1 rfl) ?_
                      refine iz_iald hx hb hK 0 c_44 rfl (by omega) (by decide) dX12_part_337 ?_
                      obtain ⟨v_104a, v_104b, v_104c⟩ := k_44 f1 (by omega)
                      clear v_104c
                      obtain ⟨v_104, ev_104⟩ : ∃ z9 : Int, ge1 gn f1 = z9 := ⟨_, rfl⟩
                      rw [ev_104] at v_104a v_104b ⊢
                      refine lv_aload_n hx hb dX12_part_338 rfl (lv_at hl 6 rfl) ?_
                      refine iz_get (D := (dC, dI)) (ci := 12) (v := .ref (am 33)) (C := RX12) (T := TX12) (N := 49) hx hb hts hin hown hK hO rfl 33 (by decide) hL93 (fun _ h9 => h9) rfl dX12_part_339 ?_
                      refine lv_iload hx hb dX12_part_342 (lv_at hl 0 rfl) ?_
                      refine iz_iald hx hb hK 0 c_33 rfl (by omega) (by decide) dX12_part_344 ?_
                      obtain ⟨v_105a, v_105b, v_105c⟩ := k_33 z_103 (by omega)
                      clear v_105c
                      obtain ⟨v_105, ev_105⟩ : ∃ z9 : Int, ge1 gm_91 z_103 = z9 := ⟨_, rfl⟩
                      rw [ev_105] at v_105a v_105b ⊢
                      refine iz_eq (tgt := 404) hx hb dX12_part_345 (by decide) (by unfold rg2; omega) (fun br_106 => ?_) (fun br_106 => ?_)
                      · refine lv_iinc (v := kz (f1 + 1)) (lv' := [(7, .int (kz (f1 + 1))), (8, .int (kz z_103)), (6, .int (kz of)), (5, .int (kz le)), (3, .int (kz 1)), (2, .int (kz (zi 1))), (0, .ref o), (1, .int (kz day)), (4, .int (kz k1))]) hx hb dX12_part_404 hl (k := 1) rfl (kz_add f1 1) (by decide) rfl (fun ls hl => ?_)
                        refine lv_goto (tgt := 313) hx hb dX12_part_407 (by decide) ?_
                        exact ihn_95 (n_95 - 1) (by omega) () le of (f1 + 1) _ _ _ ⟨by omega, by omega, by omega, by omega, by omega, n_95f5, by omega, lv_sub hl [0, 2, 3, 4, 5, 6, 7, 8] rfl, hI, hO, hS, c_3, c_4, c_5, c_10, c_11, c_12, c_13, c_17, c_27, c_29, c_30, c_32, c_33, c_44⟩
                      · refine lv_aload_n hx hb dX12_part_348 rfl (lv_at hl 6 rfl) ?_
                        refine iz_get (D := (dC, dI)) (ci := 12) (v := .ref (am 32)) (C := RX12) (T := TX12) (N := 49) hx hb hts hin hown hK hO rfl 32 (by decide) hL90 (fun _ h9 => h9) rfl dX12_part_349 ?_
                        refine lv_bipush (v := kz 8) hx hb dX12_part_352 (by decide) ?_
                        refine lv_iload hx hb dX12_part_354 (lv_at hl 0 rfl) ?_
                        refine iz_imul hx hb dX12_part_356 ?_
                        refine lv_aload_n hx hb dX12_part_357 rfl (lv_at hl 6 rfl) ?_
                        refine iz_get (D := (dC, dI)) (ci := 12) (v := .ref (am 44)) (C := RX12) (T := TX12) (N := 49) hx hb hts hin hown hK hO rfl 44 (by decide) hL108 (fun _ h9 => h9) rfl dX12_part_358 ?_
                        refine lv_iload hx hb dX12_part_361 (lv_at hl 1 rfl) ?_
                        refine iz_iald hx hb hK 0 c_44 rfl (by omega) (by decide) dX12_part_363 ?_
                        rw [ev_104]
                        refine iz_iadd hx hb dX12_part_364 ?_
                        refine iz_iald hx hb hK 0 c_32 rfl (by omega) (by decide) dX12_part_365 ?_
                        obtain ⟨v_107a, v_107b, v_107c⟩ := k_32 ((8 * z_103) + v_104) (by omega)
                        clear v_107c
                        obtain ⟨v_107, ev_107⟩ : ∃ z9 : Int, ge1 gb_90 ((8 * z_103) + v_104) = z9 := ⟨_, rfl⟩
                        rw [ev_107] at v_107a v_107b ⊢
                        refine vp_callSi (va_Run.run (va_runS (As := [.int (kz v_107)]) (rest := []) ⟨hx, hb, hml, hown, hts⟩ (m_costOf l v_107) (va_cwS 1 hts gX12_part_X12_costOf rfl rfl rfl (by decide +kernel) ⟨Nat.le_of_ble_eq_true rfl, Nat.le_of_ble_eq_true rfl⟩) ⟨fun a U g mk q => q, fun U hU hW => ⟨rfl, trivial⟩⟩ rfl rfl hl.1 rfl (lv_room (Nat.le_of_ble_eq_true rfl)) dX12_part_366 ⟨Nat.le_of_ble_eq_true rfl, Nat.le_of_ble_eq_true rfl⟩)) (fun r_109 hw_108 => ?_)
                        obtain ⟨z_110, z_110a, z_110b, rfl⟩ := kz_ex r_109
                        refine lv_iload hx hb dX12_part_369 (lv_at hl 2 rfl) ?_
                        refine iz_lt (tgt := 377) hx hb dX12_part_371 (by decide) (by unfold rg2; omega) (fun br_111 => ?_) (fun br_111 => ?_)
                        · refine lv_aload_n hx hb dX12_part_377 rfl (lv_at hl 6 rfl) ?_
                          refine iz_get (D := (dC, dI)) (ci := 12) (v := .ref (am 32)) (C := RX12) (T := TX12) (N := 49) hx hb hts hin hown hK hO rfl 32 (by decide) hL90 (fun _ h9 => h9) rfl dX12_part_378 ?_
                          refine lv_bipush (v := kz 8) hx hb dX12_part_381 (by decide) ?_
                          refine lv_iload hx hb dX12_part_383 (lv_at hl 0 rfl) ?_
                          refine iz_imul hx hb dX12_part_385 ?_
                          refine lv_aload_n hx hb dX12_part_386 rfl (lv_at hl 6 rfl) ?_
                          refine iz_get (D := (dC, dI)) (ci := 12) (v := .ref (am 44)) (C := RX12) (T := TX12) (N := 49) hx hb hts hin hown hK hO rfl 44 (by decide) hL108 (fun _ h9 => h9) rfl dX12_part_387 ?_
                          refine lv_iload hx hb dX12_part_390 (lv_at hl 1 rfl) ?_
                          refine iz_iald hx hb hK 0 c_44 rfl (by omega) (by decide) dX12_part_392 ?_
                          rw [ev_104]
                          refine iz_iadd hx hb dX12_part_393 ?_
                          refine iz_iald hx hb hK 0 c_32 rfl (by omega) (by decide) dX12_part_394 ?_
                          rw [ev_107]
                          refine vp_callSi (va_Run.run (va_runS (As := [.int (kz v_107)]) (rest := []) ⟨hx, hb, hml, hown, hts⟩ (m_costOf l v_107) (va_cwS 1 hts gX12_part_X12_costOf rfl rfl rfl (by decide +kernel) ⟨Nat.le_of_ble_eq_true rfl, Nat.le_of_ble_eq_true rfl⟩) ⟨fun a U g mk q => q, fun U hU hW => ⟨rfl, trivial⟩⟩ rfl rfl hl.1 rfl (lv_room (Nat.le_of_ble_eq_true rfl)) dX12_part_395 ⟨Nat.le_of_ble_eq_true rfl, Nat.le_of_ble_eq_true rfl⟩)) (fun r_113 hw_112 => ?_)
                          obtain ⟨z_114, z_114a, z_114b, rfl⟩ := kz_ex r_113
                          refine lv_istore (lv' := [(6, .int (kz z_114)), (8, .int (kz z_103)), (7, .int (kz f1)), (5, .int (kz le)), (3, .int (kz 1)), (2, .int (kz (zi 1))), (0, .ref o), (1, .int (kz day)), (4, .int (kz k1))]) hx hb dX12_part_398 hl (by decide) rfl (fun ls hl => ?_)
                          refine lv_iload hx hb dX12_part_400 (lv_at hl 2 rfl) ?_
                          refine lv_istore (lv' := [(5, .int (kz f1)), (6, .int (kz z_114)), (8, .int (kz z_103)), (7, .int (kz f1)), (3, .int (kz 1)), (2, .int (kz (zi 1))), (0, .ref o), (1, .int (kz day)), (4, .int (kz k1))]) hx hb dX12_part_402 hl (by decide) rfl (fun ls hl => ?_)
                          refine lv_iinc (v := kz (f1 + 1)) (lv' := [(7, .int (kz (f1 + 1))), (5, .int (kz f1)), (6, .int (kz z_114)), (8, .int (kz z_103)), (3, .int (kz 1)), (2, .int (kz (zi 1))), (0, .ref o), (1, .int (kz day)), (4, .int (kz k1))]) hx hb dX12_part_404 hl (k := 3) rfl (kz_add f1 1) (by decide) rfl (fun ls hl => ?_)
                          refine lv_goto (tgt := 313) hx hb dX12_part_407 (by decide) ?_
                          exact ihn_95 (n_95 - 1) (by omega) () f1 z_114 (f1 + 1) _ _ _ ⟨by omega, by omega, by omega, by omega, by omega, (fun _ => by rw [show pl f1 0 0 = z_103 from z_103h.symm, ev_104, ev_105]; have q8 := lxn f1 (by omega) (by omega); rw [show pl f1 0 0 = z_103 from z_103h.symm, ev_104, ev_105] at q8; omega), by omega, lv_sub hl [0, 2, 1, 4, 5, 6, 7, 8] rfl, hI, hO, hS, c_3, c_4, c_5, c_10, c_11, c_12, c_13, c_17, c_27, c_29, c_30, c_32, c_33, c_44⟩
                        · refine lv_goto (tgt := 404) hx hb dX12_part_374 (by decide) ?_
                          refine lv_iinc (v := kz (f1 + 1)) (lv' := [(7, .int (kz (f1 + 1))), (8, .int (kz z_103)), (6, .int (kz of)), (5, .int (kz le)), (3, .int (kz 1)), (2, .int (kz (zi 1))), (0, .ref o), (1, .int (kz day)), (4, .int (kz k1))]) hx hb dX12_part_404 hl (k := 1) rfl (kz_add f1 1) (by decide) rfl (fun ls hl => ?_)
                          refine lv_goto (tgt := 313) hx hb dX12_part_407 (by decide) ?_
                          exact ihn_95 (n_95 - 1) (by omega) () le of (f1 + 1) _ _ _ ⟨by omega, by omega, by omega, by omega, by omega, n_95f5, by omega, lv_sub hl [0, 2, 3, 4, 5, 6, 7, 8] rfl, hI, hO, hS, c_3, c_4, c_5, c_10, c_11, c_12, c_13, c_17, c_27, c_29, c_30, c_32, c_33, c_44⟩
                · refine lv_aload_n hx hb dX12_part_279 rfl (lv_at hl 3 rfl) ?_
                  refine iz_get (D := (dC, dI)) (ci := 12) (v := .ref (am 44)) (C := RX12) (T := TX12) (N := 49) hx hb hts hin hown hK hO rfl 44 (by decide) hL108 (fun _ h9 => h9) rfl dX12_part_280 ?_
                  refine lv_iload hx hb dX12_part_283 (lv_at hl 0 rfl) ?_
                  refine lv_iconst (v := kz 0) hx hb dX12_part_285 rfl ?_
                  refine iz_iast hx hb hK 0 c_44 hS (iv_A hI g44 (by decide)) rfl (by omega) (by decide) dX12_part_286 (fun H locs c9 oq hS => ?_)
                  have hI := iv_s20 hI g44 k_gn c9 oq (by omega) (by omega) (by decide) (by omega)
                  have hO := hO.kept (oq _ (iv_ne0 g44 hM.2.1 (by decide)).symm)
                  have c_3 := c_3.kept (oq _ (iv_ne g3 g44 (by decide)))
                  have c_4 := c_4.kept (oq _ (iv_ne g4 g44 (by decide)))
                  have c_5 := c_5.kept (oq _ (iv_ne g5 g44 (by decide)))
                  have c_10 := c_10.kept (oq _ (iv_ne g10 g44 (by decide)))
                  have c_11 := c_11.kept (oq _ (iv_ne g11 g44 (by decide)))
                  have c_12 := c_12.kept (oq _ (iv_ne g12 g44 (by decide)))
                  have c_13 := c_13.kept (oq _ (iv_ne g13 g44 (by decide)))
                  have c_17 := c_17.kept (oq _ (iv_ne g17 g44 (by decide)))
                  have c_27 := c_27.kept (oq _ (iv_ne g27 g44 (by decide)))
                  have c_29 := c_29.kept (oq _ (iv_ne g29 g44 (by decide)))
                  have c_30 := c_30.kept (oq _ (iv_ne g30 g44 (by decide)))
                  have c_32 := c_32.kept (oq _ (iv_ne g32 g44 (by decide)))
                  have c_33 := c_33.kept (oq _ (iv_ne g33 g44 (by decide)))
                  have k_g_115 : ok20 X (am 44) 40 (0) (8) (upd gn (Int.toNat f1) (kz 0)) := ok20_set k_gn (by omega) (by omega) (by decide) (by omega)
                  obtain ⟨g_115, eg_115⟩ : ∃ g9 : Nat → Int32, g9 = upd gn (Int.toNat f1) (kz 0) := ⟨_, rfl⟩
                  rw [← eg_115] at c9 k_g_115
                  clear oq
                  have c_44 := c9
                  clear c9
                  have ug_115 : ∀ w : Int, 0 ≤ w → ge1 g_115 w = if w = f1 then 0 else ge1 gn w := fun w hw => by rw [eg_115]; exact ge1_upd gn (by omega) hw (by omega) (by omega)
                  refine lv_iinc (v := kz (f1 + 1)) (lv' := [(4, .int (kz (f1 + 1))), (3, .int (kz 1)), (2, .int (kz (zi 1))), (0, .ref o), (1, .int (kz day))]) hx hb dX12_part_287 hl (k := 0) rfl (kz_add f1 1) (by decide) rfl (fun ls hl => ?_)
                  refine lv_goto (tgt := 270) hx hb dX12_part_290 (by decide) ?_
                  exact ihn_92 (n_92 - 1) (by omega) g_115 (f1 + 1) _ _ _ ⟨by omega, by omega, (fun f9 h0 h1 => by rw [ug_115 f9 h0]; by_cases e9 : f9 = f1; rw [if_pos e9]; rw [if_neg e9]; exact n_92f2 f9 h0 (by omega)), by omega, lv_sub hl [0, 1, 2, 3, 4] rfl, hI, hO, hS, c_3, c_4, c_5, c_10, c_11, c_12, c_13, c_17, c_27, c_29, c_30, c_32, c_33, c_44, k_g_115⟩
          · refine lv_iconst (v := kz 0) hx hb dX12_part_94 rfl ?_
            refine lv_istore (lv' := [(5, .int (kz 0)), (4, .int (kz f1)), (3, .int (kz 1)), (2, .int (kz (zi 1))), (0, .ref o), (1, .int (kz day))]) hx hb dX12_part_95 hl (by decide) rfl (fun ls hl => ?_)
            refine iz_loop1 (P := fun N9 g1 H locs ls => 0 ≤ g1 ∧ g1 ≤ 40 ∧ 40 - g1 ≤ (N9 : Int) ∧ lv_has ls 9 [(5, .int (kz g1)), (4, .int (kz f1)), (3, .int (kz 1)), (2, .int (kz (zi 1))), (0, .ref o), (1, .int (kz day))] ∧ iv (dC, dI) ca A X H ∧ va_at (dC, dI) vwCl (o, .inr (12, mM am (fup (fup zi 1 0) 28 (zi 1)) zl)) H ∧ va_S A s.heap H locs) 100000 (x0 := 0) ?_ ⟨by omega, by omega, by omega, lv_sub hl [0, 1, 2, 3, 4, 5] rfl, hI, hO, hS⟩
            intro n_116 g1 H locs ls ⟨n_116f0, n_116f1, n_116f2, hl, hI, hO, hS⟩ ihn_116
            refine lv_iload hx hb dX12_part_97 (lv_at hl 0 rfl) ?_
            refine lv_aload_n hx hb dX12_part_99 rfl (lv_at hl 4 rfl) ?_
            refine iz_get (D := (dC, dI)) (ci := 12) (v := .int (kz (zi 2))) (C := RX12) (T := TX12) (N := 49) hx hb hts hin hown hK hO rfl 2 (by decide) hL131 (fun _ h9 => h9) rfl dX12_part_100 ?_
            refine iz_ge (tgt := 178) hx hb dX12_part_103 (by decide) (by unfold rg2; omega) (fun br_117 => ?_) (fun br_117 => ?_)
            · refine lv_iinc (v := kz (f1 + 1)) (lv' := [(4, .int (kz (f1 + 1))), (5, .int (kz g1)), (3, .int (kz 1)), (2, .int (kz (zi 1))), (0, .ref o), (1, .int (kz day))]) hx hb dX12_part_178 hl (k := 1) rfl (kz_add f1 1) (by decide) rfl (fun ls hl => ?_)
              refine lv_goto (tgt := 85) hx hb dX12_part_181 (by decide) ?_
              exact ihn_9 (n_9 - 1) (by omega) (f1 + 1) _ _ _ ⟨by omega, by omega, by omega, lv_sub hl [0, 2, 3, 4, 5] rfl, hI, hO, hS⟩
            · refine lv_aload_n hx hb dX12_part_106 rfl (lv_at hl 4 rfl) ?_
              refine iz_get (D := (dC, dI)) (ci := 12) (v := .ref (am 29)) (C := RX12) (T := TX12) (N := 49) hx hb hts hin hown hK hO rfl 29 (by decide) hL79 (fun _ h9 => h9) rfl dX12_part_107 ?_
              refine lv_bipush (v := kz 40) hx hb dX12_part_110 (by decide) ?_
              refine lv_iload hx hb dX12_part_112 (lv_at hl 1 rfl) ?_
              refine iz_imul hx hb dX12_part_114 ?_
              refine lv_iload hx hb dX12_part_115 (lv_at hl 0 rfl) ?_
              refine iz_iadd hx hb dX12_part_117 ?_
              refine lv_iconst (v := kz 0) hx hb dX12_part_118 rfl ?_
              obtain ⟨f29_118, c_f29_118, k_f29_118⟩ := iv_o20 hI g29
              refine iz_iast hx hb hK 0 c_f29_118 hS (iv_A hI g29 (by decide)) rfl (by omega) (by decide) dX12_part_119 (fun H locs c9 oq hS => ?_)
              have hI := iv_s20 hI g29 k_f29_118 c9 oq (by omega) (by omega) (by decide) (by omega)
              have hO := hO.kept (oq _ (iv_ne0 g29 hM.2.1 (by decide)).symm)
              clear oq c9
              refine lv_iconst (v := kz 0) hx hb dX12_part_120 rfl ?_
              refine lv_istore (lv' := [(6, .int (kz 0)), (5, .int (kz g1)), (4, .int (kz f1)), (3, .int (kz 1)), (2, .int (kz (zi 1))), (0, .ref o), (1, .int (kz day))]) hx hb dX12_part_121 hl (by decide) rfl (fun ls hl => ?_)
              refine iz_loop1 (P := fun N9 q1 H locs ls => 0 ≤ q1 ∧ q1 ≤ 24 ∧ 24 - q1 ≤ (N9 : Int) ∧ lv_has ls 9 [(6, .int (kz q1)), (5, .int (kz g1)), (4, .int (kz f1)), (3, .int (kz 1)), (2, .int (kz (zi 1))), (0, .ref o), (1, .int (kz day))] ∧ iv (dC, dI) ca A X H ∧ va_at (dC, dI) vwCl (o, .inr (12, mM am (fup (fup zi 1 0) 28 (zi 1)) zl)) H ∧ va_S A s.heap H locs) 100000 (x0 := 0) ?_ ⟨by omega, by omega, by omega, lv_sub hl [0, 1, 2, 3, 4, 5, 6] rfl, hI, hO, hS⟩
              intro n_119 q1 H locs ls ⟨n_119f0, n_119f1, n_119f2, hl, hI, hO, hS⟩ ihn_119
              refine lv_iload hx hb dX12_part_123 (lv_at hl 0 rfl) ?_
              refine lv_aload_n hx hb dX12_part_125 rfl (lv_at hl 5 rfl) ?_
              refine iz_get (D := (dC, dI)) (ci := 12) (v := .int (kz (zi 9))) (C := RX12) (T := TX12) (N := 49) hx hb hts hin hown hK hO rfl 9 (by decide) hL138 (fun _ h9 => h9) rfl dX12_part_126 ?_
              refine iz_ge (tgt := 172) hx hb dX12_part_129 (by decide) (by unfold rg2; omega) (fun br_120 => ?_) (fun br_120 => ?_)
              · refine lv_iinc (v := kz (g1 + 1)) (lv' := [(5, .int (kz (g1 + 1))), (6, .int (kz q1)), (4, .int (kz f1)), (3, .int (kz 1)), (2, .int (kz (zi 1))), (0, .ref o), (1, .int (kz day))]) hx hb dX12_part_172 hl (k := 1) rfl (kz_add g1 1) (by decide) rfl (fun ls hl => ?_)
                refine lv_goto (tgt := 97) hx hb dX12_part_175 (by decide) ?_
                exact ihn_116 (n_116 - 1) (by omega) (g1 + 1) _ _ _ ⟨by omega, by omega, by omega, lv_sub hl [0, 2, 3, 4, 5, 6] rfl, hI, hO, hS⟩
              · refine lv_aload_n hx hb dX12_part_132 rfl (lv_at hl 5 rfl) ?_
                refine lv_iload hx hb dX12_part_133 (lv_at hl 0 rfl) ?_
                refine lv_iload hx hb dX12_part_135 (lv_at hl 2 rfl) ?_
                refine lv_iload hx hb dX12_part_137 (lv_at hl 1 rfl) ?_
                refine lv_iload_n hx hb dX12_part_139 rfl (lv_at hl 6 rfl) ?_
                refine vp_callSi (va_Run.run (va_runV (As := [.int (kz q1), .int (kz f1), .int (kz g1), .int (kz day)]) (rest := []) ⟨hx, hb, hml, hown, hts⟩ (m_fitsTwo l dC dI ca A X o am (fup (fup zi 1 0) 28 (zi 1)) zl hM ⟨⟨by show (0 : Int) ≤ 0; omega, by show 0 ≤ (60 : Int); omega⟩, ⟨z2a, z2b⟩, ⟨z9a, z9b⟩, ⟨z20a, z20b⟩, ⟨z21a, z21b⟩, ⟨z22a, z22b⟩, ⟨z26a, z26b⟩, ⟨by show (0 : Int) ≤ zi 1; omega, by show zi 1 ≤ (40 : Int); omega⟩, ⟨z34a, z34b⟩, ⟨z35a, z35b⟩, ⟨z38a, z38b⟩, ⟨z39a, z39b⟩, ⟨z46a, z46b⟩, by show zi 2 ≤ (X.2 (am 4) : Int); omega, by show zi 39 ≤ (X.2 (am 41) : Int); omega⟩ q1 f1 g1 day (by omega) (by omega) (by omega) (by omega)) (cwV 4 hts gX12_part_X12_fitsTwo rfl rfl rfl (by decide +kernel) ⟨Nat.le_of_ble_eq_true rfl, Nat.le_of_ble_eq_true rfl⟩) ⟨fun a U g mk q => by obtain ⟨q0, qK, qI⟩ := q; exact ⟨q0, va_K.moved (u := U) (U := U.calling g mk a) (Vm.Alike.refl U.vm) qK, qI⟩, va_recv hK (at_P hO) (ci := 12) (q0 := 0) rfl rfl, fun U hU hW => ⟨rfl, va_K.moved hW.alike hK, by rw [hU]; exact ⟨hI, hO⟩⟩⟩ rfl rfl hl.1 rfl (lv_room (Nat.le_of_ble_eq_true rfl)) dX12_part_140 ⟨Nat.le_of_ble_eq_true rfl, Nat.le_of_ble_eq_true rfl⟩)) (fun r_122 hw_121 => ?_)
                rcases hw_121 with rfl | rfl
                · refine iz_eqz (tgt := 166) hx hb dX12_part_143 (by decide) (by unfold rg2; omega) (fun q9 => absurd q9 (by decide)) (fun _ => ?_)
                  refine lv_aload_n hx hb dX12_part_146 rfl (lv_at hl 5 rfl) ?_
                  refine iz_get (D := (dC, dI)) (ci := 12) (v := .ref (am 29)) (C := RX12) (T := TX12) (N := 49) hx hb hts hin hown hK hO rfl 29 (by decide) hL79 (fun _ h9 => h9) rfl dX12_part_147 ?_
                  refine lv_bipush (v := kz 40) hx hb dX12_part_150 (by decide) ?_
                  refine lv_iload hx hb dX12_part_152 (lv_at hl 2 rfl) ?_
                  refine iz_imul hx hb dX12_part_154 ?_
                  refine lv_iload hx hb dX12_part_155 (lv_at hl 1 rfl) ?_
                  refine iz_iadd hx hb dX12_part_157 ?_
                  refine lv_dup2_11 hx hb dX12_part_158 rfl rfl ?_
                  obtain ⟨f29_123, c_f29_123, k_f29_123⟩ := iv_o20 hI g29
                  refine iz_iald hx hb hK 0 c_f29_123 rfl (by omega) (by decide) dX12_part_159 ?_
                  obtain ⟨v_124a, v_124b, v_124c⟩ := k_f29_123 ((40 * f1) + g1) (by omega)
                  clear v_124c
                  obtain ⟨v_124, ev_124⟩ : ∃ z9 : Int, ge1 f29_123 ((40 * f1) + g1) = z9 := ⟨_, rfl⟩
                  rw [ev_124] at v_124a v_124b ⊢
                  refine lv_iconst (v := kz 1) hx hb dX12_part_160 rfl ?_
                  refine lv_iload hx hb dX12_part_161 (lv_at hl 0 rfl) ?_
                  refine lv_ishl hx hb dX12_part_163 ?_
                  refine iz_any (fun z_125 z_125a z_125b z_125e => ?_)
                  refine lv_ior hx hb dX12_part_164 ?_
                  refine iz_any (fun z_126 z_126a z_126b z_126e => ?_)
                  refine iz_any (fun z_127 z_127a z_127b z_127e => ?_)
                  refine iz_iast hx hb hK 0 c_f29_123 hS (iv_A hI g29 (by decide)) rfl (by omega) (by decide) dX12_part_165 (fun H locs c9 oq hS => ?_)
                  have hI := iv_s20 hI g29 k_f29_123 c9 oq (by omega) (by omega) (by decide) (by omega)
                  have hO := hO.kept (oq _ (iv_ne0 g29 hM.2.1 (by decide)).symm)
                  clear oq c9
                  refine lv_iinc (v := kz (q1 + 1)) (lv' := [(6, .int (kz (q1 + 1))), (5, .int (kz g1)), (4, .int (kz f1)), (3, .int (kz 1)), (2, .int (kz (zi 1))), (0, .ref o), (1, .int (kz day))]) hx hb dX12_part_166 hl (k := 0) rfl (kz_add q1 1) (by decide) rfl (fun ls hl => ?_)
                  refine lv_goto (tgt := 123) hx hb dX12_part_169 (by decide) ?_
                  exact ihn_119 (n_119 - 1) (by omega) (q1 + 1) _ _ _ ⟨by omega, by omega, by omega, lv_sub hl [0, 1, 2, 3, 4, 5, 6] rfl, hI, hO, hS⟩
                · refine iz_eqz (tgt := 166) hx hb dX12_part_143 (by decide) (by unfold rg2; omega) (fun _ => ?_) (fun q9 => absurd q9 (by decide))
                  refine lv_iinc (v := kz (q1 + 1)) (lv' := [(6, .int (kz (q1 + 1))), (5, .int (kz g1)), (4, .int (kz f1)), (3, .int (kz 1)), (2, .int (kz (zi 1))), (0, .ref o), (1, .int (kz day))]) hx hb dX12_part_166 hl (k := 0) rfl (kz_add q1 1) (by decide) rfl (fun ls hl => ?_)
                  refine lv_goto (tgt := 123) hx hb dX12_part_169 (by decide) ?_
                  exact ihn_119 (n_119 - 1) (by omega) (q1 + 1) _ _ _ ⟨by omega, by omega, by omega, lv_sub hl [0, 1, 2, 3, 4, 5, 6] rfl, hI, hO, hS⟩
        · refine lv_aload_n hx hb dX12_part_62 rfl (lv_at hl 3 rfl) ?_
          refine iz_get (D := (dC, dI)) (ci := 12) (v := .ref (am 27)) (C := RX12) (T := TX12) (N := 49) hx hb hts hin hown hK hO rfl 27 (by decide) hL76 (fun _ h9 => h9) rfl dX12_part_63 ?_
          refine lv_iload hx hb dX12_part_66 (lv_at hl 0 rfl) ?_
          refine lv_aload_n hx hb dX12_part_68 rfl (lv_at hl 3 rfl) ?_
          refine iz_get (D := (dC, dI)) (ci := 12) (v := .ref (am 0)) (C := RX12) (T := TX12) (N := 49) hx hb hts hin hown hK hO rfl 0 (by decide) hL7 (fun _ h9 => h9) rfl dX12_part_69 ?_
          refine lv_iload hx hb dX12_part_72 (lv_at hl 0 rfl) ?_
          obtain ⟨f0_128, c_f0_128⟩ := iv_o21 hI g0
          refine iz_bald hx hb hK 1 c_f0_128 rfl (by omega) (by decide) dX12_part_74 ?_
          have v_129a := kz_lo (f0_128 (Int.toNat i))
          have v_129b := kz_hi (f0_128 (Int.toNat i))
          change _ ≤ ge1 f0_128 i at v_129a
          change ge1 f0_128 i ≤ _ at v_129b
          obtain ⟨v_129, ev_129⟩ : ∃ z9 : Int, ge1 f0_128 i = z9 := ⟨_, rfl⟩
          rw [ev_129] at v_129a v_129b ⊢
          obtain ⟨f27_130, c_f27_130⟩ := iv_o21 hI g27
          refine iz_bast hx hb hK 1 c_f27_130 hS (iv_A hI g27 (by decide)) rfl (by omega) (by decide) dX12_part_75 (fun H locs c9 oq hS => ?_)
          have hI := iv_s21 hI g27 c9 oq
          have hO := hO.kept (oq _ (iv_ne0 g27 hM.2.1 (by decide)).symm)
          have c_f0_128 := c_f0_128.kept (oq _ (iv_ne g0 g27 (by decide)))
          clear oq c9
          refine lv_iinc (v := kz (i + 1)) (lv' := [(4, .int (kz (i + 1))), (3, .int (kz 1)), (2, .int (kz (zi 1))), (0, .ref o), (1, .int (kz day))]) hx hb dX12_part_76 hl (k := 0) rfl (kz_add i 1) (by decide) rfl (fun ls hl => ?_)
          refine lv_goto (tgt := 56) hx hb dX12_part_79 (by decide) ?_
          exact ihn_7 (n_7 - 1) (by omega) (i + 1) _ _ _ ⟨by omega, by omega, by omega, lv_sub hl [0, 1, 2, 3, 4] rfl, hI, hO, hS⟩
      · refine iz_eqz (tgt := 33) hx hb dX12_part_26 (by decide) (by unfold rg2; omega) (fun _ => ?_) (fun q9 => absurd q9 (by decide))
        refine lv_iconst (v := kz 0) hx hb dX12_part_33 rfl ?_
        refine lv_istore_n (lv' := [(3, .int (kz 0)), (2, .int (kz (zi 1))), (0, .ref o), (1, .int (kz day))]) hx hb dX12_part_34 rfl hl (by decide) rfl (fun ls hl => ?_)
        refine lv_aload_n hx hb dX12_part_35 rfl (lv_at hl 2 rfl) ?_
        refine lv_iconst (v := kz 0) hx hb dX12_part_36 rfl ?_
        refine iz_put (D := (dC, dI)) (ci := 12) (v := .int (kz 0)) (ty := .int) (C := RX12) (T := TX12) (N := 49) hx hb hts hin tyX12 tyX12_ok nmX12 hown hK hO hS hM.2.2.1 rfl 1 (by decide) hL120 (fun _ h9 => h9) rfl (by decide +kernel) rfl rfl (Nat.le_of_ble_eq_true rfl) dX12_part_37 (fun H locs hO oq hS => ?_)
        rw [mM_1] at hO
        have hI := iv_skip hI hM.2.1 oq
        have hO : va_at (dC, dI) vwCl (o, .inr (12, mM am (fup zi 1 0) zl)) H := hO
        clear oq
        refine lv_iload_n hx hb dX12_part_40 rfl (lv_at hl 0 rfl) ?_
        refine iz_nez (tgt := 48) hx hb dX12_part_41 (by decide) (by unfold rg2; omega) (fun q9 => absurd q9 (by decide)) (fun _ => ?_)
        refine lv_ldc2 (own := RX12) (v := (-1)) hx hb hown (hts (.constantLong RX12 221 (-1)) (by decide +kernel)) dX12_part_44 ?_
        exact W.lret (v := (-1)) hx hb hr (fun t9 ht hW => ⟨⟨(-1), (X, (fup zi 1 0), zl), rfl, ⟨hM, ⟨⟨by show (0 : Int) ≤ 0; omega, by show 0 ≤ (60 : Int); omega⟩, ⟨z2a, z2b⟩, ⟨z9a, z9b⟩, ⟨z20a, z20b⟩, ⟨z21a, z21b⟩, ⟨z22a, z22b⟩, ⟨z26a, z26b⟩, ⟨z28a, z28b⟩, ⟨z34a, z34b⟩, ⟨z35a, z35b⟩, ⟨z38a, z38b⟩, ⟨z39a, z39b⟩, ⟨z46a, z46b⟩, by show zi 2 ≤ (X.2 (am 4) : Int); omega, by show zi 39 ≤ (X.2 (am 41) : Int); omega⟩, rfl⟩, va_K.moved hW.alike hK, by rw [ht]; exact ⟨hI, hO⟩⟩, hS.F ht⟩) hS.2.2 dX12_part_47
    · refine iz_eqz (tgt := 33) hx hb dX12_part_19 (by decide) (by unfold rg2; omega) (fun _ => ?_) (fun q9 => absurd q9 (by decide))
      refine lv_iconst (v := kz 0) hx hb dX12_part_33 rfl ?_
      refine lv_istore_n (lv' := [(3, .int (kz 0)), (2, .int (kz (zi 1))), (0, .ref o), (1, .int (kz day))]) hx hb dX12_part_34 rfl hl (by decide) rfl (fun ls hl => ?_)
      refine lv_aload_n hx hb dX12_part_35 rfl (lv_at hl 2 rfl) ?_
      refine lv_iconst (v := kz 0) hx hb dX12_part_36 rfl ?_
      refine iz_put (D := (dC, dI)) (ci := 12) (v := .int (kz 0)) (ty := .int) (C := RX12) (T := TX12) (N := 49) hx hb hts hin tyX12 tyX12_ok nmX12 hown hK hO hS hM.2.2.1 rfl 1 (by decide) hL120 (fun _ h9 => h9) rfl (by decide +kernel) rfl rfl (Nat.le_of_ble_eq_true rfl) dX12_part_37 (fun H locs hO oq hS => ?_)
      rw [mM_1] at hO
      have hI := iv_skip hI hM.2.1 oq
      have hO : va_at (dC, dI) vwCl (o, .inr (12, mM am (fup zi 1 0) zl)) H := hO
      clear oq
      refine lv_iload_n hx hb dX12_part_40 rfl (lv_at hl 0 rfl) ?_
      refine iz_nez (tgt := 48) hx hb dX12_part_41 (by decide) (by unfold rg2; omega) (fun q9 => absurd q9 (by decide)) (fun _ => ?_)
      refine lv_ldc2 (own := RX12) (v := (-1)) hx hb hown (hts (.constantLong RX12 221 (-1)) (by decide +kernel)) dX12_part_44 ?_
      exact W.lret (v := (-1)) hx hb hr (fun t9 ht hW => ⟨⟨(-1), (X, (fup zi 1 0), zl), rfl, ⟨hM, ⟨⟨by show (0 : Int) ≤ 0; omega, by show 0 ≤ (60 : Int); omega⟩, ⟨z2a, z2b⟩, ⟨z9a, z9b⟩, ⟨z20a, z20b⟩, ⟨z21a, z21b⟩, ⟨z22a, z22b⟩, ⟨z26a, z26b⟩, ⟨z28a, z28b⟩, ⟨z34a, z34b⟩, ⟨z35a, z35b⟩, ⟨z38a, z38b⟩, ⟨z39a, z39b⟩, ⟨z46a, z46b⟩, by show zi 2 ≤ (X.2 (am 4) : Int); omega, by show zi 39 ≤ (X.2 (am 41) : Int); omega⟩, rfl⟩, va_K.moved hW.alike hK, by rw [ht]; exact ⟨hI, hO⟩⟩, hS.F ht⟩) hS.2.2 dX12_part_47
  · refine iz_eqz (tgt := 33) hx hb dX12_part_9 (by decide) (by unfold rg2; omega) (fun _ => ?_) (fun q9 => absurd q9 (by decide))
    refine lv_iconst (v := kz 0) hx hb dX12_part_33 rfl ?_
    refine lv_istore_n (lv' := [(3, .int (kz 0)), (2, .int (kz (zi 1))), (0, .ref o), (1, .int (kz day))]) hx hb dX12_part_34 rfl hl (by decide) rfl (fun ls hl => ?_)
    refine lv_aload_n hx hb dX12_part_35 rfl (lv_at hl 2 rfl) ?_
    refine lv_iconst (v := kz 0) hx hb dX12_part_36 rfl ?_
    refine iz_put (D := (dC, dI)) (ci := 12) (v := .int (kz 0)) (ty := .int) (C := RX12) (T := TX12) (N := 49) hx hb hts hin tyX12 tyX12_ok nmX12 hown hK hO hS hM.2.2.1 rfl 1 (by decide) hL120 (fun _ h9 => h9) rfl (by decide +kernel) rfl rfl (Nat.le_of_ble_eq_true rfl) dX12_part_37 (fun H locs hO oq hS => ?_)
    rw [mM_1] at hO
    have hI := iv_skip hI hM.2.1 oq
    have hO : va_at (dC, dI) vwCl (o, .inr (12, mM am (fup zi 1 0) zl)) H := hO
    clear oq
    refine lv_iload_n hx hb dX12_part_40 rfl (lv_at hl 0 rfl) ?_
    refine iz_nez (tgt := 48) hx hb dX12_part_41 (by decide) (by unfold rg2; omega) (fun q9 => absurd q9 (by decide)) (fun _ => ?_)
    refine lv_ldc2 (own := RX12) (v := (-1)) hx hb hown (hts (.constantLong RX12 221 (-1)) (by decide +kernel)) dX12_part_44 ?_
    exact W.lret (v := (-1)) hx hb hr (fun t9 ht hW => ⟨⟨(-1), (X, (fup zi 1 0), zl), rfl, ⟨hM, ⟨⟨by show (0 : Int) ≤ 0; omega, by show 0 ≤ (60 : Int); omega⟩, ⟨z2a, z2b⟩, ⟨z9a, z9b⟩, ⟨z20a, z20b⟩, ⟨z21a, z21b⟩, ⟨z22a, z22b⟩, ⟨z26a, z26b⟩, ⟨z28a, z28b⟩, ⟨z34a, z34b⟩, ⟨z35a, z35b⟩, ⟨z38a, z38b⟩, ⟨z39a, z39b⟩, ⟨z46a, z46b⟩, by show zi 2 ≤ (X.2 (am 4) : Int); omega, by show zi 39 ≤ (X.2 (am 41) : Int); omega⟩, rfl⟩, va_K.moved hW.alike hK, by rw [ht]; exact ⟨hI, hO⟩⟩, hS.F ht⟩) hS.2.2 dX12_part_47
