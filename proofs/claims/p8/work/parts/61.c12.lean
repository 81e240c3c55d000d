set_option maxHeartbeats 4000000 in
set_option maxRecDepth 100000 in
/-- X11_form -/
theorem j_form (l : Launch) (dC : Nat → ClassId) (dI : Nat → Nat → Nat) (ca : Nat → ClassId) (A : Nat → Prop) (X : jG) (hU : jU X) (Hp : Heap) (o : Nat) (j_tape : Nat) (j_tongue : Nat) (j_row : Nat) (j_trees : Nat) (j_choices : Nat) (pv : Option Nat) (st : Int) (kd : Int) (st9 : Int) (co : Int) (kp : Int) (g_o : X.1 o = (999, 0, 0, 0, 0)) (hAo : A o) (g_j_tape : X.1 j_tape = (8, 30, 0, 0, 0)) (g_j_tongue : X.1 j_tongue = (9, 30, 0, 0, 0)) (g_j_row : X.1 j_row = (6, 30, 0, 0, 0)) (g_j_trees : X.1 j_trees = (10, 30, 0, 0, 0)) (g_j_choices : X.1 j_choices = (1, 30, 0, 0, 0)) (hpv : ∀ b : Nat, pv = some b → X.1 b = (4, 30, 0, 0, 0)) (hst : 0 ≤ st ∧ st ≤ 20) (kdr : -2147483648 ≤ kd ∧ kd ≤ 2147483647) (st9r : -2147483648 ≤ st9 ∧ st9 ≤ 2147483647) (cor : -2147483648 ≤ co ∧ co ≤ 2147483647) (hkp : kp = 0 ∨ kp = 1) (hA9 : ∀ q : Nat, Hp.size ≤ q → A q) : Met l yX11_form wsX11_form ({ frames := 4, cells := 2, slots := 24, locals := 92 }) (va_Pc [.ref o, .int (kz kd), .int (kz st9), .int (kz co), .int (kz kp)] (fun U => U.heap = Hp ∧ jK (dC, dI) ca U ∧ jv (dC, dI) ca A X U.heap ∧ va_at (dC, dI) vwCl (o, .inr (11, [.ref j_tape, .ref j_tongue, .ref j_row, .ref j_trees, .ref j_choices, va_rf pv, .int (kz st)])) U.heap)) (va_Qi (fun (r : Int32) (u : jG × Int) => prl X u.1 o [2, 201, 7, 202, 237, 238] ∧ u.2 = st) (fun (u : jG × Int) U => jK (dC, dI) ca U ∧ jv (dC, dI) ca A u.1 U.heap ∧ va_at (dC, dI) vwCl (o, .inr (11, [.ref j_tape, .ref j_tongue, .ref j_row, .ref j_trees, .ref j_choices, va_rf pv, .int (kz u.2)])) U.heap) A) 2 24 A := by
  refine Met.ofW (cc := cX11_form) (maxL := 7) (ret := (some .int)) (by decide) rfl ?_
  intro p e s m args below meth c s₁ B hml hv
  obtain ⟨rfl, hHp, ⟨hK, hN⟩, hI, hO⟩ := hv
  have hx := B.exec
  have hb := B.bytes
  have hr := B.returns
  have hts := atoms_spec (ws := wsX11_form) B.pre
  have hown : s.vm.findClass RX11 = some m.cls := findClass_of_methodNamed B.named
  have hL19 := hts (.fieldLink RX11 19 "JoinBench" "tongue" "LJoinBench$Tongue;") (by decide +kernel)
  have hL67 := hts (.fieldLink RX11 67 "JoinBench$Tongue" "formCount" "I") (by decide +kernel)
  have hL12 := hts (.fieldLink RX11 12 "JoinBench" "tape" "LJoinBench$Tape;") (by decide +kernel)
  have hL60 := hts (.fieldLink RX11 60 "JoinBench$Tape" "size" "I") (by decide +kernel)
  have hinX11 : ∀ w ∈ u_ws RX11 TX11 7, w ∈ wsX11_form := by decide +kernel
  have hinX8 : ∀ w ∈ u_ws RX8 TX8 2, w ∈ wsX11_form := by decide +kernel
  have hinX9 : ∀ w ∈ u_ws RX9 TX9 5, w ∈ wsX11_form := by decide +kernel
  obtain ⟨H, hH⟩ : ∃ H : Heap, H = s.heap := ⟨_, rfl⟩
  have hS : va_S A s.heap H [] := by rw [hH]; exact va_S.rf
  have hF : kfm X [] Hp H := by rw [hH, hHp]; exact fm_rf _ _ _
  clear hF
  obtain ⟨n0, hn0⟩ : ∃ n9 : Nat, n9 = Hp.size := ⟨_, rfl⟩
  have hA : ∀ q : Nat, n0 ≤ q → A q := by rw [hn0]; exact hA9
  have hsz : s.heap.size = n0 := by rw [hn0, hHp]
  have hP := prl_rf o [2, 201, 7, 202, 237, 238] hU
  rw [← hH] at hI hO ⊢
  clear hH
  have hl := lv_entry ([.ref o, .int (kz kd), .int (kz st9), .int (kz co), .int (kz kp)]) (n := 7) (Nat.le_of_ble_eq_true rfl)
  rw [lg_entry_eq]
  generalize (lg_sl ([.ref o, .int (kz kd), .int (kz st9), .int (kz co), .int (kz kp)]) ++ List.replicate (7 - (lg_sl ([.ref o, .int (kz kd), .int (kz st9), .int (kz co), .int (kz kp)])).length) Slot.unset).toArray = ls at hl ⊢
  have hl : lv_has ls 7 [(0, .ref o), (1, .int (kz kd)), (2, .int (kz st9)), (3, .int (kz co)), (4, .int (kz kp))] := hl
  refine lv_aload_n hx hb dX11_form_0 rfl (lv_at hl 0 rfl) ?_
  refine iz_get (D := (dC, dI)) (ci := 11) (v := .ref j_tongue) (C := RX11) (T := TX11) (N := 7) hx hb hts hinX11 hown hK hO rfl 1 (by decide) hL19 (fun _ h9 => h9) rfl dX11_form_1 ?_
  obtain ⟨fs9, co_1, jo9⟩ := jv_o9 hI g_j_tongue
  obtain ⟨forms_1, rules_1, formCount_1, ruleCount_1, forbidden_1, rfl, g_forms_1, g_rules_1, ⟨formCount_1a, formCount_1b⟩, ⟨ruleCount_1a, ruleCount_1b⟩, g_forbidden_1, x_1_0, x_1_1, x_1_2⟩ := jo9
  refine iz_get (D := (dC, dI)) (ci := 9) (v := .int (kz formCount_1)) (C := RX9) (T := TX9) (N := 5) hx hb hts hinX9 hown hK co_1 rfl 2 (by decide) hL67 (fun _ h9 => h9) rfl dX11_form_4 ?_
  refine lv_bipush (v := kz 40) hx hb dX11_form_7 (by decide) ?_
  refine iz_ge (tgt := 63) hx hb dX11_form_9 (by decide) (by unfold rg2; omega) (fun br_2 => ?_) (fun br_2 => ?_)
  · refine lv_iconst (v := kz 0) hx hb dX11_form_63 rfl ?_
    refine lv_istore (lv' := [(5, .int (kz 0)), (0, .ref o), (1, .int (kz kd)), (2, .int (kz st9)), (3, .int (kz co)), (4, .int (kz kp))]) hx hb dX11_form_64 hl (by decide) rfl (fun ls hl => ?_)
    refine lv_iconst (v := kz (-1)) hx hb dX11_form_66 rfl ?_
    refine lv_istore (lv' := [(6, .int (kz (-1))), (5, .int (kz 0)), (0, .ref o), (1, .int (kz kd)), (2, .int (kz st9)), (3, .int (kz co)), (4, .int (kz kp))]) hx hb dX11_form_67 hl (by decide) rfl (fun ls hl => ?_)
    refine lv_iload hx hb dX11_form_69 (lv_at hl 1 rfl) ?_
    refine iz_eqz (tgt := 99) hx hb dX11_form_71 (by decide) (by unfold rg2; omega) (fun _ => ?_) (fun q9 => absurd q9 (by decide))
    refine lv_aload_n hx hb dX11_form_99 rfl (lv_at hl 2 rfl) ?_
    refine iz_get (D := (dC, dI)) (ci := 11) (v := .ref j_tape) (C := RX11) (T := TX11) (N := 7) hx hb hts hinX11 hown hK hO rfl 0 (by decide) hL12 (fun _ h9 => h9) rfl dX11_form_100 ?_
    refine lv_iconst (v := kz 0) hx hb dX11_form_103 rfl ?_
    obtain ⟨fs9, co_3, jo9⟩ := jv_o8 hI g_j_tape
    obtain ⟨bytes_3, size_3, rfl, g_bytes_3, ⟨size_3a, size_3b⟩⟩ := jo9
    refine iz_put (D := (dC, dI)) (ci := 8) (v := .int (kz 0)) (ty := .int) (C := RX8) (T := TX8) (N := 2) hx hb hts hinX8 tyX8 tyX8_ok nmX8 hown hK co_3 hS (jv_A hI g_j_tape (show (30 : Nat) ≠ 0 by decide)) rfl 1 (by decide) hL60 (fun _ h9 => h9) rfl (by decide +kernel) rfl rfl (Nat.le_of_ble_eq_true rfl) dX11_form_104 (fun H locs c9 oq hS => ?_)
    have hI := jv_set hI c9 oq (by rw [g_j_tape]; exact jv_c8 ⟨bytes_3, 0, rfl, g_bytes_3, ⟨by omega, by omega⟩⟩)
    have hO := hO.kept (oq _ (kn_ne g_o g_j_tape (show (999 : Nat) ≠ 8 by decide)))
    have co_1 := co_1.kept (oq _ (kn_ne g_j_tongue g_j_tape (show (9 : Nat) ≠ 8 by decide)))
    have co_3 := c9
    clear oq c9
    refine lv_iload hx hb dX11_form_107 (lv_at hl 0 rfl) ?_
    refine W.widen (k := 2) (n := 24) (Nat.le_of_ble_eq_true rfl) (Nat.le_of_ble_eq_true rfl) ?_
    exact W.iret (v := kz (-1)) hx hb hr (fun t9 ht hW => ⟨⟨kz (-1), (X, st), rfl, ⟨hP, rfl⟩, jK_warm hW ⟨hK, hN⟩, by rw [ht]; exact ⟨hI, hO⟩⟩, hS.F ht⟩) hS.2.2 dX11_form_109
  · refine lv_iload_n hx hb dX11_form_12 rfl (lv_at hl 1 rfl) ?_
    refine vp_callSi (va_Run.run (va_runS (As := [.int (kz kd)]) (rest := []) ⟨hx, hb, hml, hown, hts⟩ (c_isKind l kd (by omega)) (va_cwS 1 hts gX11_form_X11_isKind rfl rfl rfl (by decide +kernel) ⟨Nat.le_of_ble_eq_true rfl, Nat.le_of_ble_eq_true rfl⟩) ⟨fun a U g mk q => q, fun U hU hW => ⟨rfl, trivial⟩⟩ rfl rfl hl.1 rfl (lv_room (Nat.le_of_ble_eq_true rfl)) dX11_form_13 ⟨Nat.le_of_ble_eq_true rfl, Nat.le_of_ble_eq_true rfl⟩)) (fun r_5 hw_4 => ?_)
    rcases hw_4 with ⟨rfl, hw_4⟩ | ⟨rfl, hw_4⟩
    · refine iz_eqz (tgt := 63) hx hb dX11_form_16 (by decide) (by unfold rg2; omega) (fun q9 => absurd q9 (by decide)) (fun _ => ?_)
      refine lv_iload_n hx hb dX11_form_19 rfl (lv_at hl 2 rfl) ?_
      refine vp_callSi (va_Run.run (va_runS (As := [.int (kz st9)]) (rest := []) ⟨hx, hb, hml, hown, hts⟩ (c_isStem l st9 (by omega)) (va_cwS 1 hts gX11_form_X11_isStem rfl rfl rfl (by decide +kernel) ⟨Nat.le_of_ble_eq_true rfl, Nat.le_of_ble_eq_true rfl⟩) ⟨fun a U g mk q => q, fun U hU hW => ⟨rfl, trivial⟩⟩ rfl rfl hl.1 rfl (lv_room (Nat.le_of_ble_eq_true rfl)) dX11_form_20 ⟨Nat.le_of_ble_eq_true rfl, Nat.le_of_ble_eq_true rfl⟩)) (fun r_7 hw_6 => ?_)
      rcases hw_6 with ⟨rfl, hw_6⟩ | ⟨rfl, hw_6⟩
      · refine iz_eqz (tgt := 63) hx hb dX11_form_23 (by decide) (by unfold rg2; omega) (fun q9 => absurd q9 (by decide)) (fun _ => ?_)
        refine lv_iload_n hx hb dX11_form_26 rfl (lv_at hl 3 rfl) ?_
        refine vp_callSi (va_Run.run (va_runS (As := [.int (kz co)]) (rest := []) ⟨hx, hb, hml, hown, hts⟩ (c_isCost l co (by omega)) (va_cwS 1 hts gX11_form_X11_isCost rfl rfl rfl (by decide +kernel) ⟨Nat.le_of_ble_eq_true rfl, Nat.le_of_ble_eq_true rfl⟩) ⟨fun a U g mk q => q, fun U hU hW => ⟨rfl, trivial⟩⟩ rfl rfl hl.1 rfl (lv_room (Nat.le_of_ble_eq_true rfl)) dX11_form_27 ⟨Nat.le_of_ble_eq_true rfl, Nat.le_of_ble_eq_true rfl⟩)) (fun r_9 hw_8 => ?_)
        rcases hw_8 with ⟨rfl, hw_8⟩ | ⟨rfl, hw_8⟩
        · refine iz_eqz (tgt := 63) hx hb dX11_form_30 (by decide) (by unfold rg2; omega) (fun q9 => absurd q9 (by decide)) (fun _ => ?_)
          refine lv_aload_n hx hb dX11_form_33 rfl (lv_at hl 0 rfl) ?_
          refine iz_get (D := (dC, dI)) (ci := 11) (v := .ref j_tape) (C := RX11) (T := TX11) (N := 7) hx hb hts hinX11 hown hK hO rfl 0 (by decide) hL12 (fun _ h9 => h9) rfl dX11_form_34 ?_
          obtain ⟨fs9, co_10, jo9⟩ := jv_o8 hI g_j_tape
          obtain ⟨bytes_10, size_10, rfl, g_bytes_10, ⟨size_10a, size_10b⟩⟩ := jo9
          refine iz_get (D := (dC, dI)) (ci := 8) (v := .int (kz size_10)) (C := RX8) (T := TX8) (N := 2) hx hb hts hinX8 hown hK co_10 rfl 1 (by decide) hL60 (fun _ h9 => h9) rfl dX11_form_37 ?_
          refine lv_iconst (v := kz 1) hx hb dX11_form_40 rfl ?_
          refine lv_bipush (v := kz 8) hx hb dX11_form_41 (by decide) ?_
          refine vp_callSi (va_Run.run (va_runS (As := [.int (kz size_10), .int (kz 1), .int (kz 8)]) (rest := []) ⟨hx, hb, hml, hown, hts⟩ (c_within l size_10 1 8 (by omega) (by omega) (by omega)) (va_cwS 3 hts gX11_form_X11_within rfl rfl rfl (by decide +kernel) ⟨Nat.le_of_ble_eq_true rfl, Nat.le_of_ble_eq_true rfl⟩) ⟨fun a U g mk q => q, fun U hU hW => ⟨rfl, trivial⟩⟩ rfl rfl hl.1 rfl (lv_room (Nat.le_of_ble_eq_true rfl)) dX11_form_43 ⟨Nat.le_of_ble_eq_true rfl, Nat.le_of_ble_eq_true rfl⟩)) (fun r_12 hw_11 => ?_)
          rcases hw_11 with ⟨rfl, hw_11⟩ | ⟨rfl, hw_11⟩
          · refine iz_eqz (tgt := 63) hx hb dX11_form_46 (by decide) (by unfold rg2; omega) (fun q9 => absurd q9 (by decide)) (fun _ => ?_)
            refine lv_aload_n hx hb dX11_form_49 rfl (lv_at hl 0 rfl) ?_
            refine iz_get (D := (dC, dI)) (ci := 11) (v := .ref j_tape) (C := RX11) (T := TX11) (N := 7) hx hb hts hinX11 hown hK hO rfl 0 (by decide) hL12 (fun _ h9 => h9) rfl dX11_form_50 ?_
            refine vp_callSi (va_Run.run (va_runV (As := []) (rest := []) ⟨hx, hb, hml, hown, hts⟩ (c_hasOnlyLetters l dC dI ca A X hU j_tape g_j_tape) (cwV 0 hts gX11_form_X8_hasOnlyLetters rfl rfl rfl (by decide +kernel) ⟨Nat.le_of_ble_eq_true rfl, Nat.le_of_ble_eq_true rfl⟩) ⟨fun a U g mk q => by obtain ⟨q0, ⟨qK, qN⟩, qI⟩ := q; exact ⟨q0, ⟨va_K.moved (u := U) (U := U.calling g mk a) (Vm.Alike.refl U.vm) qK, jN_same (U := U.calling g mk a) rfl qN⟩, qI⟩, va_recv hK (at_P co_10) (ci := 8) (q0 := 0) rfl rfl, fun U hU hW => ⟨rfl, jK_warm hW ⟨hK, hN⟩, by rw [hU]; exact hI⟩⟩ rfl rfl hl.1 rfl (lv_room (Nat.le_of_ble_eq_true rfl)) dX11_form_53 ⟨Nat.le_of_ble_eq_true rfl, Nat.le_of_ble_eq_true rfl⟩)) (fun r_14 hw_13 => ?_)
            rcases hw_13 with rfl | rfl
            · refine iz_eqz (tgt := 63) hx hb dX11_form_56 (by decide) (by unfold rg2; omega) (fun q9 => absurd q9 (by decide)) (fun _ => ?_)
              refine lv_iconst (v := kz 1) hx hb dX11_form_59 rfl ?_
              refine lv_goto (tgt := 64) hx hb dX11_form_60 (by decide) ?_
              refine lv_istore (lv' := [(5, .int (kz 1)), (0, .ref o), (1, .int (kz kd)), (2, .int (kz st9)), (3, .int (kz co)), (4, .int (kz kp))]) hx hb dX11_form_64 hl (by decide) rfl (fun ls hl => ?_)
              refine lv_iconst (v := kz (-1)) hx hb dX11_form_66 rfl ?_
              refine lv_istore (lv' := [(6, .int (kz (-1))), (5, .int (kz 1)), (0, .ref o), (1, .int (kz kd)), (2, .int (kz st9)), (3, .int (kz co)), (4, .int (kz kp))]) hx hb dX11_form_67 hl (by decide) rfl (fun ls hl => ?_)
              refine lv_iload hx hb dX11_form_69 (lv_at hl 1 rfl) ?_
              refine iz_eqz (tgt := 99) hx hb dX11_form_71 (by decide) (by unfold rg2; omega) (fun q9 => absurd q9 (by decide)) (fun _ => ?_)
              refine lv_aload_n hx hb dX11_form_74 rfl (lv_at hl 2 rfl) ?_
              refine iz_get (D := (dC, dI)) (ci := 11) (v := .ref j_tongue) (C := RX11) (T := TX11) (N := 7) hx hb hts hinX11 hown hK hO rfl 1 (by decide) hL19 (fun _ h9 => h9) rfl dX11_form_75 ?_
              have hzH : n0 ≤ H.size := by have h8 := hS.1; omega
              refine jz_new (ci := 2) (fs := [.null, .int (kz 0), .int (kz 0), .int (kz 0), .int (kz 0), .int (kz 0), .int (kz 0), .int (kz 0)]) (C := RX2) (T := TX2) (N := 8) hx hb hts (by decide +kernel) tyX2 tyX2_ok hown (hts (.classLink RX11 83 RX2) (by decide +kernel)) (hts (.instantiable RX2 8) (by decide +kernel)) (hts (.initialized RX2) (by decide +kernel)) hK hS rfl (fun j hj => by rcases (show j = 0 ∨ j = 1 ∨ j = 2 ∨ j = 3 ∨ j = 4 ∨ j = 5 ∨ j = 6 ∨ j = 7 by omega) with rfl | rfl | rfl | rfl | rfl | rfl | rfl | rfl <;> rfl) (Nat.le_of_ble_eq_true rfl) (Nat.le_of_ble_eq_true rfl) dX11_form_78 (fun x_15 H hx9 c_x_15 oq hz9 hS => ?_)
              have h0_x_15 : (X.1 x_15).2.1 = 0 := jv_out hI (by omega)
              have hge_x_15 : n0 ≤ x_15 := by omega
              have hne_x_15_o : x_15 ≠ o := by have h9 := hO.lt; omega
              have hO := hO.kept (oq _ hO.lt)
              have co_10 := co_10.kept (oq _ co_10.lt)
              have hI := jv_keep hI (fun q hq => oq q (jv_lt hI hq))
              clear oq hz9 hx9
              refine lv_dup hx hb dX11_form_81 rfl ?_
              refine lv_aload_n hx hb dX11_form_82 rfl (lv_at hl 2 rfl) ?_
              refine iz_get (D := (dC, dI)) (ci := 11) (v := .ref j_tape) (C := RX11) (T := TX11) (N := 7) hx hb hts hinX11 hown hK hO rfl 0 (by decide) hL12 (fun _ h9 => h9) rfl dX11_form_83 ?_
              refine lv_iload_n hx hb dX11_form_86 rfl (lv_at hl 3 rfl) ?_
              refine lv_iload_n hx hb dX11_form_87 rfl (lv_at hl 4 rfl) ?_
              refine lv_iload_n hx hb dX11_form_88 rfl (lv_at hl 5 rfl) ?_
              refine lv_iload hx hb dX11_form_89 (lv_at hl 6 rfl) ?_
              have hzH : n0 ≤ H.size := by have h8 := hS.1; omega
              have hxl := c_x_15.lt
              have hIA := hI
              refine va_callv (va_runI (As := [.ref j_tape, .int (kz kd), .int (kz st9), .int (kz co), .int (kz kp)]) (rest := [.ref x_15, .ref j_tongue]) ⟨hx, hb, hml, hown, hts⟩ (k_Form l dC dI ca X hU x_15 H.size j_tape kd st9 co kp bytes_10 size_10 h0_x_15 g_j_tape g_bytes_10 (by omega) hkp) (cwI 5 hts gX11_form_X2_init rfl rfl rfl (hts (.initialized RX2) (by decide +kernel)) (hts (.methodLink RX11 85 yX2_init) (by decide +kernel)) (hts (.instanceMethod yX2_init) (by decide +kernel)) rfl (by decide +kernel) ⟨Nat.le_of_ble_eq_true rfl, Nat.le_of_ble_eq_true rfl⟩) ⟨fun a U g mk q => by obtain ⟨q0, q1, ⟨qK, qN⟩, qI⟩ := q; exact ⟨q0, q1, ⟨va_K.moved (u := U) (U := U.calling g mk a) (Vm.Alike.refl U.vm) qK, jN_same (U := U.calling g mk a) rfl qN⟩, qI⟩, fun U hU9 hW => ⟨rfl, by rw [hU9], jK_warm hW ⟨hK, hN⟩, by rw [hU9]; exact ⟨jv_A2 hI (fun _ _ => trivial), c_x_15, co_10⟩⟩⟩ rfl rfl hl.1 rfl (lv_room (Nat.le_of_ble_eq_true rfl)) dX11_form_91 ⟨(Nat.le_of_ble_eq_true rfl), (Nat.le_of_ble_eq_true rfl)⟩) hS (fun q h8 h9 => h9.elim (fun e9 => by rw [e9]; exact (hA _ hge_x_15)) (fun e9 => absurd e9 (by omega))) (fun q h9 => h9.elim (fun e9 => by rw [e9]; exact (hA _ hge_x_15)) (fun e9 => hA q (by omega))) (fun X t9 H locs ht hvm hw_16 hB hz1 hk1 hS => ?_)
              obtain ⟨hw_16, hw_16g, hU⟩ := hw_16
              obtain ⟨-, hI, lt_x_15, g_lt_x_15, c_x_15⟩ := hB
              rw [ht] at hI c_x_15
              clear ht hvm
              have hI := jv_A2 hI (nw_A hIA hw_16 (hA _ hge_x_15) (fun q h8 => hA q (Nat.le_trans hzH h8)))
              clear hIA
              have hle9 := nw_le hw_16
              have h9o := hO.lt
              have hO := hO.kept (hk1 _ h9o (fun e9 => e9.elim (Ne.symm hne_x_15_o) (fun e8 => absurd e8 (by omega))))
              have g_o : X.1 o = (999, 0, 0, 0, 0) := (nw_eq hw_16 (Ne.symm hne_x_15_o) h9o).trans g_o
              have h9 := co_10.lt
              have co_10 := co_10.kept (hk1 _ h9 (fun e9 => e9.elim (kn_ne0 g_j_tape h0_x_15 (show (30 : Nat) ≠ 0 by decide)) (fun e8 => absurd e8 (by omega))))
              have hP := prl_nw hP hw_16 hU ((Ne.symm hne_x_15_o)) h9o (by intro t ht; simp at ht; subst ht; show (201 : Nat) ∈ [2, 201, 7, 202, 237, 238]; decide)
              have h0_x_15 := hw_16g
              have g_j_tongue := le_t hle9 g_j_tongue (show (30 : Nat) ≠ 0 by decide)
              have g_j_tape := le_t hle9 g_j_tape (show (30 : Nat) ≠ 0 by decide)
              have g_j_row := le_t hle9 g_j_row (show (30 : Nat) ≠ 0 by decide)
              have g_j_trees := le_t hle9 g_j_trees (show (30 : Nat) ≠ 0 by decide)
              have g_j_choices := le_t hle9 g_j_choices (show (30 : Nat) ≠ 0 by decide)
              have g_bytes_10 := le_t hle9 g_bytes_10 (show (21 : Nat) ≠ 0 by decide)
              have hpv := fun b q => le_t hle9 (hpv b q) (show (30 : Nat) ≠ 0 by decide)
              clear hle9 hxl hk1 hz1
              obtain ⟨fs9, co_17, jo9⟩ := jv_o9 hI g_j_tongue
              obtain ⟨forms_17, rules_17, formCount_17, ruleCount_17, forbidden_17, rfl, g_forms_17, g_rules_17, ⟨formCount_17a, formCount_17b⟩, ⟨ruleCount_17a, ruleCount_17b⟩, g_forbidden_17, x_17_0, x_17_1, x_17_2⟩ := jo9
              refine va_calli (va_runV (As := [.ref x_15]) (rest := []) ⟨hx, hb, hml, hown, hts⟩ (c_addForm l dC dI ca A X hU H j_tongue forms_17 rules_17 forbidden_17 formCount_17 ruleCount_17 x_15 lt_x_15 o kd st9 kp co (Int.toNat size_10) g_j_tongue g_forms_17 g_rules_17 g_forbidden_17 (by omega) (by omega) x_17_0 x_17_1 x_17_2 h0_x_15 (hA _ hge_x_15) g_o hne_x_15_o g_lt_x_15 (by omega) (by omega) (by omega) (by omega) (by omega)) (cwV 1 hts gX11_form_X9_addForm rfl rfl rfl (by decide +kernel) ⟨Nat.le_of_ble_eq_true rfl, Nat.le_of_ble_eq_true rfl⟩) ⟨fun a U g mk q => by obtain ⟨q0, qH, ⟨qK, qN⟩, qI⟩ := q; exact ⟨q0, qH, ⟨va_K.moved (u := U) (U := U.calling g mk a) (Vm.Alike.refl U.vm) qK, jN_same (U := U.calling g mk a) rfl qN⟩, qI⟩, va_recv hK (at_P co_17) (ci := 9) (q0 := 0) rfl rfl, fun U hU9 hW => ⟨rfl, hU9, jK_warm hW ⟨hK, hN⟩, by rw [hU9]; exact ⟨hI, co_17, c_x_15⟩⟩⟩ rfl rfl hl.1 rfl (lv_room (Nat.le_of_ble_eq_true rfl)) dX11_form_94 ⟨Nat.le_of_ble_eq_true rfl, Nat.le_of_ble_eq_true rfl⟩) hS (fun q _ h => h) (fun q h => h) (fun r_19 X t9 H locs ht hvm hw_18 hB hz1 hk1 hS => ?_)
              obtain ⟨-, hI, hFo⟩ := hB
              rw [ht] at hI hFo
              clear ht hvm hz1 hk1
              have hO := hO.kept hFo
              have hP := prl_af hP hw_18 h0_x_15 hne_x_15_o (by decide)
              have g_j_tape := af_t hw_18 h0_x_15 g_j_tape (show (30 : Nat) ≠ 0 by decide)
              have g_j_tongue := af_t hw_18 h0_x_15 g_j_tongue (show (30 : Nat) ≠ 0 by decide)
              have g_j_row := af_t hw_18 h0_x_15 g_j_row (show (30 : Nat) ≠ 0 by decide)
              have g_j_trees := af_t hw_18 h0_x_15 g_j_trees (show (30 : Nat) ≠ 0 by decide)
              have g_j_choices := af_t hw_18 h0_x_15 g_j_choices (show (30 : Nat) ≠ 0 by decide)
              have g_o : X.1 o = (999, 0, 0, 0, 0) := (af_o hw_18 (Ne.symm hne_x_15_o)).trans g_o
              have hU := hw_18.1
              have hpv := fun b q => af_t hw_18 h0_x_15 (hpv b q) (show (30 : Nat) ≠ 0 by decide)
              obtain ⟨z_20, z_20a, z_20b, rfl⟩ := kz_ex r_19
              refine lv_istore (lv' := [(6, .int (kz z_20)), (5, .int (kz 1)), (0, .ref o), (1, .int (kz kd)), (2, .int (kz st9)), (3, .int (kz co)), (4, .int (kz kp))]) hx hb dX11_form_97 hl (by decide) rfl (fun ls hl => ?_)
              refine lv_aload_n hx hb dX11_form_99 rfl (lv_at hl 2 rfl) ?_
              refine iz_get (D := (dC, dI)) (ci := 11) (v := .ref j_tape) (C := RX11) (T := TX11) (N := 7) hx hb hts hinX11 hown hK hO rfl 0 (by decide) hL12 (fun _ h9 => h9) rfl dX11_form_100 ?_
              refine lv_iconst (v := kz 0) hx hb dX11_form_103 rfl ?_
              obtain ⟨fs9, co_21, jo9⟩ := jv_o8 hI g_j_tape
              obtain ⟨bytes_21, size_21, rfl, g_bytes_21, ⟨size_21a, size_21b⟩⟩ := jo9
              refine iz_put (D := (dC, dI)) (ci := 8) (v := .int (kz 0)) (ty := .int) (C := RX8) (T := TX8) (N := 2) hx hb hts hinX8 tyX8 tyX8_ok nmX8 hown hK co_21 hS (jv_A hI g_j_tape (show (30 : Nat) ≠ 0 by decide)) rfl 1 (by decide) hL60 (fun _ h9 => h9) rfl (by decide +kernel) rfl rfl (Nat.le_of_ble_eq_true rfl) dX11_form_104 (fun H locs c9 oq hS => ?_)
              have hI := jv_set hI c9 oq (by rw [g_j_tape]; exact jv_c8 ⟨bytes_21, 0, rfl, g_bytes_21, ⟨by omega, by omega⟩⟩)
              have hO := hO.kept (oq _ (kn_ne g_o g_j_tape (show (999 : Nat) ≠ 8 by decide)))
              have co_21 := c9
              clear oq c9
              refine lv_iload hx hb dX11_form_107 (lv_at hl 0 rfl) ?_
              refine W.widen (k := 2) (n := 24) (Nat.le_of_ble_eq_true rfl) (Nat.le_of_ble_eq_true rfl) ?_
              exact W.iret (v := kz z_20) hx hb hr (fun t9 ht hW => ⟨⟨kz z_20, (X, st), rfl, ⟨hP, rfl⟩, jK_warm hW ⟨hK, hN⟩, by rw [ht]; exact ⟨hI, hO⟩⟩, hS.F ht⟩) hS.2.2 dX11_form_109
            · refine iz_eqz (tgt := 63) hx hb dX11_form_56 (by decide) (by unfold rg2; omega) (fun _ => ?_) (fun q9 => absurd q9 (by decide))
              refine lv_iconst (v := kz 0) hx hb dX11_form_63 rfl ?_
              refine lv_istore (lv' := [(5, .int (kz 0)), (0, .ref o), (1, .int (kz kd)), (2, .int (kz st9)), (3, .int (kz co)), (4, .int (kz kp))]) hx hb dX11_form_64 hl (by decide) rfl (fun ls hl => ?_)
              refine lv_iconst (v := kz (-1)) hx hb dX11_form_66 rfl ?_
              refine lv_istore (lv' := [(6, .int (kz (-1))), (5, .int (kz 0)), (0, .ref o), (1, .int (kz kd)), (2, .int (kz st9)), (3, .int (kz co)), (4, .int (kz kp))]) hx hb dX11_form_67 hl (by decide) rfl (fun ls hl => ?_)
              refine lv_iload hx hb dX11_form_69 (lv_at hl 1 rfl) ?_
              refine iz_eqz (tgt := 99) hx hb dX11_form_71 (by decide) (by unfold rg2; omega) (fun _ => ?_) (fun q9 => absurd q9 (by decide))
              refine lv_aload_n hx hb dX11_form_99 rfl (lv_at hl 2 rfl) ?_
              refine iz_get (D := (dC, dI)) (ci := 11) (v := .ref j_tape) (C := RX11) (T := TX11) (N := 7) hx hb hts hinX11 hown hK hO rfl 0 (by decide) hL12 (fun _ h9 => h9) rfl dX11_form_100 ?_
              refine lv_iconst (v := kz 0) hx hb dX11_form_103 rfl ?_
              refine iz_put (D := (dC, dI)) (ci := 8) (v := .int (kz 0)) (ty := .int) (C := RX8) (T := TX8) (N := 2) hx hb hts hinX8 tyX8 tyX8_ok nmX8 hown hK co_10 hS (jv_A hI g_j_tape (show (30 : Nat) ≠ 0 by decide)) rfl 1 (by decide) hL60 (fun _ h9 => h9) rfl (by decide +kernel) rfl rfl (Nat.le_of_ble_eq_true rfl) dX11_form_104 (fun H locs c9 oq hS => ?_)
              have hI := jv_set hI c9 oq (by rw [g_j_tape]; exact jv_c8 ⟨bytes_10, 0, rfl, g_bytes_10, ⟨by omega, by omega⟩⟩)
              have hO := hO.kept (oq _ (kn_ne g_o g_j_tape (show (999 : Nat) ≠ 8 by decide)))
              have co_1 := co_1.kept (oq _ (kn_ne g_j_tongue g_j_tape (show (9 : Nat) ≠ 8 by decide)))
              have co_10 := c9
              clear oq c9
              refine lv_iload hx hb dX11_form_107 (lv_at hl 0 rfl) ?_
              refine W.widen (k := 2) (n := 24) (Nat.le_of_ble_eq_true rfl) (Nat.le_of_ble_eq_true rfl) ?_
              exact W.iret (v := kz (-1)) hx hb hr (fun t9 ht hW => ⟨⟨kz (-1), (X, st), rfl, ⟨hP, rfl⟩, jK_warm hW ⟨hK, hN⟩, by rw [ht]; exact ⟨hI, hO⟩⟩, hS.F ht⟩) hS.2.2 dX11_form_109
          · refine iz_eqz (tgt := 63) hx hb dX11_form_46 (by decide) (by unfold rg2; omega) (fun _ => ?_) (fun q9 => absurd q9 (by decide))
            refine lv_iconst (v := kz 0) hx hb dX11_form_63 rfl ?_
            refine lv_istore (lv' := [(5, .int (kz 0)), (0, .ref o), (1, .int (kz kd)), (2, .int (kz st9)), (3, .int (kz co)), (4, .int (kz kp))]) hx hb dX11_form_64 hl (by decide) rfl (fun ls hl => ?_)
            refine lv_iconst (v := kz (-1)) hx hb dX11_form_66 rfl ?_
            refine lv_istore (lv' := [(6, .int (kz (-1))), (5, .int (kz 0)), (0, .ref o), (1, .int (kz kd)), (2, .int (kz st9)), (3, .int (kz co)), (4, .int (kz kp))]) hx hb dX11_form_67 hl (by decide) rfl (fun ls hl => ?_)
            refine lv_iload hx hb dX11_form_69 (lv_at hl 1 rfl) ?_
            refine iz_eqz (tgt := 99) hx hb dX11_form_71 (by decide) (by unfold rg2; omega) (fun _ => ?_) (fun q9 => absurd q9 (by decide))
            refine lv_aload_n hx hb dX11_form_99 rfl (lv_at hl 2 rfl) ?_
            refine iz_get (D := (dC, dI)) (ci := 11) (v := .ref j_tape) (C := RX11) (T := TX11) (N := 7) hx hb hts hinX11 hown hK hO rfl 0 (by decide) hL12 (fun _ h9 => h9) rfl dX11_form_100 ?_
            refine lv_iconst (v := kz 0) hx hb dX11_form_103 rfl ?_
            refine iz_put (D := (dC, dI)) (ci := 8) (v := .int (kz 0)) (ty := .int) (C := RX8) (T := TX8) (N := 2) hx hb hts hinX8 tyX8 tyX8_ok nmX8 hown hK co_10 hS (jv_A hI g_j_tape (show (30 : Nat) ≠ 0 by decide)) rfl 1 (by decide) hL60 (fun _ h9 => h9) rfl (by decide +kernel) rfl rfl (Nat.le_of_ble_eq_true rfl) dX11_form_104 (fun H locs c9 oq hS => ?_)
            have hI := jv_set hI c9 oq (by rw [g_j_tape]; exact jv_c8 ⟨bytes_10, 0, rfl, g_bytes_10, ⟨by omega, by omega⟩⟩)
            have hO := hO.kept (oq _ (kn_ne g_o g_j_tape (show (999 : Nat) ≠ 8 by decide)))
            have co_1 := co_1.kept (oq _ (kn_ne g_j_tongue g_j_tape (show (9 : Nat) ≠ 8 by decide)))
            have co_10 := c9
            clear oq c9
            refine lv_iload hx hb dX11_form_107 (lv_at hl 0 rfl) ?_
            refine W.widen (k := 2) (n := 24) (Nat.le_of_ble_eq_true rfl) (Nat.le_of_ble_eq_true rfl) ?_
            exact W.iret (v := kz (-1)) hx hb hr (fun t9 ht hW => ⟨⟨kz (-1), (X, st), rfl, ⟨hP, rfl⟩, jK_warm hW ⟨hK, hN⟩, by rw [ht]; exact ⟨hI, hO⟩⟩, hS.F ht⟩) hS.2.2 dX11_form_109
        · refine iz_eqz (tgt := 63) hx hb dX11_form_30 (by decide) (by unfold rg2; omega) (fun _ => ?_) (fun q9 => absurd q9 (by decide))
          refine lv_iconst (v := kz 0) hx hb dX11_form_63 rfl ?_
          refine lv_istore (lv' := [(5, .int (kz 0)), (0, .ref o), (1, .int (kz kd)), (2, .int (kz st9)), (3, .int (kz co)), (4, .int (kz kp))]) hx hb dX11_form_64 hl (by decide) rfl (fun ls hl => ?_)
          refine lv_iconst (v := kz (-1)) hx hb dX11_form_66 rfl ?_
          refine lv_istore (lv' := [(6, .int (kz (-1))), (5, .int (kz 0)), (0, .ref o), (1, .int (kz kd)), (2, .int (kz st9)), (3, .int (kz co)), (4, .int (kz kp))]) hx hb dX11_form_67 hl (by decide) rfl (fun ls hl => ?_)
          refine lv_iload hx hb dX11_form_69 (lv_at hl 1 rfl) ?_
          refine iz_eqz (tgt := 99) hx hb dX11_form_71 (by decide) (by unfold rg2; omega) (fun _ => ?_) (fun q9 => absurd q9 (by decide))
          refine lv_aload_n hx hb dX11_form_99 rfl (lv_at hl 2 rfl) ?_
          refine iz_get (D := (dC, dI)) (ci := 11) (v := .ref j_tape) (C := RX11) (T := TX11) (N := 7) hx hb hts hinX11 hown hK hO rfl 0 (by decide) hL12 (fun _ h9 => h9) rfl dX11_form_100 ?_
          refine lv_iconst (v := kz 0) hx hb dX11_form_103 rfl ?_
          obtain ⟨fs9, co_22, jo9⟩ := jv_o8 hI g_j_tape
          obtain ⟨bytes_22, size_22, rfl, g_bytes_22, ⟨size_22a, size_22b⟩⟩ := jo9
          refine iz_put (D := (dC, dI)) (ci := 8) (v := .int (kz 0)) (ty := .int) (C := RX8) (T := TX8) (N := 2) hx hb hts hinX8 tyX8 tyX8_ok nmX8 hown hK co_22 hS (jv_A hI g_j_tape (show (30 : Nat) ≠ 0 by decide)) rfl 1 (by decide) hL60 (fun _ h9 => h9) rfl (by decide +kernel) rfl rfl (Nat.le_of_ble_eq_true rfl) dX11_form_104 (fun H locs c9 oq hS => ?_)
          have hI := jv_set hI c9 oq (by rw [g_j_tape]; exact jv_c8 ⟨bytes_22, 0, rfl, g_bytes_22, ⟨by omega, by omega⟩⟩)
          have hO := hO.kept (oq _ (kn_ne g_o g_j_tape (show (999 : Nat) ≠ 8 by decide)))
          have co_1 := co_1.kept (oq _ (kn_ne g_j_tongue g_j_tape (show (9 : Nat) ≠ 8 by decide)))
          have co_22 := c9
          clear oq c9
          refine lv_iload hx hb dX11_form_107 (lv_at hl 0 rfl) ?_
          refine W.widen (k := 2) (n := 24) (Nat.le_of_ble_eq_true rfl) (Nat.le_of_ble_eq_true rfl) ?_
          exact W.iret (v := kz (-1)) hx hb hr (fun t9 ht hW => ⟨⟨kz (-1), (X, st), rfl, ⟨hP, rfl⟩, jK_warm hW ⟨hK, hN⟩, by rw [ht]; exact ⟨hI, hO⟩⟩, hS.F ht⟩) hS.2.2 dX11_form_109
      · refine iz_eqz (tgt := 63) hx hb dX11_form_23 (by decide) (by unfold rg2; omega) (fun _ => ?_) (fun q9 => absurd q9 (by decide))
        refine lv_iconst (v := kz 0) hx hb dX11_form_63 rfl ?_
        refine lv_istore (lv' := [(5, .int (kz 0)), (0, .ref o), (1, .int (kz kd)), (2, .int (kz st9)), (3, .int (kz co)), (4, .int (kz kp))]) hx hb dX11_form_64 hl (by decide) rfl (fun ls hl => ?_)
        refine lv_iconst (v := kz (-1)) hx hb dX11_form_66 rfl ?_
        refine lv_istore (lv' := [(6, .int (kz (-1))), (5, .int (kz 0)), (0, .ref o), (1, .int (kz kd)), (2, .int (kz st9)), (3, .int (kz co)), (4, .int (kz kp))]) hx hb dX11_form_67 hl (by decide) rfl (fun ls hl => ?_)
        refine lv_iload hx hb dX11_form_69 (lv_at hl 1 rfl) ?_
        refine iz_eqz (tgt := 99) hx hb dX11_form_71 (by decide) (by unfold rg2; omega) (fun _ => ?_) (fun q9 => absurd q9 (by decide))
        refine lv_aload_n hx hb dX11_form_99 rfl (lv_at hl 2 rfl) ?_
        refine iz_get (D := (dC, dI)) (ci := 11) (v := .ref j_tape) (C := RX11) (T := TX11) (N := 7) hx hb hts hinX11 hown hK hO rfl 0 (by decide) hL12 (fun _ h9 => h9) rfl dX11_form_100 ?_
        refine lv_iconst (v := kz 0) hx hb dX11_form_103 rfl ?_
        obtain ⟨fs9, co_23, jo9⟩ := jv_o8 hI g_j_tape
        obtain ⟨bytes_23, size_23, rfl, g_bytes_23, ⟨size_23a, size_23b⟩⟩ := jo9
        refine iz_put (D := (dC, dI)) (ci := 8) (v := .int (kz 0)) (ty := .int) (C := RX8) (T := TX8) (N := 2) hx hb hts hinX8 tyX8 tyX8_ok nmX8 hown hK co_23 hS (jv_A hI g_j_tape (show (30 : Nat) ≠ 0 by decide)) rfl 1 (by decide) hL60 (fun _ h9 => h9) rfl (by decide +kernel) rfl rfl (Nat.le_of_ble_eq_true rfl) dX11_form_104 (fun H locs c9 oq hS => ?_)
        have hI := jv_set hI c9 oq (by rw [g_j_tape]; exact jv_c8 ⟨bytes_23, 0, rfl, g_bytes_23, ⟨by omega, by omega⟩⟩)
        have hO := hO.kept (oq _ (kn_ne g_o g_j_tape (show (999 : Nat) ≠ 8 by decide)))
        have co_1 := co_1.kept (oq _ (kn_ne g_j_tongue g_j_tape (show (9 : Nat) ≠ 8 by decide)))
        have co_23 := c9
        clear oq c9
        refine lv_iload hx hb dX11_form_107 (lv_at hl 0 rfl) ?_
        refine W.widen (k := 2) (n := 24) (Nat.le_of_ble_eq_true rfl) (Nat.le_of_ble_eq_true rfl) ?_
        exact W.iret (v := kz (-1)) hx hb hr (fun t9 ht hW => ⟨⟨kz (-1), (X, st), rfl, ⟨hP, rfl⟩, jK_warm hW ⟨hK, hN⟩, by rw [ht]; exact ⟨hI, hO⟩⟩, hS.F ht⟩) hS.2.2 dX11_form_109
    · refine iz_eqz (tgt := 63) hx hb dX11_form_16 (by decide) (by unfold rg2; omega) (fun _ => ?_) (fun q9 => absurd q9 (by decide))
      refine lv_iconst (v := kz 0) hx hb dX11_form_63 rfl ?_
      refine lv_istore (lv' := [(5, .int (kz 0)), (0, .ref o), (1, .int (kz kd)), (2, .int (kz st9)), (3, .int (kz co)), (4, .int (kz kp))]) hx hb dX11_form_64 hl (by decide) rfl (fun ls hl => ?_)
      refine lv_iconst (v := kz (-1)) hx hb dX11_form_66 rfl ?_
      refine lv_istore (lv' := [(6, .int (kz (-1))), (5, .int (kz 0)), (0, .ref o), (1, .int (kz kd)), (2, .int (kz st9)), (3, .int (kz co)), (4, .int (kz kp))]) hx hb dX11_form_67 hl (by decide) rfl (fun ls hl => ?_)
      refine lv_iload hx hb dX11_form_69 (lv_at hl 1 rfl) ?_
      refine iz_eqz (tgt := 99) hx hb dX11_form_71 (by decide) (by unfold rg2; omega) (fun _ => ?_) (fun q9 => absurd q9 (by decide))
      refine lv_aload_n hx hb dX11_form_99 rfl (lv_at hl 2 rfl) ?_
      refine iz_get (D := (dC, dI)) (ci := 11) (v := .ref j_tape) (C := RX11) (T := TX11) (N := 7) hx hb hts hinX11 hown hK hO rfl 0 (by decide) hL12 (fun _ h9 => h9) rfl dX11_form_100 ?_
      refine lv_iconst (v := kz 0) hx hb dX11_form_103 rfl ?_
      obtain ⟨fs9, co_24, jo9⟩ := jv_o8 hI g_j_tape
      obtain ⟨bytes_24, size_24, rfl, g_bytes_24, ⟨size_24a, size_24b⟩⟩ := jo9
      refine iz_put (D := (dC, dI)) (ci := 8) (v := .int (kz 0)) (ty := .int) (C := RX8) (T := TX8) (N := 2) hx hb hts hinX8 tyX8 tyX8_ok nmX8 hown hK co_24 hS (jv_A hI g_j_tape (show (30 : Nat) ≠ 0 by decide)) rfl 1 (by decide) hL60 (fun _ h9 => h9) rfl (by decide +kernel) rfl rfl (Nat.le_of_ble_eq_true rfl) dX11_form_104 (fun H locs c9 oq hS => ?_)
      have hI := jv_set hI c9 oq (by rw [g_j_tape]; exact jv_c8 ⟨bytes_24, 0, rfl, g_bytes_24, ⟨by omega, by omega⟩⟩)
      have hO := hO.kept (oq _ (kn_ne g_o g_j_tape (show (999 : Nat) ≠ 8 by decide)))
      have co_1 := co_1.kept (oq _ (kn_ne g_j_tongue g_j_tape (show (9 : Nat) ≠ 8 by decide)))
      have co_24 := c9
      clear oq c9
      refine lv_iload hx hb dX11_form_107 (lv_at hl 0 rfl) ?_
      refine W.widen (k := 2) (n := 24) (Nat.le_of_ble_eq_true rfl) (Nat.le_of_ble_eq_true rfl) ?_
      exact W.iret (v := kz (-1)) hx hb hr (fun t9 ht hW => ⟨⟨kz (-1), (X, st), rfl, ⟨hP, rfl⟩, jK_warm hW ⟨hK, hN⟩, by rw [ht]; exact ⟨hI, hO⟩⟩, hS.F ht⟩) hS.2.2 dX11_form_109
set_option maxHeartbeats 4000000 in
set_option maxRecDepth 100000 in
/-- X11_rule -/
theorem j_rule (l : Launch) (dC : Nat → ClassId) (dI : Nat → Nat → Nat) (ca : Nat → ClassId) (A : Nat → Prop) (X : jG) (hU : jU X) (Hp : Heap) (o : Nat) (j_tape : Nat) (j_tongue : Nat) (j_row : Nat) (j_trees : Nat) (j_choices : Nat) (pv : Option Nat) (st : Int) (en : Int) (be : Int) (co : Int) (fd : Int) (ld : Int) (g_o : X.1 o = (999, 0, 0, 0, 0)) (hAo : A o) (g_j_tape : X.1 j_tape = (8, 30, 0, 0, 0)) (g_j_tongue : X.1 j_tongue = (9, 30, 0, 0, 0)) (g_j_row : X.1 j_row = (6, 30, 0, 0, 0)) (g_j_trees : X.1 j_trees = (10, 30, 0, 0, 0)) (g_j_choices : X.1 j_choices = (1, 30, 0, 0, 0)) (hpv : ∀ b : Nat, pv = some b → X.1 b = (4, 30, 0, 0, 0)) (hst : 0 ≤ st ∧ st ≤ 20) (enr : -2147483648 ≤ en ∧ en ≤ 2147483647) (ber : -2147483648 ≤ be ∧ be ≤ 2147483647) (cor : -2147483648 ≤ co ∧ co ≤ 2147483647) (fdr : -2147483648 ≤ fd ∧ fd ≤ 2147483647) (ldr : -2147483648 ≤ ld ∧ ld ≤ 2147483647) (hA9 : ∀ q : Nat, Hp.size ≤ q → A q) (ht9 : ∀ q : Nat, (X.1 q).2.1 ≠ 0 → (X.1 q).1 = 9 → q = j_tongue) : Met l yX11_rule wsX11_rule ({ frames := 4, cells := 2, slots := 25, locals := 92 }) (va_Pc [.ref o, .int (kz en), .int (kz be), .int (kz co), .int (kz fd), .int (kz ld)] (fun U => U.heap = Hp ∧ jK (dC, dI) ca U ∧ jv (dC, dI) ca A X U.heap ∧ va_at (dC, dI) vwCl (o, .inr (11, [.ref j_tape, .ref j_tongue, .ref j_row, .ref j_trees, .ref j_choices, va_rf pv, .int (kz st)])) U.heap)) (va_Qi (fun (r : Int32) (u : jG × Int) => prl X u.1 o [2, 201, 7, 202, 237, 238] ∧ u.2 = st) (fun (u : jG × Int) U => jK (dC, dI) ca U ∧ jv (dC, dI) ca A u.1 U.heap ∧ va_at (dC, dI) vwCl (o, .inr (11, [.ref j_tape, .ref j_tongue, .ref j_row, .ref j_trees, .ref j_choices, va_rf pv, .int (kz u.2)])) U.heap) A) 2 25 A := by
  refine Met.ofW (cc := cX11_rule) (maxL := 8) (ret := (some .int)) (by decide) rfl ?_
  intro p e s m args below meth c s₁ B hml hv
  obtain ⟨rfl, hHp, ⟨hK, hN⟩, hI, hO⟩ := hv
  have hx := B.exec
  have hb := B.bytes
  have hr := B.returns
  have hts := atoms_spec (ws := wsX11_rule) B.pre
  have hown : s.vm.findClass RX11 = some m.cls := findClass_of_methodNamed B.named
  have hL19 := hts (.fieldLink RX11 19 "JoinBench" "tongue" "LJoinBench$Tongue;") (by decide +kernel)
  have hL92 := hts (.fieldLink RX11 92 "JoinBench$Tongue" "ruleCount" "I") (by decide +kernel)
  have hL12 := hts (.fieldLink RX11 12 "JoinBench" "tape" "LJoinBench$Tape;") (by decide +kernel)
  have hL60 := hts (.fieldLink RX11 60 "JoinBench$Tape" "size" "I") (by decide +kernel)
  have hinX11 : ∀ w ∈ u_ws RX11 TX11 7, w ∈ wsX11_rule := by decide +kernel
  have hinX8 : ∀ w ∈ u_ws RX8 TX8 2, w ∈ wsX11_rule := by decide +kernel
  have hinX9 : ∀ w ∈ u_ws RX9 TX9 5, w ∈ wsX11_rule := by decide +kernel
  obtain ⟨H, hH⟩ : ∃ H : Heap, H = s.heap := ⟨_, rfl⟩
  have hS : va_S A s.heap H [] := by rw [hH]; exact va_S.rf
  have hF : kfm X [] Hp H := by rw [hH, hHp]; exact fm_rf _ _ _
  clear hF
  obtain ⟨n0, hn0⟩ : ∃ n9 : Nat, n9 = Hp.size := ⟨_, rfl⟩
  have hA : ∀ q : Nat, n0 ≤ q → A q := by rw [hn0]; exact hA9
  have hsz : s.heap.size = n0 := by rw [hn0, hHp]
  have hP := prl_rf o [2, 201, 7, 202, 237, 238] hU
  rw [← hH] at hI hO ⊢
  clear hH
  have hl := lv_entry ([.ref o, .int (kz en), .int (kz be), .int (kz co), .int (kz fd), .int (kz ld)]) (n := 8) (Nat.le_of_ble_eq_true rfl)
  rw [lg_entry_eq]
  generalize (lg_sl ([.ref o, .int (kz en), .int (kz be), .int (kz co), .int (kz fd), .int (kz ld)]) ++ List.replicate (8 - (lg_sl ([.ref o, .int (kz en), .int (kz be), .int (kz co), .int (kz fd), .int (kz ld)])).length) Slot.unset).toArray = ls at hl ⊢
  have hl : lv_has ls 8 [(0, .ref o), (1, .int (kz en)), (2, .int (kz be)), (3, .int (kz co)), (4, .int (kz fd)), (5, .int (kz ld))] := hl
  refine lv_aload_n hx hb dX11_rule_0 rfl (lv_at hl 0 rfl) ?_
  refine iz_get (D := (dC, dI)) (ci := 11) (v := .ref j_tongue) (C := RX11) (T := TX11) (N := 7) hx hb hts hinX11 hown hK hO rfl 1 (by decide) hL19 (fun _ h9 => h9) rfl dX11_rule_1 ?_
  obtain ⟨fs9, co_1, jo9⟩ := jv_o9 hI g_j_tongue
  obtain ⟨forms_1, rules_1, formCount_1, ruleCount_1, forbidden_1, rfl, g_forms_1, g_rules_1, ⟨formCount_1a, formCount_1b⟩, ⟨ruleCount_1a, ruleCount_1b⟩, g_forbidden_1, x_1_0, x_1_1, x_1_2⟩ := jo9
  refine iz_get (D := (dC, dI)) (ci := 9) (v := .int (kz ruleCount_1)) (C := RX9) (T := TX9) (N := 5) hx hb hts hinX9 hown hK co_1 rfl 3 (by decide) hL92 (fun _ h9 => h9) rfl dX11_rule_4 ?_
  refine lv_bipush (v := kz 24) hx hb dX11_rule_7 (by decide) ?_
  refine iz_ge (tgt := 99) hx hb dX11_rule_9 (by decide) (by unfold rg2; omega) (fun br_2 => ?_) (fun br_2 => ?_)
  · refine lv_iconst (v := kz 0) hx hb dX11_rule_99 rfl ?_
    refine lv_istore (lv' := [(6, .int (kz 0)), (0, .ref o), (1, .int (kz en)), (2, .int (kz be)), (3, .int (kz co)), (4, .int (kz fd)), (5, .int (kz ld))]) hx hb dX11_rule_100 hl (by decide) rfl (fun ls hl => ?_)
    refine lv_iconst (v := kz (-1)) hx hb dX11_rule_102 rfl ?_
    refine lv_istore (lv' := [(7, .int (kz (-1))), (6, .int (kz 0)), (0, .ref o), (1, .int (kz en)), (2, .int (kz be)), (3, .int (kz co)), (4, .int (kz fd)), (5, .int (kz ld))]) hx hb dX11_rule_103 hl (by decide) rfl (fun ls hl => ?_)
    refine lv_iload hx hb dX11_rule_105 (lv_at hl 1 rfl) ?_
    refine iz_eqz (tgt := 137) hx hb dX11_rule_107 (by decide) (by unfold rg2; omega) (fun _ => ?_) (fun q9 => absurd q9 (by decide))
    refine lv_aload_n hx hb dX11_rule_137 rfl (lv_at hl 2 rfl) ?_
    refine iz_get (D := (dC, dI)) (ci := 11) (v := .ref j_tape) (C := RX11) (T := TX11) (N := 7) hx hb hts hinX11 hown hK hO rfl 0 (by decide) hL12 (fun _ h9 => h9) rfl dX11_rule_138 ?_
    refine lv_iconst (v := kz 0) hx hb dX11_rule_141 rfl ?_
    obtain ⟨fs9, co_3, jo9⟩ := jv_o8 hI g_j_tape
    obtain ⟨bytes_3, size_3, rfl, g_bytes_3, ⟨size_3a, size_3b⟩⟩ := jo9
    refine iz_put (D := (dC, dI)) (ci := 8) (v := .int (kz 0)) (ty := .int) (C := RX8) (T := TX8) (N := 2) hx hb hts hinX8 tyX8 tyX8_ok nmX8 hown hK co_3 hS (jv_A hI g_j_tape (show (30 : Nat) ≠ 0 by decide)) rfl 1 (by decide) hL60 (fun _ h9 => h9) rfl (by decide +kernel) rfl rfl (Nat.le_of_ble_eq_true rfl) dX11_rule_142 (fun H locs c9 oq hS => ?_)
    have hI := jv_set hI c9 oq (by rw [g_j_tape]; exact jv_c8 ⟨bytes_3, 0, rfl, g_bytes_3, ⟨by omega, by omega⟩⟩)
    have hO := hO.kept (oq _ (kn_ne g_o g_j_tape (show (999 : Nat) ≠ 8 by decide)))
    have co_1 := co_1.kept (oq _ (kn_ne g_j_tongue g_j_tape (show (9 : Nat) ≠ 8 by decide)))
    have co_3 := c9
    clear oq c9
    refine lv_iload hx hb dX11_rule_145 (lv_at hl 0 rfl) ?_
    refine W.widen (k := 2) (n := 25) (Nat.le_of_ble_eq_true rfl) (Nat.le_of_ble_eq_true rfl) ?_
    exact W.iret (v := kz (-1)) hx hb hr (fun t9 ht hW => ⟨⟨kz (-1), (X, st), rfl, ⟨hP, rfl⟩, jK_warm hW ⟨hK, hN⟩, by rw [ht]; exact ⟨hI, hO⟩⟩, hS.F ht⟩) hS.2.2 dX11_rule_147
  · refine lv_iload_n hx hb dX11_rule_12 rfl (lv_at hl 1 rfl) ?_
    refine lv_iconst (v := kz 0) hx hb dX11_rule_13 rfl ?_
    refine lv_iconst (v := kz 3) hx hb dX11_rule_14 rfl ?_
    refine vp_callSi (va_Run.run (va_runS (As := [.int (kz en), .int (kz 0), .int (kz 3)]) (rest := []) ⟨hx, hb, hml, hown, hts⟩ (c_within l en 0 3 (by omega) (by omega) (by omega)) (va_cwS 3 hts gX11_rule_X11_within rfl rfl rfl (by decide +kernel) ⟨Nat.le_of_ble_eq_true rfl, Nat.le_of_ble_eq_true rfl⟩) ⟨fun a U g mk q => q, fun U hU hW => ⟨rfl, trivial⟩⟩ rfl rfl hl.1 rfl (lv_room (Nat.le_of_ble_eq_true rfl)) dX11_rule_15 ⟨Nat.le_of_ble_eq_true rfl, Nat.le_of_ble_eq_true rfl⟩)) (fun r_5 hw_4 => ?_)
    rcases hw_4 with ⟨rfl, hw_4⟩ | ⟨rfl, hw_4⟩
    · refine iz_eqz (tgt := 99) hx hb dX11_rule_18 (by decide) (by unfold rg2; omega) (fun q9 => absurd q9 (by decide)) (fun _ => ?_)
      refine lv_iload_n hx hb dX11_rule_21 rfl (lv_at hl 2 rfl) ?_
      refine lv_iconst (v := kz 0) hx hb dX11_rule_22 rfl ?_
      refine lv_iconst (v := kz 3) hx hb dX11_rule_23 rfl ?_
      refine vp_callSi (va_Run.run (va_runS (As := [.int (kz be), .int (kz 0), .int (kz 3)]) (rest := []) ⟨hx, hb, hml, hown, hts⟩ (c_within l be 0 3 (by omega) (by omega) (by omega)) (va_cwS 3 hts gX11_rule_X11_within rfl rfl rfl (by decide +kernel) ⟨Nat.le_of_ble_eq_true rfl, Nat.le_of_ble_eq_true rfl⟩) ⟨fun a U g mk q => q, fun U hU hW => ⟨rfl, trivial⟩⟩ rfl rfl hl.1 rfl (lv_room (Nat.le_of_ble_eq_true rfl)) dX11_rule_24 ⟨Nat.le_of_ble_eq_true rfl, Nat.le_of_ble_eq_true rfl⟩)) (fun r_7 hw_6 => ?_)
      rcases hw_6 with ⟨rfl, hw_6⟩ | ⟨rfl, hw_6⟩
      · refine iz_eqz (tgt := 99) hx hb dX11_rule_27 (by decide) (by unfold rg2; omega) (fun q9 => absurd q9 (by decide)) (fun _ => ?_)
        refine lv_iload_n hx hb dX11_rule_30 rfl (lv_at hl 1 rfl) ?_
        refine lv_iload_n hx hb dX11_rule_31 rfl (lv_at hl 2 rfl) ?_
        refine iz_iadd hx hb dX11_rule_32 ?_
        refine iz_lez (tgt := 99) hx hb dX11_rule_33 (by decide) (by unfold rg2; omega) (fun br_8 => ?_) (fun br_8 => ?_)
        · refine lv_iconst (v := kz 0) hx hb dX11_rule_99 rfl ?_
          refine lv_istore (lv' := [(6, .int (kz 0)), (0, .ref o), (1, .int (kz en)), (2, .int (kz be)), (3, .int (kz co)), (4, .int (kz fd)), (5, .int (kz ld))]) hx hb dX11_rule_100 hl (by decide) rfl (fun ls hl => ?_)
          refine lv_iconst (v := kz (-1)) hx hb dX11_rule_102 rfl ?_
          refine lv_istore (lv' := [(7, .int (kz (-1))), (6, .int (kz 0)), (0, .ref o), (1, .int (kz en)), (2, .int (kz be)), (3, .int (kz co)), (4, .int (kz fd)), (5, .int (kz ld))]) hx hb dX11_rule_103 hl (by decide) rfl (fun ls hl => ?_)
          refine lv_iload hx hb dX11_rule_105 (lv_at hl 1 rfl) ?_
          refine iz_eqz (tgt := 137) hx hb dX11_rule_107 (by decide) (by unfold rg2; omega) (fun _ => ?_) (fun q9 => absurd q9 (by decide))
          refine lv_aload_n hx hb dX11_rule_137 rfl (lv_at hl 2 rfl) ?_
          refine iz_get (D := (dC, dI)) (ci := 11) (v := .ref j_tape) (C := RX11) (T := TX11) (N := 7) hx hb hts hinX11 hown hK hO rfl 0 (by decide) hL12 (fun _ h9 => h9) rfl dX11_rule_138 ?_
          refine lv_iconst (v := kz 0) hx hb dX11_rule_141 rfl ?_
          obtain ⟨fs9, co_9, jo9⟩ := jv_o8 hI g_j_tape
          obtain ⟨bytes_9, size_9, rfl, g_bytes_9, ⟨size_9a, size_9b⟩⟩ := jo9
          refine iz_put (D := (dC, dI)) (ci := 8) (v := .int (kz 0)) (ty := .int) (C := RX8) (T := TX8) (N := 2) hx hb hts hinX8 tyX8 tyX8_ok nmX8 hown hK co_9 hS (jv_A hI g_j_tape (show (30 : Nat) ≠ 0 by decide)) rfl 1 (by decide) hL60 (fun _ h9 => h9) rfl (by decide +kernel) rfl rfl (Nat.le_of_ble_eq_true rfl) dX11_rule_142 (fun H locs c9 oq hS => ?_)
          have hI := jv_set hI c9 oq (by rw [g_j_tape]; exact jv_c8 ⟨bytes_9, 0, rfl, g_bytes_9, ⟨by omega, by omega⟩⟩)
          have hO := hO.kept (oq _ (kn_ne g_o g_j_tape (show (999 : Nat) ≠ 8 by decide)))
          have co_1 := co_1.kept (oq _ (kn_ne g_j_tongue g_j_tape (show (9 : Nat) ≠ 8 by decide)))
          have co_9 := c9
          clear oq c9
          refine lv_iload hx hb dX11_rule_145 (lv_at hl 0 rfl) ?_
          refine W.widen (k := 2) (n := 25) (Nat.le_of_ble_eq_true rfl) (Nat.le_of_ble_eq_true rfl) ?_
          exact W.iret (v := kz (-1)) hx hb hr (fun t9 ht hW => ⟨⟨kz (-1), (X, st), rfl, ⟨hP, rfl⟩, jK_warm hW ⟨hK, hN⟩, by rw [ht]; exact ⟨hI, hO⟩⟩, hS.F ht⟩) hS.2.2 dX11_rule_147
        · refine lv_aload_n hx hb dX11_rule_36 rfl (lv_at hl 0 rfl) ?_
          refine iz_get (D := (dC, dI)) (ci := 11) (v := .ref j_tape) (C := RX11) (T := TX11) (N := 7) hx hb hts hinX11 hown hK hO rfl 0 (by decide) hL12 (fun _ h9 => h9) rfl dX11_rule_37 ?_
          obtain ⟨fs9, co_10, jo9⟩ := jv_o8 hI g_j_tape
          obtain ⟨bytes_10, size_10, rfl, g_bytes_10, ⟨size_10a, size_10b⟩⟩ := jo9
          refine iz_get (D := (dC, dI)) (ci := 8) (v := .int (kz size_10)) (C := RX8) (T := TX8) (N := 2) hx hb hts hinX8 hown hK co_10 rfl 1 (by decide) hL60 (fun _ h9 => h9) rfl dX11_rule_40 ?_
          refine lv_iload_n hx hb dX11_rule_43 rfl (lv_at hl 1 rfl) ?_
          refine iz_isub hx hb dX11_rule_44 ?_
          refine lv_iload_n hx hb dX11_rule_45 rfl (lv_at hl 2 rfl) ?_
          refine iz_isub hx hb dX11_rule_46 ?_
          refine lv_iconst (v := kz 0) hx hb dX11_rule_47 rfl ?_
          refine lv_iconst (v := kz 4) hx hb dX11_rule_48 rfl ?_
          refine vp_callSi (va_Run.run (va_runS (As := [.int (kz ((size_10 - en) - be)), .int (kz 0), .int (kz 4)]) (rest := []) ⟨hx, hb, hml, hown, hts⟩ (c_within l ((size_10 - en) - be) 0 4 (by omega) (by omega) (by omega)) (va_cwS 3 hts gX11_rule_X11_within rfl rfl rfl (by decide +kernel) ⟨Nat.le_of_ble_eq_true rfl, Nat.le_of_ble_eq_true rfl⟩) ⟨fun a U g mk q => q, fun U hU hW => ⟨rfl, trivial⟩⟩ rfl rfl hl.1 rfl (lv_room (Nat.le_of_ble_eq_true rfl)) dX11_rule_49 ⟨Nat.le_of_ble_eq_true rfl, Nat.le_of_ble_eq_true rfl⟩)) (fun r_12 hw_11 => ?_)
          rcases hw_11 with ⟨rfl, hw_11⟩ | ⟨rfl, hw_11⟩
          · refine iz_eqz (tgt := 99) hx hb dX11_rule_52 (by decide) (by unfold rg2; omega) (fun q9 => absurd q9 (by decide)) (fun _ => ?_)
            refine lv_aload_n hx hb dX11_rule_55 rfl (lv_at hl 0 rfl) ?_
            refine iz_get (D := (dC, dI)) (ci := 11) (v := .ref j_tape) (C := RX11) (T := TX11) (N := 7) hx hb hts hinX11 hown hK hO rfl 0 (by decide) hL12 (fun _ h9 => h9) rfl dX11_rule_56 ?_
            refine vp_callSi (va_Run.run (va_runV (As := []) (rest := []) ⟨hx, hb, hml, hown, hts⟩ (c_hasOnlyLetters l dC dI ca A X hU j_tape g_j_tape) (cwV 0 hts gX11_rule_X8_hasOnlyLetters rfl rfl rfl (by decide +kernel) ⟨Nat.le_of_ble_eq_true rfl, Nat.le_of_ble_eq_true rfl⟩) ⟨fun a U g mk q => by obtain ⟨q0, ⟨qK, qN⟩, qI⟩ := q; exact ⟨q0, ⟨va_K.moved (u := U) (U := U.calling g mk a) (Vm.Alike.refl U.vm) qK, jN_same (U := U.calling g mk a) rfl qN⟩, qI⟩, va_recv hK (at_P co_10) (ci := 8) (q0 := 0) rfl rfl, fun U hU hW => ⟨rfl, jK_warm hW ⟨hK, hN⟩, by rw [hU]; exact hI⟩⟩ rfl rfl hl.1 rfl (lv_room (Nat.le_of_ble_eq_true rfl)) dX11_rule_59 ⟨Nat.le_of_ble_eq_true rfl, Nat.le_of_ble_eq_true rfl⟩)) (fun r_14 hw_13 => ?_)
            rcases hw_13 with rfl | rfl
            · refine iz_eqz (tgt := 99) hx hb dX11_rule_62 (by decide) (by unfold rg2; omega) (fun q9 => absurd q9 (by decide)) (fun _ => ?_)
              refine lv_iload_n hx hb dX11_rule_65 rfl (lv_at hl 3 rfl) ?_
              refine vp_callSi (va_Run.run (va_runS (As := [.int (kz co)]) (rest := []) ⟨hx, hb, hml, hown, hts⟩ (c_isCost l co (by omega)) (va_cwS 1 hts gX11_rule_X11_isCost rfl rfl rfl (by decide +kernel) ⟨Nat.le_of_ble_eq_true rfl, Nat.le_of_ble_eq_true rfl⟩) ⟨fun a U g mk q => q, fun U hU hW => ⟨rfl, trivial⟩⟩ rfl rfl hl.1 rfl (lv_room (Nat.le_of_ble_eq_true rfl)) dX11_rule_66 ⟨Nat.le_of_ble_eq_true rfl, Nat.le_of_ble_eq_true rfl⟩)) (fun r_16 hw_15 => ?_)
              rcases hw_15 with ⟨rfl, hw_15⟩ | ⟨rfl, hw_15⟩
              · refine iz_eqz (tgt := 99) hx hb dX11_rule_69 (by decide) (by unfold rg2; omega) (fun q9 => absurd q9 (by decide)) (fun _ => ?_)
                refine lv_iload hx hb dX11_rule_72 (lv_at hl 4 rfl) ?_
                refine vp_callSi (va_Run.run (va_runS (As := [.int (kz fd)]) (rest := []) ⟨hx, hb, hml, hown, hts⟩ (c_isDay l fd (by omega)) (va_cwS 1 hts gX11_rule_X11_isDay rfl rfl rfl (by decide +kernel) ⟨Nat.le_of_ble_eq_true rfl, Nat.le_of_ble_eq_true rfl⟩) ⟨fun a U g mk q => q, fun U hU hW => ⟨rfl, trivial⟩⟩ rfl rfl hl.1 rfl (lv_room (Nat.le_of_ble_eq_true rfl)) dX11_rule_74 ⟨Nat.le_of_ble_eq_true rfl, Nat.le_of_ble_eq_true rfl⟩)) (fun r_18 hw_17 => ?_)
                rcases hw_17 with ⟨rfl, hw_17⟩ | ⟨rfl, hw_17⟩
                · refine iz_eqz (tgt := 99) hx hb dX11_rule_77 (by decide) (by unfold rg2; omega) (fun q9 => absurd q9 (by decide)) (fun _ => ?_)
                  refine lv_iload hx hb dX11_rule_80 (lv_at hl 5 rfl) ?_
                  refine vp_callSi (va_Run.run (va_runS (As := [.int (kz ld)]) (rest := []) ⟨hx, hb, hml, hown, hts⟩ (c_isDay l ld (by omega)) (va_cwS 1 hts gX11_rule_X11_isDay rfl rfl rfl (by decide +kernel) ⟨Nat.le_of_ble_eq_true rfl, Nat.le_of_ble_eq_true rfl⟩) ⟨fun a U g mk q => q, fun U hU hW => ⟨rfl, trivial⟩⟩ rfl rfl hl.1 rfl (lv_room (Nat.le_of_ble_eq_true rfl)) dX11_rule_82 ⟨Nat.le_of_ble_eq_true rfl, Nat.le_of_ble_eq_true rfl⟩)) (fun r_20 hw_19 => ?_)
                  rcases hw_19 with ⟨rfl, hw_19⟩ | ⟨rfl, hw_19⟩
                  · refine iz_eqz (tgt := 99) hx hb dX11_rule_85 (by decide) (by unfold rg2; omega) (fun q9 => absurd q9 (by decide)) (fun _ => ?_)
                    refine lv_iload hx hb dX11_rule_88 (lv_at hl 4 rfl) ?_
                    refine lv_iload hx hb dX11_rule_90 (lv_at hl 5 rfl) ?_
                    refine iz_gt (tgt := 99) hx hb dX11_rule_92 (by decide) (by unfold rg2; omega) (fun br_21 => ?_) (fun br_21 => ?_)
                    · refine lv_iconst (v := kz 0) hx hb dX11_rule_99 rfl ?_
                      refine lv_istore (lv' := [(6, .int (kz 0)), (0, .ref o), (1, .int (kz en)), (2, .int (kz be)), (3, .int (kz co)), (4, .int (kz fd)), (5, .int (kz ld))]) hx hb dX11_rule_100 hl (by decide) rfl (fun ls hl => ?_)
                      refine lv_iconst (v := kz (-1)) hx hb dX11_rule_102 rfl ?_
                      refine lv_istore (lv' := [(7, .int (kz (-1))), (6, .int (kz 0)), (0, .ref o), (1, .int (kz en)), (2, .int (kz be)), (3, .int (kz co)), (4, .int (kz fd)), (5, .int (kz ld))]) hx hb dX11_rule_103 hl (by decide) rfl (fun ls hl => ?_)
                      refine lv_iload hx hb dX11_rule_105 (lv_at hl 1 rfl) ?_
                      refine iz_eqz (tgt := 137) hx hb dX11_rule_107 (by decide) (by unfold rg2; omega) (fun _ => ?_) (fun q9 => absurd q9 (by decide))
                      refine lv_aload_n hx hb dX11_rule_137 rfl (lv_at hl 2 rfl) ?_
                      refine iz_get (D := (dC, dI)) (ci := 11) (v := .ref j_tape) (C := RX11) (T := TX11) (N := 7) hx hb hts hinX11 hown hK hO rfl 0 (by decide) hL12 (fun _ h9 => h9) rfl dX11_rule_138 ?_
                      refine lv_iconst (v := kz 0) hx hb dX11_rule_141 rfl ?_
                      refine iz_put (D := (dC, dI)) (ci := 8) (v := .int (kz 0)) (ty := .int) (C := RX8) (T := TX8) (N := 2) hx hb hts hinX8 tyX8 tyX8_ok nmX8 hown hK co_10 hS (jv_A hI g_j_tape (show (30 : Nat) ≠ 0 by decide)) rfl 1 (by decide) hL60 (fun _ h9 => h9) rfl (by decide +kernel) rfl rfl (Nat.le_of_ble_eq_true rfl) dX11_rule_142 (fun H locs c9 oq hS => ?_)
                      have hI := jv_set hI c9 oq (by rw [g_j_tape]; exact jv_c8 ⟨bytes_10, 0, rfl, g_bytes_10, ⟨by omega, by omega⟩⟩)
                      have hO := hO.kept (oq _ (kn_ne g_o g_j_tape (show (999 : Nat) ≠ 8 by decide)))
                      have co_1 := co_1.kept (oq _ (kn_ne g_j_tongue g_j_tape (show (9 : Nat) ≠ 8 by decide)))
                      have co_10 := c9
                      clear oq c9
                      refine lv_iload hx hb dX11_rule_145 (lv_at hl 0 rfl) ?_
                      refine W.widen (k := 2) (n := 25) (Nat.le_of_ble_eq_true rfl) (Nat.le_of_ble_eq_true rfl) ?_
                      exact W.iret (v := kz (-1)) hx hb hr (fun t9 ht hW => ⟨⟨kz (-1), (X, st), rfl, ⟨hP, rfl⟩, jK_warm hW ⟨hK, hN⟩, by rw [ht]; exact ⟨hI, hO⟩⟩, hS.F ht⟩) hS.2.2 dX11_rule_147
                    · refine lv_iconst (v := kz 1) hx hb dX11_rule_95 rfl ?_
                      refine lv_goto (tgt := 100) hx hb dX11_rule_96 (by decide) ?_
                      refine lv_istore (lv' := [(6, .int (kz 1)), (0, .ref o), (1, .int (kz en)), (2, .int (kz be)), (3, .int (kz co)), (4, .int (kz fd)), (5, .int (kz ld))]) hx hb dX11_rule_100 hl (by decide) rfl (fun ls hl => ?_)
                      refine lv_iconst (v := kz (-1)) hx hb dX11_rule_102 rfl ?_
                      refine lv_istore (lv' := [(7, .int (kz (-1))), (6, .int (kz 1)), (0, .ref o), (1, .int (kz en)), (2, .int (kz be)), (3, .int (kz co)), (4, .int (kz fd)), (5, .int (kz ld))]) hx hb dX11_rule_103 hl (by decide) rfl (fun ls hl => ?_)
                      refine lv_iload hx hb dX11_rule_105 (lv_at hl 1 rfl) ?_
                      refine iz_eqz (tgt := 137) hx hb dX11_rule_107 (by decide) (by unfold rg2; omega) (fun q9 => absurd q9 (by decide)) (fun _ => ?_)
                      refine lv_aload_n hx hb dX11_rule_110 rfl (lv_at hl 2 rfl) ?_
                      refine iz_get (D := (dC, dI)) (ci := 11) (v := .ref j_tongue) (C := RX11) (T := TX11) (N := 7) hx hb hts hinX11 hown hK hO rfl 1 (by decide) hL19 (fun _ h9 => h9) rfl dX11_rule_111 ?_
                      have hzH : n0 ≤ H.size := by have h8 := hS.1; omega
                      refine jz_new (ci := 7) (fs := [.null, .int (kz 0), .int (kz 0), .int (kz 0), .int (kz 0), .int (kz 0), .int (kz 0), .int (kz 0), .int (kz 0)]) (C := RX7) (T := TX7) (N := 9) hx hb hts (by decide +kernel) tyX7 tyX7_ok hown (hts (.classLink RX11 98 RX7) (by decide +kernel)) (hts (.instantiable RX7 9) (by decide +kernel)) (hts (.initialized RX7) (by decide +kernel)) hK hS rfl (fun j hj => by rcases (show j = 0 ∨ j = 1 ∨ j = 2 ∨ j = 3 ∨ j = 4 ∨ j = 5 ∨ j = 6 ∨ j = 7 ∨ j = 8 by omega) with rfl | rfl | rfl | rfl | rfl | rfl | rfl | rfl | rfl <;> rfl) (Nat.le_of_ble_eq_true rfl) (Nat.le_of_ble_eq_true rfl) dX11_rule_114 (fun x_22 H hx9 c_x_22 oq hz9 hS => ?_)
                      have h0_x_22 : (X.1 x_22).2.1 = 0 := jv_out hI (by omega)
                      have hge_x_22 : n0 ≤ x_22 := by omega
                      have hne_x_22_o : x_22 ≠ o := by have h9 := hO.lt; omega
                      have hO := hO.kept (oq _ hO.lt)
                      have co_10 := co_10.kept (oq _ co_10.lt)
                      have hI := jv_keep hI (fun q hq => oq q (jv_lt hI hq))
                      clear oq hz9 hx9
                      refine lv_dup hx hb dX11_rule_117 rfl ?_
                      refine lv_aload_n hx hb dX11_rule_118 rfl (lv_at hl 2 rfl) ?_
                      refine iz_get (D := (dC, dI)) (ci := 11) (v := .ref j_tape) (C := RX11) (T := TX11) (N := 7) hx hb hts hinX11 hown hK hO rfl 0 (by decide) hL12 (fun _ h9 => h9) rfl dX11_rule_119 ?_
                      refine lv_iload_n hx hb dX11_rule_122 rfl (lv_at hl 3 rfl) ?_
                      refine lv_iload_n hx hb dX11_rule_123 rfl (lv_at hl 4 rfl) ?_
                      refine lv_iload_n hx hb dX11_rule_124 rfl (lv_at hl 5 rfl) ?_
                      refine lv_iload hx hb dX11_rule_125 (lv_at hl 6 rfl) ?_
                      refine lv_iload hx hb dX11_rule_127 (lv_at hl 7 rfl) ?_
                      have hzH : n0 ≤ H.size := by have h8 := hS.1; omega
                      have hxl := c_x_22.lt
                      have hIA := hI
                      refine va_callv (va_runI (As := [.ref j_tape, .int (kz en), .int (kz be), .int (kz co), .int (kz fd), .int (kz ld)]) (rest := [.ref x_22, .ref j_tongue]) ⟨hx, hb, hml, hown, hts⟩ (k_Rule l dC dI ca X hU x_22 H.size j_tape en be co fd ld bytes_10 size_10 h0_x_22 g_j_tape g_bytes_10 (by omega)) (cwI 6 hts gX11_rule_X7_init rfl rfl rfl (hts (.initialized RX7) (by decide +kernel)) (hts (.methodLink RX11 100 yX7_init) (by decide +kernel)) (hts (.instanceMethod yX7_init) (by decide +kernel)) rfl (by decide +kernel) ⟨Nat.le_of_ble_eq_true rfl, Nat.le_of_ble_eq_true rfl⟩) ⟨fun a U g mk q => by obtain ⟨q0, q1, ⟨qK, qN⟩, qI⟩ := q; exact ⟨q0, q1, ⟨va_K.moved (u := U) (U := U.calling g mk a) (Vm.Alike.refl U.vm) qK, jN_same (U := U.calling g mk a) rfl qN⟩, qI⟩, fun U hU9 hW => ⟨rfl, by rw [hU9], jK_warm hW ⟨hK, hN⟩, by rw [hU9]; exact ⟨jv_A2 hI (fun _ _ => trivial), c_x_22, co_10⟩⟩⟩ rfl rfl hl.1 rfl (lv_room (Nat.le_of_ble_eq_true rfl)) dX11_rule_129 ⟨(Nat.le_of_ble_eq_true rfl), (Nat.le_of_ble_eq_true rfl)⟩) hS (fun q h8 h9 => h9.elim (fun e9 => by rw [e9]; exact (hA _ hge_x_22)) (fun e9 => absurd e9 (by omega))) (fun q h9 => h9.elim (fun e9 => by rw [e9]; exact (hA _ hge_x_22)) (fun e9 => hA q (by omega))) (fun X t9 H locs ht hvm hw_23 hB hz1 hk1 hS => ?_)
                      obtain ⟨hw_23, hw_23g, hU⟩ := hw_23
                      obtain ⟨-, hI, lt_x_22, g_lt_x_22, c_x_22⟩ := hB
                      rw [ht] at hI c_x_22
                      clear ht hvm
                      have hI := jv_A2 hI (nw_A hIA hw_23 (hA _ hge_x_22) (fun q h8 => hA q (Nat.le_trans hzH h8)))
                      clear hIA
                      have hle9 := nw_le hw_23
                      have h9o := hO.lt
                      have hO := hO.kept (hk1 _ h9o (fun e9 => e9.elim (Ne.symm hne_x_22_o) (fun e8 => absurd e8 (by omega))))
                      have g_o : X.1 o = (999, 0, 0, 0, 0) := (nw_eq hw_23 (Ne.symm hne_x_22_o) h9o).trans g_o
                      have h9 := co_10.lt
                      have co_10 := co_10.kept (hk1 _ h9 (fun e9 => e9.elim (kn_ne0 g_j_tape h0_x_22 (show (30 : Nat) ≠ 0 by decide)) (fun e8 => absurd e8 (by omega))))
                      have ht9 := nw_9 hw_23 ht9 (by intro t ht; simp at ht; subst ht; show (202 : Nat) ≠ 9; decide)
                      have hP := prl_nw hP hw_23 hU ((Ne.symm hne_x_22_o)) h9o (by intro t ht; simp at ht; subst ht; show (202 : Nat) ∈ [2, 201, 7, 202, 237, 238]; decide)
                      have h0_x_22 := hw_23g
                      have g_j_tongue := le_t hle9 g_j_tongue (show (30 : Nat) ≠ 0 by decide)
                      have g_j_tape := le_t hle9 g_j_tape (show (30 : Nat) ≠ 0 by decide)
                      have g_j_row := le_t hle9 g_j_row (show (30 : Nat) ≠ 0 by decide)
                      have g_j_trees := le_t hle9 g_j_trees (show (30 : Nat) ≠ 0 by decide)
                      have g_j_choices := le_t hle9 g_j_choices (show (30 : Nat) ≠ 0 by decide)
                      have g_bytes_10 := le_t hle9 g_bytes_10 (show (21 : Nat) ≠ 0 by decide)
                      have hpv := fun b q => le_t hle9 (hpv b q) (show (30 : Nat) ≠ 0 by decide)
                      clear hle9 hxl hk1 hz1
                      obtain ⟨fs9, co_24, jo9⟩ := jv_o9 hI g_j_tongue
                      obtain ⟨forms_24, rules_24, formCount_24, ruleCount_24, forbidden_24, rfl, g_forms_24, g_rules_24, ⟨formCount_24a, formCount_24b⟩, ⟨ruleCount_24a, ruleCount_24b⟩, g_forbidden_24, x_24_0, x_24_1, x_24_2⟩ := jo9
                      refine va_calli (va_runV (As := [.ref x_22]) (rest := []) ⟨hx, hb, hml, hown, hts⟩ (c_addRule l dC dI ca A X hU H j_tongue forms_24 rules_24 forbidden_24 formCount_24 ruleCount_24 x_22 lt_x_22 o en be (size_10 - (en + be)) co fd ld (Int.toNat size_10) g_j_tongue g_forms_24 g_rules_24 g_forbidden_24 (by omega) (by omega) x_24_0 x_24_1 x_24_2 h0_x_22 (hA _ hge_x_22) g_o hne_x_22_o ht9 g_lt_x_22 (by omega) (by omega) (by omega) (by omega) (by omega) (by omega) (by omega)) (cwV 1 hts gX11_rule_X9_addRule rfl rfl rfl (by decide +kernel) ⟨Nat.le_of_ble_eq_true rfl, Nat.le_of_ble_eq_true rfl⟩) ⟨fun a U g mk q => by obtain ⟨q0, qH, ⟨qK, qN⟩, qI⟩ := q; exact ⟨q0, qH, ⟨va_K.moved (u := U) (U := U.calling g mk a) (Vm.Alike.refl U.vm) qK, jN_same (U := U.calling g mk a) rfl qN⟩, qI⟩, va_recv hK (at_P co_24) (ci := 9) (q0 := 0) rfl rfl, fun U hU9 hW => ⟨rfl, hU9, jK_warm hW ⟨hK, hN⟩, by rw [hU9]; exact ⟨hI, co_24, c_x_22⟩⟩⟩ rfl rfl hl.1 rfl (lv_room (Nat.le_of_ble_eq_true rfl)) dX11_rule_132 ⟨Nat.le_of_ble_eq_true rfl, Nat.le_of_ble_eq_true rfl⟩) hS (fun q _ h => h) (fun q h => h) (fun r_26 X t9 H locs ht hvm hw_25 hB hz1 hk1 hS => ?_)
                      obtain ⟨-, hI, hFo⟩ := hB
                      rw [ht] at hI hFo
                      clear ht hvm hz1 hk1
                      have hO := hO.kept hFo
                      have hP := prl_af hP hw_25 h0_x_22 hne_x_22_o (by decide)
                      have g_j_tape := af_t hw_25 h0_x_22 g_j_tape (show (30 : Nat) ≠ 0 by decide)
                      have g_j_tongue := af_t hw_25 h0_x_22 g_j_tongue (show (30 : Nat) ≠ 0 by decide)
                      have g_j_row := af_t hw_25 h0_x_22 g_j_row (show (30 : Nat) ≠ 0 by decide)
                      have g_j_trees := af_t hw_25 h0_x_22 g_j_trees (show (30 : Nat) ≠ 0 by decide)
                      have g_j_choices := af_t hw_25 h0_x_22 g_j_choices (show (30 : Nat) ≠ 0 by decide)
                      have g_o : X.1 o = (999, 0, 0, 0, 0) := (af_o hw_25 (Ne.symm hne_x_22_o)).trans g_o
                      have hU := hw_25.1
                      have hpv := fun b q => af_t hw_25 h0_x_22 (hpv b q) (show (30 : Nat) ≠ 0 by decide)
                      obtain ⟨z_27, z_27a, z_27b, rfl⟩ := kz_ex r_26
                      refine lv_istore (lv' := [(7, .int (kz z_27)), (6, .int (kz 1)), (0, .ref o), (1, .int (kz en)), (2, .int (kz be)), (3, .int (kz co)), (4, .int (kz fd)), (5, .int (kz ld))]) hx hb dX11_rule_135 hl (by decide) rfl (fun ls hl => ?_)
                      refine lv_aload_n hx hb dX11_rule_137 rfl (lv_at hl 2 rfl) ?_
                      refine iz_get (D := (dC, dI)) (ci := 11) (v := .ref j_tape) (C := RX11) (T := TX11) (N := 7) hx hb hts hinX11 hown hK hO rfl 0 (by decide) hL12 (fun _ h9 => h9) rfl dX11_rule_138 ?_
                      refine lv_iconst (v := kz 0) hx hb dX11_rule_141 rfl ?_
                      obtain ⟨fs9, co_28, jo9⟩ := jv_o8 hI g_j_tape
                      obtain ⟨bytes_28, size_28, rfl, g_bytes_28, ⟨size_28a, size_28b⟩⟩ := jo9
                      refine iz_put (D := (dC, dI)) (ci := 8) (v := .int (kz 0)) (ty := .int) (C := RX8) (T := TX8) (N := 2) hx hb hts hinX8 tyX8 tyX8_ok nmX8 hown hK co_28 hS (jv_A hI g_j_tape (show (30 : Nat) ≠ 0 by decide)) rfl 1 (by decide) hL60 (fun _ h9 => h9) rfl (by decide +kernel) rfl rfl (Nat.le_of_ble_eq_true rfl) dX11_rule_142 (fun H locs c9 oq hS => ?_)
                      have hI := jv_set hI c9 oq (by rw [g_j_tape]; exact jv_c8 ⟨bytes_28, 0, rfl, g_bytes_28, ⟨by omega, by omega⟩⟩)
                      have hO := hO.kept (oq _ (kn_ne g_o g_j_tape (show (999 : Nat) ≠ 8 by decide)))
                      have co_28 := c9
                      clear oq c9
                      refine lv_iload hx hb dX11_rule_145 (lv_at hl 0 rfl) ?_
                      refine W.widen (k := 2) (n := 25) (Nat.le_of_ble_eq_true rfl) (Nat.le_of_ble_eq_true rfl) ?_
                      exact W.iret (v := kz z_27) hx hb hr (fun t9 ht hW => ⟨⟨kz z_27, (X, st), rfl, ⟨hP, rfl⟩, jK_warm hW ⟨hK, hN⟩, by rw [ht]; exact ⟨hI, hO⟩⟩, hS.F ht⟩) hS.2.2 dX11_rule_147
                  · refine iz_eqz (tgt := 99) hx hb dX11_rule_85 (by decide) (by unfold rg2; omega) (fun _ => ?_) (fun q9 => absurd q9 (by decide))
                    refine lv_iconst (v := kz 0) hx hb dX11_rule_99 rfl ?_
                    refine lv_istore (lv' := [(6, .int (kz 0)), (0, .ref o), (1, .int (kz en)), (2, .int (kz be)), (3, .int (kz co)), (4, .int (kz fd)), (5, .int (kz ld))]) hx hb dX11_rule_100 hl (by decide) rfl (fun ls hl => ?_)
                    refine lv_iconst (v := kz (-1)) hx hb dX11_rule_102 rfl ?_
                    refine lv_istore (lv' := [(7, .int (kz (-1))), (6, .int (kz 0)), (0, .ref o), (1, .int (kz en)), (2, .int (kz be)), (3, .int (kz co)), (4, .int (kz fd)), (5, .int (kz ld))]) hx hb dX11_rule_103 hl (by decide) rfl (fun ls hl => ?_)
                    refine lv_iload hx hb dX11_rule_105 (lv_at hl 1 rfl) ?_
                    refine iz_eqz (tgt := 137) hx hb dX11_rule_107 (by decide) (by unfold rg2; omega) (fun _ => ?_) (fun q9 => absurd q9 (by decide))
                    refine lv_aload_n hx hb dX11_rule_137 rfl (lv_at hl 2 rfl) ?_
                    refine iz_get (D := (dC, dI)) (ci := 11) (v := .ref j_tape) (C := RX11) (T := TX11) (N := 7) hx hb hts hinX11 hown hK hO rfl 0 (by decide) hL12 (fun _ h9 => h9) rfl dX11_rule_138 ?_
                    refine lv_iconst (v := kz 0) hx hb dX11_rule_141 rfl ?_
                    refine iz_put (D := (dC, dI)) (ci := 8) (v := .int (kz 0)) (ty := .int) (C := RX8) (T := TX8) (N := 2) hx hb hts hinX8 tyX8 tyX8_ok nmX8 hown hK co_10 hS (jv_A hI g_j_tape (show (30 : Nat) ≠ 0 by decide)) rfl 1 (by decide) hL60 (fun _ h9 => h9) rfl (by decide +kernel) rfl rfl (Nat.le_of_ble_eq_true rfl) dX11_rule_142 (fun H locs c9 oq hS => ?_)
                    have hI := jv_set hI c9 oq (by rw [g_j_tape]; exact jv_c8 ⟨bytes_10, 0, rfl, g_bytes_10, ⟨by omega, by omega⟩⟩)
                    have hO := hO.kept (oq _ (kn_ne g_o g_j_tape (show (999 : Nat) ≠ 8 by decide)))
                    have co_1 := co_1.kept (oq _ (kn_ne g_j_tongue g_j_tape (show (9 : Nat) ≠ 8 by decide)))
                    have co_10 := c9
                    clear oq c9
                    refine lv_iload hx hb dX11_rule_145 (lv_at hl 0 rfl) ?_
                    refine W.widen (k := 2) (n := 25) (Nat.le_of_ble_eq_true rfl) (Nat.le_of_ble_eq_true rfl) ?_
                    exact W.iret (v := kz (-1)) hx hb hr (fun t9 ht hW => ⟨⟨kz (-1), (X, st), rfl, ⟨hP, rfl⟩, jK_warm hW ⟨hK, hN⟩, by rw [ht]; exact ⟨hI, hO⟩⟩, hS.F ht⟩) hS.2.2 dX11_rule_147
                · refine iz_eqz (tgt := 99) hx hb dX11_rule_77 (by decide) (by unfold rg2; omega) (fun _ => ?_) (fun q9 => absurd q9 (by decide))
                  refine lv_iconst (v := kz 0) hx hb dX11_rule_99 rfl ?_
                  refine lv_istore (lv' := [(6, .int (kz 0)), (0, .ref o), (1, .int (kz en)), (2, .int (kz be)), (3, .int (kz co)), (4, .int (kz fd)), (5, .int (kz ld))]) hx hb dX11_rule_100 hl (by decide) rfl (fun ls hl => ?_)
                  refine lv_iconst (v := kz (-1)) hx hb dX11_rule_102 rfl ?_
                  refine lv_istore (lv' := [(7, .int (kz (-1))), (6, .int (kz 0)), (0, .ref o), (1, .int (kz en)), (2, .int (kz be)), (3, .int (kz co)), (4, .int (kz fd)), (5, .int (kz ld))]) hx hb dX11_rule_103 hl (by decide) rfl (fun ls hl => ?_)
                  refine lv_iload hx hb dX11_rule_105 (lv_at hl 1 rfl) ?_
                  refine iz_eqz (tgt := 137) hx hb dX11_rule_107 (by decide) (by unfold rg2; omega) (fun _ => ?_) (fun q9 => absurd q9 (by decide))
                  refine lv_aload_n hx hb dX11_rule_137 rfl (lv_at hl 2 rfl) ?_
                  refine iz_get (D := (dC, dI)) (ci := 11) (v := .ref j_tape) (C := RX11) (T := TX11) (N := 7) hx hb hts hinX11 hown hK hO rfl 0 (by decide) hL12 (fun _ h9 => h9) rfl dX11_rule_138 ?_
                  refine lv_iconst (v := kz 0) hx hb dX11_rule_141 rfl ?_
                  refine iz_put (D := (dC, dI)) (ci := 8) (v := .int (kz 0)) (ty := .int) (C := RX8) (T := TX8) (N := 2) hx hb hts hinX8 tyX8 tyX8_ok nmX8 hown hK co_10 hS (jv_A hI g_j_tape (show (30 : Nat) ≠ 0 by decide)) rfl 1 (by decide) hL60 (fun _ h9 => h9) rfl (by decide +kernel) rfl rfl (Nat.le_of_ble_eq_true rfl) dX11_rule_142 (fun H locs c9 oq hS => ?_)
                  have hI := jv_set hI c9 oq (by rw [g_j_tape]; exact jv_c8 ⟨bytes_10, 0, rfl, g_bytes_10, ⟨by omega, by omega⟩⟩)
                  have hO := hO.kept (oq _ (kn_ne g_o g_j_tape (show (999 : Nat) ≠ 8 by decide)))
                  have co_1 := co_1.kept (oq _ (kn_ne g_j_tongue g_j_tape (show (9 : Nat) ≠ 8 by decide)))
                  have co_10 := c9
                  clear oq c9
                  refine lv_iload hx hb dX11_rule_145 (lv_at hl 0 rfl) ?_
                  refine W.widen (k := 2) (n := 25) (Nat.le_of_ble_eq_true rfl) (Nat.le_of_ble_eq_true rfl) ?_
                  exact W.iret (v := kz (-1)) hx hb hr (fun t9 ht hW => ⟨⟨kz (-1), (X, st), rfl, ⟨hP, rfl⟩, jK_warm hW ⟨hK, hN⟩, by rw [ht]; exact ⟨hI, hO⟩⟩, hS.F ht⟩) hS.2.2 dX11_rule_147
              · refine iz_eqz (tgt := 99) hx hb dX11_rule_69 (by decide) (by unfold rg2; omega) (fun _ => ?_) (fun q9 => absurd q9 (by decide))
                refine lv_iconst (v := kz 0) hx hb dX11_rule_99 rfl ?_
                refine lv_istore (lv' := [(6, .int (kz 0)), (0, .ref o), (1, .int (kz en)), (2, .int (kz be)), (3, .int (kz co)), (4, .int (kz fd)), (5, .int (kz ld))]) hx hb dX11_rule_100 hl (by decide) rfl (fun ls hl => ?_)
                refine lv_iconst (v := kz (-1)) hx hb dX11_rule_102 rfl ?_
                refine lv_istore (lv' := [(7, .int (kz (-1))), (6, .int (kz 0)), (0, .ref o), (1, .int (kz en)), (2, .int (kz be)), (3, .int (kz co)), (4, .int (kz fd)), (5, .int (kz ld))]) hx hb dX11_rule_103 hl (by decide) rfl (fun ls hl => ?_)
                refine lv_iload hx hb dX11_rule_105 (lv_at hl 1 rfl) ?_
                refine iz_eqz (tgt := 137) hx hb dX11_rule_107 (by decide) (by unfold rg2; omega) (fun _ => ?_) (fun q9 => absurd q9 (by decide))
                refine lv_aload_n hx hb dX11_rule_137 rfl (lv_at hl 2 rfl) ?_
                refine iz_get (D := (dC, dI)) (ci := 11) (v := .ref j_tape) (C := RX11) (T := TX11) (N := 7) hx hb hts hinX11 hown hK hO rfl 0 (by decide) hL12 (fun _ h9 => h9) rfl dX11_rule_138 ?_
                refine lv_iconst (v := kz 0) hx hb dX11_rule_141 rfl ?_
                refine iz_put (D := (dC, dI)) (ci := 8) (v := .int (kz 0)) (ty := .int) (C := RX8) (T := TX8) (N := 2) hx hb hts hinX8 tyX8 tyX8_ok nmX8 hown hK co_10 hS (jv_A hI g_j_tape (show (30 : Nat) ≠ 0 by decide)) rfl 1 (by decide) hL60 (fun _ h9 => h9) rfl (by decide +kernel) rfl rfl (Nat.le_of_ble_eq_true rfl) dX11_rule_142 (fun H locs c9 oq hS => ?_)
                have hI := jv_set hI c9 oq (by rw [g_j_tape]; exact jv_c8 ⟨bytes_10, 0, rfl, g_bytes_10, ⟨by omega, by omega⟩⟩)
                have hO := hO.kept (oq _ (kn_ne g_o g_j_tape (show (999 : Nat) ≠ 8 by decide)))
                have co_1 := co_1.kept (oq _ (kn_ne g_j_tongue g_j_tape (show (9 : Nat) ≠ 8 by decide)))
                have co_10 := c9
                clear oq c9
                refine lv_iload hx hb dX11_rule_145 (lv_at hl 0 rfl) ?_
                refine W.widen (k := 2) (n := 25) (Nat.le_of_ble_eq_true rfl) (Nat.le_of_ble_eq_true rfl) ?_
                exact W.iret (v := kz (-1)) hx hb hr (fun t9 ht hW => ⟨⟨kz (-1), (X, st), rfl, ⟨hP, rfl⟩, jK_warm hW ⟨hK, hN⟩, by rw [ht]; exact ⟨hI, hO⟩⟩, hS.F ht⟩) hS.2.2 dX11_rule_147
            · refine iz_eqz (tgt := 99) hx hb dX11_rule_62 (by decide) (by unfold rg2; omega) (fun _ => ?_) (fun q9 => absurd q9 (by decide))
              refine lv_iconst (v := kz 0) hx hb dX11_rule_99 rfl ?_
              refine lv_istore (lv' := [(6, .int (kz 0)), (0, .ref o), (1, .int (kz en)), (2, .int (kz be)), (3, .int (kz co)), (4, .int (kz fd)), (5, .int (kz ld))]) hx hb dX11_rule_100 hl (by decide) rfl (fun ls hl => ?_)
              refine lv_iconst (v := kz (-1)) hx hb dX11_rule_102 rfl ?_
              refine lv_istore (lv' := [(7, .int (kz (-1))), (6, .int (kz 0)), (0, .ref o), (1, .int (kz en)), (2, .int (kz be)), (3, .int (kz co)), (4, .int (kz fd)), (5, .int (kz ld))]) hx hb dX11_rule_103 hl (by decide) rfl (fun ls hl => ?_)
              refine lv_iload hx hb dX11_rule_105 (lv_at hl 1 rfl) ?_
              refine iz_eqz (tgt := 137) hx hb dX11_rule_107 (by decide) (by unfold rg2; omega) (fun _ => ?_) (fun q9 => absurd q9 (by decide))
              refine lv_aload_n hx hb dX11_rule_137 rfl (lv_at hl 2 rfl) ?_
              refine iz_get (D := (dC, dI)) (ci := 11) (v := .ref j_tape) (C := RX11) (T := TX11) (N := 7) hx hb hts hinX11 hown hK hO rfl 0 (by decide) hL12 (fun _ h9 => h9) rfl dX11_rule_138 ?_
              refine lv_iconst (v := kz 0) hx hb dX11_rule_141 rfl ?_
              refine iz_put (D := (dC, dI)) (ci := 8) (v := .int (kz 0)) (ty := .int) (C := RX8) (T := TX8) (N := 2) hx hb hts hinX8 tyX8 tyX8_ok nmX8 hown hK co_10 hS (jv_A hI g_j_tape (show (30 : Nat) ≠ 0 by decide)) rfl 1 (by decide) hL60 (fun _ h9 => h9) rfl (by decide +kernel) rfl rfl (Nat.le_of_ble_eq_true rfl) dX11_rule_142 (fun H locs c9 oq hS => ?_)
              have hI := jv_set hI c9 oq (by rw [g_j_tape]; exact jv_c8 ⟨bytes_10, 0, rfl, g_bytes_10, ⟨by omega, by omega⟩⟩)
              have hO := hO.kept (oq _ (kn_ne g_o g_j_tape (show (999 : Nat) ≠ 8 by decide)))
              have co_1 := co_1.kept (oq _ (kn_ne g_j_tongue g_j_tape (show (9 : Nat) ≠ 8 by decide)))
              have co_10 := c9
              clear oq c9
              refine lv_iload hx hb dX11_rule_145 (lv_at hl 0 rfl) ?_
              refine W.widen (k := 2) (n := 25) (Nat.le_of_ble_eq_true rfl) (Nat.le_of_ble_eq_true rfl) ?_
              exact W.iret (v := kz (-1)) hx hb hr (fun t9 ht hW => ⟨⟨kz (-1), (X, st), rfl, ⟨hP, rfl⟩, jK_warm hW ⟨hK, hN⟩, by rw [ht]; exact ⟨hI, hO⟩⟩, hS.F ht⟩) hS.2.2 dX11_rule_147
          · refine iz_eqz (tgt := 99) hx hb dX11_rule_52 (by decide) (by unfold rg2; omega) (fun _ => ?_) (fun q9 => absurd q9 (by decide))
            refine lv_iconst (v := kz 0) hx hb dX11_rule_99 rfl ?_
            refine lv_istore (lv' := [(6, .int (kz 0)), (0, .ref o), (1, .int (kz en)), (2, .int (kz be)), (3, .int (kz co)), (4, .int (kz fd)), (5, .int (kz ld))]) hx hb dX11_rule_100 hl (by decide) rfl (fun ls hl => ?_)
            refine lv_iconst (v := kz (-1)) hx hb dX11_rule_102 rfl ?_
            refine lv_istore (lv' := [(7, .int (kz (-1))), (6, .int (kz 0)), (0, .ref o), (1, .int (kz en)), (2, .int (kz be)), (3, .int (kz co)), (4, .int (kz fd)), (5, .int (kz ld))]) hx hb dX11_rule_103 hl (by decide) rfl (fun ls hl => ?_)
            refine lv_iload hx hb dX11_rule_105 (lv_at hl 1 rfl) ?_
            refine iz_eqz (tgt := 137) hx hb dX11_rule_107 (by decide) (by unfold rg2; omega) (fun _ => ?_) (fun q9 => absurd q9 (by decide))
            refine lv_aload_n hx hb dX11_rule_137 rfl (lv_at hl 2 rfl) ?_
            refine iz_get (D := (dC, dI)) (ci := 11) (v := .ref j_tape) (C := RX11) (T := TX11) (N := 7) hx hb hts hinX11 hown hK hO rfl 0 (by decide) hL12 (fun _ h9 => h9) rfl dX11_rule_138 ?_
            refine lv_iconst (v := kz 0) hx hb dX11_rule_141 rfl ?_
            refine iz_put (D := (dC, dI)) (ci := 8) (v := .int (kz 0)) (ty := .int) (C := RX8) (T := TX8) (N := 2) hx hb hts hinX8 tyX8 tyX8_ok nmX8 hown hK co_10 hS (jv_A hI g_j_tape (show (30 : Nat) ≠ 0 by decide)) rfl 1 (by decide) hL60 (fun _ h9 => h9) rfl (by decide +kernel) rfl rfl (Nat.le_of_ble_eq_true rfl) dX11_rule_142 (fun H locs c9 oq hS => ?_)
            have hI := jv_set hI c9 oq (by rw [g_j_tape]; exact jv_c8 ⟨bytes_10, 0, rfl, g_bytes_10, ⟨by omega, by omega⟩⟩)
            have hO := hO.kept (oq _ (kn_ne g_o g_j_tape (show (999 : Nat) ≠ 8 by decide)))
            have co_1 := co_1.kept (oq _ (kn_ne g_j_tongue g_j_tape (show (9 : Nat) ≠ 8 by decide)))
            have co_10 := c9
            clear oq c9
            refine lv_iload hx hb dX11_rule_145 (lv_at hl 0 rfl) ?_
            refine W.widen (k := 2) (n := 25) (Nat.le_of_ble_eq_true rfl) (Nat.le_of_ble_eq_true rfl) ?_
            exact W.iret (v := kz (-1)) hx hb hr (fun t9 ht hW => ⟨⟨kz (-1), (X, st), rfl, ⟨hP, rfl⟩, jK_warm hW ⟨hK, hN⟩, by rw [ht]; exact ⟨hI, hO⟩⟩, hS.F ht⟩) hS.2.2 dX11_rule_147
      · refine iz_eqz (tgt := 99) hx hb dX11_rule_27 (by decide) (by unfold rg2; omega) (fun _ => ?_) (fun q9 => absurd q9 (by decide))
        refine lv_iconst (v := kz 0) hx hb dX11_rule_99 rfl ?_
        refine lv_istore (lv' := [(6, .int (kz 0)), (0, .ref o), (1, .int (kz en)), (2, .int (kz be)), (3, .int (kz co)), (4, .int (kz fd)), (5, .int (kz ld))]) hx hb dX11_rule_100 hl (by decide) rfl (fun ls hl => ?_)
        refine lv_iconst (v := kz (-1)) hx hb dX11_rule_102 rfl ?_
        refine lv_istore (lv' := [(7, .int (kz (-1))), (6, .int (kz 0)), (0, .ref o), (1, .int (kz en)), (2, .int (kz be)), (3, .int (kz co)), (4, .int (kz fd)), (5, .int (kz ld))]) hx hb dX11_rule_103 hl (by decide) rfl (fun ls hl => ?_)
        refine lv_iload hx hb dX11_rule_105 (lv_at hl 1 rfl) ?_
        refine iz_eqz (tgt := 137) hx hb dX11_rule_107 (by decide) (by unfold rg2; omega) (fun _ => ?_) (fun q9 => absurd q9 (by decide))
        refine lv_aload_n hx hb dX11_rule_137 rfl (lv_at hl 2 rfl) ?_
        refine iz_get (D := (dC, dI)) (ci := 11) (v := .ref j_tape) (C := RX11) (T := TX11) (N := 7) hx hb hts hinX11 hown hK hO rfl 0 (by decide) hL12 (fun _ h9 => h9) rfl dX11_rule_138 ?_
        refine lv_iconst (v := kz 0) hx hb dX11_rule_141 rfl ?_
        obtain ⟨fs9, co_29, jo9⟩ := jv_o8 hI g_j_tape
        obtain ⟨bytes_29, size_29, rfl, g_bytes_29, ⟨size_29a, size_29b⟩⟩ := jo9
        refine iz_put (D := (dC, dI)) (ci := 8) (v := .int (kz 0)) (ty := .int) (C := RX8) (T := TX8) (N := 2) hx hb hts hinX8 tyX8 tyX8_ok nmX8 hown hK co_29 hS (jv_A hI g_j_tape (show (30 : Nat) ≠ 0 by decide)) rfl 1 (by decide) hL60 (fun _ h9 => h9) rfl (by decide +kernel) rfl rfl (Nat.le_of_ble_eq_true rfl) dX11_rule_142 (fun H locs c9 oq hS => ?_)
        have hI := jv_set hI c9 oq (by rw [g_j_tape]; exact jv_c8 ⟨bytes_29, 0, rfl, g_bytes_29, ⟨by omega, by omega⟩⟩)
        have hO := hO.kept (oq _ (kn_ne g_o g_j_tape (show (999 : Nat) ≠ 8 by decide)))
        have co_1 := co_1.kept (oq _ (kn_ne g_j_tongue g_j_tape (show (9 : Nat) ≠ 8 by decide)))
        have co_29 := c9
        clear oq c9
        refine lv_iload hx hb dX11_rule_145 (lv_at hl 0 rfl) ?_
        refine W.widen (k := 2) (n := 25) (Nat.le_of_ble_eq_true rfl) (Nat.le_of_ble_eq_true rfl) ?_
        exact W.iret (v := kz (-1)) hx hb hr (fun t9 ht hW => ⟨⟨kz (-1), (X, st), rfl, ⟨hP, rfl⟩, jK_warm hW ⟨hK, hN⟩, by rw [ht]; exact ⟨hI, hO⟩⟩, hS.F ht⟩) hS.2.2 dX11_rule_147
    · refine iz_eqz (tgt := 99) hx hb dX11_rule_18 (by decide) (by unfold rg2; omega) (fun _ => ?_) (fun q9 => absurd q9 (by decide))
      refine lv_iconst (v := kz 0) hx hb dX11_rule_99 rfl ?_
      refine lv_istore (lv' := [(6, .int (kz 0)), (0, .ref o), (1, .int (kz en)), (2, .int (kz be)), (3, .int (kz co)), (4, .int (kz fd)), (5, .int (kz ld))]) hx hb dX11_rule_100 hl (by decide) rfl (fun ls hl => ?_)
      refine lv_iconst (v := kz (-1)) hx hb dX11_rule_102 rfl ?_
      refine lv_istore (lv' := [(7, .int (kz (-1))), (6, .int (kz 0)), (0, .ref o), (1, .int (kz en)), (2, .int (kz be)), (3, .int (kz co)), (4, .int (kz fd)), (5, .int (kz ld))]) hx hb dX11_rule_103 hl (by decide) rfl (fun ls hl => ?_)
      refine lv_iload hx hb dX11_rule_105 (lv_at hl 1 rfl) ?_
      refine iz_eqz (tgt := 137) hx hb dX11_rule_107 (by decide) (by unfold rg2; omega) (fun _ => ?_) (fun q9 => absurd q9 (by decide))
      refine lv_aload_n hx hb dX11_rule_137 rfl (lv_at hl 2 rfl) ?_
      refine iz_get (D := (dC, dI)) (ci := 11) (v := .ref j_tape) (C := RX11) (T := TX11) (N := 7) hx hb hts hinX11 hown hK hO rfl 0 (by decide) hL12 (fun _ h9 => h9) rfl dX11_rule_138 ?_
      refine lv_iconst (v := kz 0) hx hb dX11_rule_141 rfl ?_
      obtain ⟨fs9, co_30, jo9⟩ := jv_o8 hI g_j_tape
      obtain ⟨bytes_30, size_30, rfl, g_bytes_30, ⟨size_30a, size_30b⟩⟩ := jo9
      refine iz_put (D := (dC, dI)) (ci := 8) (v := .int (kz 0)) (ty := .int) (C := RX8) (T := TX8) (N := 2) hx hb hts hinX8 tyX8 tyX8_ok nmX8 hown hK co_30 hS (jv_A hI g_j_tape (show (30 : Nat) ≠ 0 by decide)) rfl 1 (by decide) hL60 (fun _ h9 => h9) rfl (by decide +kernel) rfl rfl (Nat.le_of_ble_eq_true rfl) dX11_rule_142 (fun H locs c9 oq hS => ?_)
      have hI := jv_set hI c9 oq (by rw [g_j_tape]; exact jv_c8 ⟨bytes_30, 0, rfl, g_bytes_30, ⟨by omega, by omega⟩⟩)
      have hO := hO.kept (oq _ (kn_ne g_o g_j_tape (show (999 : Nat) ≠ 8 by decide)))
      have co_1 := co_1.kept (oq _ (kn_ne g_j_tongue g_j_tape (show (9 : Nat) ≠ 8 by decide)))
      have co_30 := c9
      clear oq c9
      refine lv_iload hx hb dX11_rule_145 (lv_at hl 0 rfl) ?_
      refine W.widen (k := 2) (n := 25) (Nat.le_of_ble_eq_true rfl) (Nat.le_of_ble_eq_true rfl) ?_
      exact W.iret (v := kz (-1)) hx hb hr (fun t9 ht hW => ⟨⟨kz (-1), (X, st), rfl, ⟨hP, rfl⟩, jK_warm hW ⟨hK, hN⟩, by rw [ht]; exact ⟨hI, hO⟩⟩, hS.F ht⟩) hS.2.2 dX11_rule_147
