set_option maxHeartbeats 4000000 in
set_option maxRecDepth 100000 in
/-- X10_waysTo -/
theorem c_waysTo (l : Launch) (dC : Nat → ClassId) (dI : Nat → Nat → Nat) (ca : Nat → ClassId) (A : Nat → Prop) (X : jG) (hU : jU X) (Hp : Heap) (a0 : Nat) (ch : Nat) (kd : Int) (id : Nat) (o : Nat) (forms_ch : Nat) (rules_ch : Nat) (size_ch : Int) (g_a0 : X.1 a0 = (10, 30, 0, 0, 0)) (g_ch : X.1 ch = (0, 30, id, 0, 0)) (g_forms_ch : X.1 forms_ch = (210, 24, 40, 2, (id : Int))) (g_rules_ch : X.1 rules_ch = (211, 25, 40, 7, (id : Int))) (size_chi : 0 ≤ size_ch ∧ size_ch ≤ 40) (x_ch_0 : size_ch ≤ (X.2.1 forms_ch : Int)) (kdi : 0 ≤ kd ∧ kd ≤ 5) (hA9 : ∀ q : Nat, Hp.size ≤ q → A q) (g_o : X.1 o = (999, 0, 0, 0, 0)) (ho : o < Hp.size) : Met l yX10_waysTo wsX10_waysTo ({ frames := 5, cells := 41, slots := 9640, locals := 118 }) (va_Pc [.ref a0, .ref ch, .int (kz kd)] (fun U => U.heap = Hp ∧ jK (dC, dI) ca U ∧ jv (dC, dI) ca A X U.heap ∧ va_at (dC, dI) vwCl (ch, .inr (0, [.ref forms_ch, .ref rules_ch, .int (kz size_ch)])) U.heap)) (va_Ql (fun (r : Int64) (u : jG) => prl X u o [2, 201, 7, 202, 237, 238]) (fun (u : jG) U => jK (dC, dI) ca U ∧ jv (dC, dI) ca A u U.heap ∧ U.heap[o]? = Hp[o]?) A) 41 9640 A := by
  refine Met.ofW (cc := cX10_waysTo) (maxL := 5) (ret := (some .long)) (by decide) rfl ?_
  intro p e s m args below meth c s₁ B hml hv
  obtain ⟨rfl, hHp, ⟨hK, hN⟩, hI, co_ch⟩ := hv
  have hx := B.exec
  have hb := B.bytes
  have hr := B.returns
  have hts := atoms_spec (ws := wsX10_waysTo) B.pre
  have hown : s.vm.findClass RX10 = some m.cls := findClass_of_methodNamed B.named
  have hL15 := hts (.fieldLink RX10 15 "JoinBench$Trees" "ways" "[[J") (by decide +kernel)
  have hL26 := hts (.fieldLink RX10 26 "JoinBench$Chain" "size" "I") (by decide +kernel)
  have hL35 := hts (.fieldLink RX10 35 "JoinBench$Chain" "forms" "[LJoinBench$Form;") (by decide +kernel)
  have hL39 := hts (.fieldLink RX10 39 "JoinBench$Form" "kind" "I") (by decide +kernel)
  have hinX0 : ∀ w ∈ u_ws RX0 TX0 3, w ∈ wsX10_waysTo := by decide +kernel
  have hinX10 : ∀ w ∈ u_ws RX10 TX10 2, w ∈ wsX10_waysTo := by decide +kernel
  have hinX2 : ∀ w ∈ u_ws RX2 TX2 8, w ∈ wsX10_waysTo := by decide +kernel
  obtain ⟨H, hH⟩ : ∃ H : Heap, H = s.heap := ⟨_, rfl⟩
  have hS : va_S A s.heap H [] := by rw [hH]; exact va_S.rf
  have hF : kfm X [] Hp H := by rw [hH, hHp]; exact fm_rf _ _ _
  clear hF
  obtain ⟨n0, hn0⟩ : ∃ n9 : Nat, n9 = Hp.size := ⟨_, rfl⟩
  have hA : ∀ q : Nat, n0 ≤ q → A q := by rw [hn0]; exact hA9
  have hsz : s.heap.size = n0 := by rw [hn0, hHp]
  have hP := prl_rf o [2, 201, 7, 202, 237, 238] hU
  have hFo : H[o]? = Hp[o]? := by rw [hH, hHp]
  have g_o0 : (X.1 o).2.1 = 0 := by rw [g_o]
  rw [← hH] at hI co_ch ⊢
  clear hH
  have hl := lv_entry ([.ref a0, .ref ch, .int (kz kd)]) (n := 5) (Nat.le_of_ble_eq_true rfl)
  rw [lg_entry_eq]
  generalize (lg_sl ([.ref a0, .ref ch, .int (kz kd)]) ++ List.replicate (5 - (lg_sl ([.ref a0, .ref ch, .int (kz kd)])).length) Slot.unset).toArray = ls at hl ⊢
  have hl : lv_has ls 5 [(0, .ref a0), (1, .ref ch), (2, .int (kz kd))] := hl
  refine lv_aload_n hx hb dX10_waysTo_0 rfl (lv_at hl 0 rfl) ?_
  obtain ⟨fs9, co_1, jo9⟩ := jv_o10 hI g_a0
  obtain ⟨kinds_1, ways_1, rfl, g_kinds_1, q_ways_1⟩ := jo9
  refine iz_get (D := (dC, dI)) (ci := 10) (v := va_rf ways_1) (C := RX10) (T := TX10) (N := 2) hx hb hts hinX10 hown hK co_1 rfl 1 (by decide) hL15 (fun _ h9 => h9) rfl dX10_waysTo_1 ?_
  rcases ways_1 with _ | b_2
  · refine W.eq (g2 := F0 m 4 ls [.null]) rfl ?_
    refine lv_ifnonnullN hx hb dX10_waysTo_4 ?_
    refine lv_aload_n hx hb dX10_waysTo_7 rfl (lv_at hl 0 rfl) ?_
    refine lv_bipush (v := kz 40) hx hb dX10_waysTo_8 (by decide) ?_
    refine lv_sipush (v := kz 240) hx hb dX10_waysTo_10 (by decide) ?_
    have hzH : n0 ≤ H.size := by have h8 := hS.1; omega
    refine jz_mna (ty := .long) (kd := 28) (N := 40) (M := 240) hx hb hown (hts (.classLink RX10 25 "[[J") (by decide +kernel)) (jN_AO hN).2.2.2.2 (hts (.arrayClass .long) (by decide +kernel)) hK 3 8 rfl rfl (fun h9 => h9) hS (fun q h8 => hA q (by omega)) (by decide) (by decide) (by decide) (by decide) (by decide) (r0 := (240, .inr (.inl (fun _ => 0)))) rfl rfl rfl (Nat.le_of_ble_eq_true rfl) (Nat.le_of_ble_eq_true rfl) dX10_waysTo_13 (fun x_3 H locs hx9 c_x_3 r9 oq hz9 hS => ?_)
    have hu9 : ∀ q : Nat, x_3 ≤ q → (X.1 q).2.1 = 0 := fun q hq => jv_out hI (by omega)
    have co_ch := co_ch.kept (oq _ co_ch.lt)
    have co_1 := co_1.kept (oq _ co_1.lt)
    have hlt_o : o < x_3 := by omega
    have hFo := (oq _ (by omega)).trans hFo
    have hz8 : n0 ≤ x_3 := by rw [hx9]; exact hzH
    have hle9 := jmul_le (X := X) (x := x_3) (N := 40) (237, 28, 40, 238, 240) (238, 23, 240, 0, 0) hu9
    have hI := jv_mul (x := x_3) (N := 40) (t := (237, 28, 40, 238, 240)) (tr := (238, 23, 240, 0, 0)) hI (by omega) (fun q h9 => hA q (by omega)) (fun q hq => oq q (jv_lt hI hq)) c_x_3 r9 (jq_e28 (fun j hj => ⟨x_3 + 1 + j, if_pos hj, jmul_row X _ _ (by omega)⟩)) (fun q => jz_e23)
    have hU := jmul_U (x := x_3) (N := 40) (t := (237, 28, 40, 238, 240)) (tr := (238, 23, 240, 0, 0)) hU (fun q9 => absurd q9 (show ¬ uq 237 = true by decide)) (by decide)
    have hP := prl_mul (x := x_3) (N := 40) (t := (237, 28, 40, 238, 240)) (tr := (238, 23, 240, 0, 0)) hP hu9 hU hlt_o (by decide) (by decide)
    have g_x_3 := jmul_self X x_3 40 (237, 28, 40, 238, 240) (238, 23, 240, 0, 0)
    have g_o : (jmul X x_3 40 (237, 28, 40, 238, 240) (238, 23, 240, 0, 0)).1 o = (999, 0, 0, 0, 0) := by rw [jmul_ne X _ _ (Or.inl hlt_o)]; exact g_o
    have g_o0 : ((jmul X x_3 40 (237, 28, 40, 238, 240) (238, 23, 240, 0, 0)).1 o).2.1 = 0 := by rw [g_o]
    obtain ⟨X, hY9⟩ : ∃ Y9 : jG, Y9 = jmul X x_3 40 (237, 28, 40, 238, 240) (238, 23, 240, 0, 0) := ⟨_, rfl⟩
    rw [← hY9] at hle9 hI hU hP g_x_3 g_o g_o0
    clear hY9
    have hzH : n0 ≤ H.size := by have h8 := hS.1; omega
    have x_ch_0 : size_ch ≤ (X.2.1 forms_ch : Int) := by rw [(hle9.1 forms_ch (by rw [g_forms_ch]; exact (by decide : (24 : Nat) ≠ 0))).2]; exact x_ch_0
    have g_a0 := le_t hle9 g_a0 (show (30 : Nat) ≠ 0 by decide)
    have g_ch := le_t hle9 g_ch (show (30 : Nat) ≠ 0 by decide)
    have g_forms_ch := le_t hle9 g_forms_ch (show (24 : Nat) ≠ 0 by decide)
    have g_rules_ch := le_t hle9 g_rules_ch (show (25 : Nat) ≠ 0 by decide)
    have g_kinds_1 := le_t hle9 g_kinds_1 (show (20 : Nat) ≠ 0 by decide)
    clear hle9 hu9 hz8 oq hz9 hx9 r9
    refine iz_put (D := (dC, dI)) (ci := 10) (v := .ref x_3) (ty := .array (.array .long)) (C := RX10) (T := TX10) (N := 2) hx hb hts hinX10 tyX10 tyX10_ok nmX10 hown hK co_1 hS (jv_A hI g_a0 (show (30 : Nat) ≠ 0 by decide)) rfl 1 (by decide) hL15 (fun _ h9 => h9) rfl (by decide +kernel) rfl rfl (Nat.le_of_ble_eq_true rfl) dX10_waysTo_17 (fun H locs c9 oq hS => ?_)
    have hI := jv_set hI c9 oq (by rw [g_a0]; exact jv_c10 ⟨kinds_1, some x_3, rfl, g_kinds_1, fun b9 q9 => (by cases q9; exact g_x_3)⟩)
    have co_ch := co_ch.kept (oq _ (kn_ne g_ch g_a0 (show (0 : Nat) ≠ 10 by decide)))
    have hFo := (oq _ (kn_ne0 g_a0 g_o0 (show (30 : Nat) ≠ 0 by decide)).symm).trans hFo
    have co_1 := c9
    clear oq c9
    refine lv_aload_n hx hb dX10_waysTo_20 rfl (lv_at hl 1 rfl) ?_
    refine iz_get (D := (dC, dI)) (ci := 0) (v := .int (kz size_ch)) (C := RX0) (T := TX0) (N := 3) hx hb hts hinX0 hown hK co_ch rfl 2 (by decide) hL26 (fun _ h9 => h9) rfl dX10_waysTo_21 ?_
    refine lv_iconst (v := kz 1) hx hb dX10_waysTo_24 rfl ?_
    refine iz_ge (tgt := 30) hx hb dX10_waysTo_25 (by decide) (by unfold rg2; omega) (fun br_4 => ?_) (fun br_4 => ?_)
    · refine lv_iconst (v := kz 0) hx hb dX10_waysTo_30 rfl ?_
      refine lv_istore_n (lv' := [(3, .int (kz 0)), (0, .ref a0), (1, .ref ch), (2, .int (kz kd))]) hx hb dX10_waysTo_31 rfl hl (by decide) rfl (fun ls hl => ?_)
      refine iz_loopA1 (α := Unit) (P := fun N9 _u9 k H locs ls => (0 ≤ k) ∧ (k ≤ 40) ∧ 40 - k ≤ (N9 : Int) ∧ lv_has ls 5 [(3, .int (kz k)), (0, .ref a0), (1, .ref ch), (2, .int (kz kd))] ∧ jv (dC, dI) ca A X H ∧ va_S A s.heap H locs ∧ H[o]? = Hp[o]? ∧ va_at (dC, dI) vwCl (a0, .inr (10, [.ref kinds_1, .ref x_3])) H ∧ va_at (dC, dI) vwCl (ch, .inr (0, [.ref forms_ch, .ref rules_ch, .int (kz size_ch)])) H) 100000 () (x0 := 0) ?_ ⟨by omega, by omega, by omega, lv_sub hl [0, 1, 2, 3] rfl, hI, hS, hFo, co_1, co_ch⟩
      intro n_5 _u9 k H locs ls ⟨n_5f0, n_5f1, n_5f2, hl, hI, hS, hFo, co_1, co_ch⟩ ihn_5
      refine lv_iload_n hx hb dX10_waysTo_32 rfl (lv_at hl 0 rfl) ?_
      refine lv_aload_n hx hb dX10_waysTo_33 rfl (lv_at hl 2 rfl) ?_
      refine iz_get (D := (dC, dI)) (ci := 0) (v := .int (kz size_ch)) (C := RX0) (T := TX0) (N := 3) hx hb hts hinX0 hown hK co_ch rfl 2 (by decide) hL26 (fun _ h9 => h9) rfl dX10_waysTo_34 ?_
      refine iz_ge (tgt := 73) hx hb dX10_waysTo_37 (by decide) (by unfold rg2; omega) (fun br_6 => ?_) (fun br_6 => ?_)
      · refine lv_iconst (v := kz 1) hx hb dX10_waysTo_73 rfl ?_
        refine lv_istore_n (lv' := [(3, .int (kz 1)), (0, .ref a0), (1, .ref ch), (2, .int (kz kd))]) hx hb dX10_waysTo_74 rfl hl (by decide) rfl (fun ls hl => ?_)
        refine iz_loopA1 (α := Unit) (P := fun N9 _u9 mo H locs ls => (1 ≤ mo) ∧ (mo ≤ 40) ∧ 40 - mo ≤ (N9 : Int) ∧ lv_has ls 5 [(3, .int (kz mo)), (0, .ref a0), (1, .ref ch), (2, .int (kz kd))] ∧ jv (dC, dI) ca A X H ∧ va_S A s.heap H locs ∧ H[o]? = Hp[o]? ∧ va_at (dC, dI) vwCl (a0, .inr (10, [.ref kinds_1, .ref x_3])) H ∧ va_at (dC, dI) vwCl (ch, .inr (0, [.ref forms_ch, .ref rules_ch, .int (kz size_ch)])) H) 100000 () (x0 := 1) ?_ ⟨by omega, by omega, by omega, lv_sub hl [0, 1, 2, 3] rfl, hI, hS, hFo, co_1, co_ch⟩
        intro n_7 _u9 mo H locs ls ⟨n_7f0, n_7f1, n_7f2, hl, hI, hS, hFo, co_1, co_ch⟩ ihn_7
        refine lv_iload_n hx hb dX10_waysTo_75 rfl (lv_at hl 0 rfl) ?_
        refine lv_aload_n hx hb dX10_waysTo_76 rfl (lv_at hl 2 rfl) ?_
        refine iz_get (D := (dC, dI)) (ci := 0) (v := .int (kz size_ch)) (C := RX0) (T := TX0) (N := 3) hx hb hts hinX0 hown hK co_ch rfl 2 (by decide) hL26 (fun _ h9 => h9) rfl dX10_waysTo_77 ?_
        refine iz_ge (tgt := 116) hx hb dX10_waysTo_80 (by decide) (by unfold rg2; omega) (fun br_8 => ?_) (fun br_8 => ?_)
        · refine lv_aload_n hx hb dX10_waysTo_116 rfl (lv_at hl 1 rfl) ?_
          refine iz_get (D := (dC, dI)) (ci := 10) (v := .ref x_3) (C := RX10) (T := TX10) (N := 2) hx hb hts hinX10 hown hK co_1 rfl 1 (by decide) hL15 (fun _ h9 => h9) rfl dX10_waysTo_117 ?_
          refine lv_iconst (v := kz 0) hx hb dX10_waysTo_120 rfl ?_
          obtain ⟨f_9, c_f_9, k_f_9⟩ := jv_q28 hI g_x_3
          refine jz_aald hx hb hK 8 c_f_9 rfl rfl (by omega) (by decide) dX10_waysTo_121 ?_
          obtain ⟨b_10, eb_10, g_b_10⟩ := k_f_9 (Int.toNat 0) (by omega)
          rw [eb_10]
          have g_b_10 : X.1 b_10 = (238, 23, 240, 0, 0) := g_b_10
          refine W.eq (g2 := F0 m 122 ls [.ref b_10]) rfl ?_
          refine lv_aload_n hx hb dX10_waysTo_122 rfl (lv_at hl 2 rfl) ?_
          refine iz_get (D := (dC, dI)) (ci := 0) (v := .int (kz size_ch)) (C := RX0) (T := TX0) (N := 3) hx hb hts hinX0 hown hK co_ch rfl 2 (by decide) hL26 (fun _ h9 => h9) rfl dX10_waysTo_123 ?_
          refine lv_iconst (v := kz 1) hx hb dX10_waysTo_126 rfl ?_
          refine iz_isub hx hb dX10_waysTo_127 ?_
          refine lv_bipush (v := kz 6) hx hb dX10_waysTo_128 (by decide) ?_
          refine iz_imul hx hb dX10_waysTo_130 ?_
          refine lv_iload_n hx hb dX10_waysTo_131 rfl (lv_at hl 3 rfl) ?_
          refine iz_iadd hx hb dX10_waysTo_132 ?_
          obtain ⟨f_11, c_f_11⟩ := iv_o23 (jv_iv hI) g_b_10
          refine iz_lald hx hb hK 3 c_f_11 rfl (by omega) (by decide) dX10_waysTo_133 ?_
          refine lv_topl (fun y_12 ey_12 => ?_)
          refine W.widen (k := 41) (n := 9640) (Nat.le_of_ble_eq_true rfl) (Nat.le_of_ble_eq_true rfl) ?_
          exact W.lret (v := y_12) hx hb hr (fun t9 ht hW => ⟨⟨y_12, X, rfl, hP, jK_warm hW ⟨hK, hN⟩, by rw [ht]; exact ⟨hI, hFo⟩⟩, hS.F ht⟩) hS.2.2 dX10_waysTo_134
        · refine lv_iconst (v := kz 0) hx hb dX10_waysTo_83 rfl ?_
          refine lv_istore (lv' := [(4, .int (kz 0)), (3, .int (kz mo)), (0, .ref a0), (1, .ref ch), (2, .int (kz kd))]) hx hb dX10_waysTo_84 hl (by decide) rfl (fun ls hl => ?_)
          refine iz_loopA1 (α := Unit) (P := fun N9 _u9 sa H locs ls => (0 ≤ sa) ∧ (sa ≤ 40) ∧ 40 - sa ≤ (N9 : Int) ∧ lv_has ls 5 [(4, .int (kz sa)), (3, .int (kz mo)), (0, .ref a0), (1, .ref ch), (2, .int (kz kd))] ∧ jv (dC, dI) ca A X H ∧ va_S A s.heap H locs ∧ H[o]? = Hp[o]? ∧ va_at (dC, dI) vwCl (a0, .inr (10, [.ref kinds_1, .ref x_3])) H ∧ va_at (dC, dI) vwCl (ch, .inr (0, [.ref forms_ch, .ref rules_ch, .int (kz size_ch)])) H) 100000 () (x0 := 0) ?_ ⟨by omega, by omega, by omega, lv_sub hl [0, 1, 2, 3, 4] rfl, hI, hS, hFo, co_1, co_ch⟩
          intro n_13 _u9 sa H locs ls ⟨n_13f0, n_13f1, n_13f2, hl, hI, hS, hFo, co_1, co_ch⟩ ihn_13
          refine lv_iload hx hb dX10_waysTo_86 (lv_at hl 0 rfl) ?_
          refine lv_iload_n hx hb dX10_waysTo_88 rfl (lv_at hl 1 rfl) ?_
          refine iz_iadd hx hb dX10_waysTo_89 ?_
          refine lv_aload_n hx hb dX10_waysTo_90 rfl (lv_at hl 3 rfl) ?_
          refine iz_get (D := (dC, dI)) (ci := 0) (v := .int (kz size_ch)) (C := RX0) (T := TX0) (N := 3) hx hb hts hinX0 hown hK co_ch rfl 2 (by decide) hL26 (fun _ h9 => h9) rfl dX10_waysTo_91 ?_
          refine iz_ge (tgt := 110) hx hb dX10_waysTo_94 (by decide) (by unfold rg2; omega) (fun br_14 => ?_) (fun br_14 => ?_)
          · refine lv_iinc (v := kz (mo + 1)) (lv' := [(3, .int (kz (mo + 1))), (4, .int (kz sa)), (0, .ref a0), (1, .ref ch), (2, .int (kz kd))]) hx hb dX10_waysTo_110 hl (k := 1) rfl (kz_add mo 1) (by decide) rfl (fun ls hl => ?_)
            refine lv_goto (tgt := 75) hx hb dX10_waysTo_113 (by decide) ?_
            exact ihn_7 (n_7 - 1) (by omega) () (mo + 1) _ _ _ ⟨by omega, by omega, by omega, lv_sub hl [0, 2, 3, 4] rfl, hI, hS, hFo, co_1, co_ch⟩
          · refine lv_aload_n hx hb dX10_waysTo_97 rfl (lv_at hl 2 rfl) ?_
            refine lv_iload hx hb dX10_waysTo_98 (lv_at hl 0 rfl) ?_
            refine lv_iload_n hx hb dX10_waysTo_100 rfl (lv_at hl 1 rfl) ?_
            refine va_callv (va_runV (As := [.int (kz sa), .int (kz mo)]) (rest := []) ⟨hx, hb, hml, hown, hts⟩ (c_addSplits l dC dI ca A X hU H a0 sa mo kinds_1 x_3 g_a0 g_kinds_1 g_x_3 (by omega)) (cwV 2 hts gX10_waysTo_X10_addSplits rfl rfl rfl (by decide +kernel) ⟨Nat.le_of_ble_eq_true rfl, Nat.le_of_ble_eq_true rfl⟩) ⟨fun a U g mk q => by obtain ⟨q0, qH, ⟨qK, qN⟩, qI⟩ := q; exact ⟨q0, qH, ⟨va_K.moved (u := U) (U := U.calling g mk a) (Vm.Alike.refl U.vm) qK, jN_same (U := U.calling g mk a) rfl qN⟩, qI⟩, va_recv hK (at_P co_1) (ci := 10) (q0 := 0) rfl rfl, fun U hU hW => ⟨rfl, hU, jK_warm hW ⟨hK, hN⟩, by rw [hU]; exact ⟨hI, co_1⟩⟩⟩ rfl rfl hl.1 rfl (lv_room (Nat.le_of_ble_eq_true rfl)) dX10_waysTo_101 ⟨Nat.le_of_ble_eq_true rfl, Nat.le_of_ble_eq_true rfl⟩) hS (fun q _ h => h) (fun q h => h) (fun u t9 H locs ht hvm hw_15 hB hz1 hk1 hS => ?_)
            obtain ⟨-, hI, hf9⟩ := hB
            rw [ht] at hI hf9
            clear ht hvm hz1
            have hFo := (hf9 o (by rw [g_o]; decide)).trans hFo
            have co_ch := fm_at hf9 g_ch (show (0 : Nat) ∉ ([238] : List Nat) by decide) co_ch
            have co_1 := fm_at hf9 g_a0 (show (10 : Nat) ∉ ([238] : List Nat) by decide) co_1
            clear hk1 hf9
            refine lv_iinc (v := kz (sa + 1)) (lv' := [(4, .int (kz (sa + 1))), (3, .int (kz mo)), (0, .ref a0), (1, .ref ch), (2, .int (kz kd))]) hx hb dX10_waysTo_104 hl (k := 0) rfl (kz_add sa 1) (by decide) rfl (fun ls hl => ?_)
            refine lv_goto (tgt := 86) hx hb dX10_waysTo_107 (by decide) ?_
            exact ihn_13 (n_13 - 1) (by omega) () (sa + 1) _ _ _ ⟨by omega, by omega, by omega, lv_sub hl [0, 1, 2, 3, 4] rfl, hI, hS, hFo, co_1, co_ch⟩
      · refine lv_aload_n hx hb dX10_waysTo_40 rfl (lv_at hl 1 rfl) ?_
        refine iz_get (D := (dC, dI)) (ci := 10) (v := .ref x_3) (C := RX10) (T := TX10) (N := 2) hx hb hts hinX10 hown hK co_1 rfl 1 (by decide) hL15 (fun _ h9 => h9) rfl dX10_waysTo_41 ?_
        refine lv_iload_n hx hb dX10_waysTo_44 rfl (lv_at hl 0 rfl) ?_
        obtain ⟨f_17, c_f_17, k_f_17⟩ := jv_q28 hI g_x_3
        refine jz_aald hx hb hK 8 c_f_17 rfl rfl (by omega) (by decide) dX10_waysTo_45 ?_
        obtain ⟨b_18, eb_18, g_b_18⟩ := k_f_17 (Int.toNat k) (by omega)
        rw [eb_18]
        have g_b_18 : X.1 b_18 = (238, 23, 240, 0, 0) := g_b_18
        refine W.eq (g2 := F0 m 46 ls [.ref b_18]) rfl ?_
        refine lv_lconst (v := 0) hx hb dX10_waysTo_46 (by decide) ?_
        refine va_callv (va_runS (As := [.ref b_18, .long 0]) (rest := []) ⟨hx, hb, hml, hown, hts⟩ (c_fill238 l dC dI ca A X hU H b_18 0 g_b_18) (va_cwS 2 hts gX10_waysTo_J7_fill_d0a16 rfl rfl rfl (by decide +kernel) ⟨Nat.le_of_ble_eq_true rfl, Nat.le_of_ble_eq_true rfl⟩) ⟨fun a U g mk q => by obtain ⟨q0, qH, ⟨qK, qN⟩, qI⟩ := q; exact ⟨q0, qH, ⟨va_K.moved (u := U) (U := U.calling g mk a) (Vm.Alike.refl U.vm) qK, jN_same (U := U.calling g mk a) rfl qN⟩, qI⟩, fun U hU hW => ⟨rfl, hU, jK_warm hW ⟨hK, hN⟩, by rw [hU]; exact hI⟩⟩ rfl rfl hl.1 rfl (lv_room (Nat.le_of_ble_eq_true rfl)) dX10_waysTo_47 ⟨Nat.le_of_ble_eq_true rfl, Nat.le_of_ble_eq_true rfl⟩) hS (fun q _ h => h) (fun q h => h) (fun u t9 H locs ht hvm hw_19 hB hz1 hk1 hS => ?_)
        obtain ⟨-, hI, hf9⟩ := hB
        rw [ht] at hI hf9
        clear ht hvm hz1
        have hFo := (hf9 o (by rw [g_o]; decide)).trans hFo
        have co_ch := fm_at hf9 g_ch (show (0 : Nat) ∉ ([238] : List Nat) by decide) co_ch
        have co_1 := fm_at hf9 g_a0 (show (10 : Nat) ∉ ([238] : List Nat) by decide) co_1
        have c_f_17 := fm_at hf9 g_x_3 (show (237 : Nat) ∉ ([238] : List Nat) by decide) c_f_17
        clear hk1 hf9
        refine lv_aload_n hx hb dX10_waysTo_50 rfl (lv_at hl 1 rfl) ?_
        refine iz_get (D := (dC, dI)) (ci := 10) (v := .ref x_3) (C := RX10) (T := TX10) (N := 2) hx hb hts hinX10 hown hK co_1 rfl 1 (by decide) hL15 (fun _ h9 => h9) rfl dX10_waysTo_51 ?_
        refine lv_iload_n hx hb dX10_waysTo_54 rfl (lv_at hl 0 rfl) ?_
        refine jz_aald hx hb hK 8 c_f_17 rfl rfl (by omega) (by decide) dX10_waysTo_55 ?_
        rw [eb_18]
        refine W.eq (g2 := F0 m 56 ls [.ref b_18]) rfl ?_
        refine lv_aload_n hx hb dX10_waysTo_56 rfl (lv_at hl 2 rfl) ?_
        refine iz_get (D := (dC, dI)) (ci := 0) (v := .ref forms_ch) (C := RX0) (T := TX0) (N := 3) hx hb hts hinX0 hown hK co_ch rfl 0 (by decide) hL35 (fun _ h9 => h9) rfl dX10_waysTo_57 ?_
        refine lv_iload_n hx hb dX10_waysTo_60 rfl (lv_at hl 0 rfl) ?_
        obtain ⟨f_22, c_f_22, k_f_22⟩ := jv_q24 hI g_forms_ch
        refine jz_aald hx hb hK 4 c_f_22 rfl rfl (by omega) (by decide) dX10_waysTo_61 ?_
        obtain ⟨b_23, eb_23⟩ : ∃ b9 : Nat, f_22 (Int.toNat k) = some b9 := Option.ne_none_iff_exists'.mp ((k_f_22 (Int.toNat k) (by omega)).2 (by omega))
        have g_b_23 := (k_f_22 (Int.toNat k) (by omega)).1 b_23 eb_23
        rw [eb_23]
        refine W.eq (g2 := F0 m 62 ls [.ref b_23, .ref b_18]) rfl ?_
        obtain ⟨fs9, co_24, jo9⟩ := jv_o2 hI g_b_23
        obtain ⟨ln_24, letters_24, kind_24, stem_24, kept_24, cost_24, number_24, ends_24, begins_24, rfl, g_letters_24, ⟨kind_24a, kind_24b⟩, ⟨stem_24a, stem_24b⟩, ⟨kept_24a, kept_24b⟩, ⟨cost_24a, cost_24b⟩, ⟨number_24a, number_24b⟩, ⟨ends_24a, ends_24b⟩, ⟨begins_24a, begins_24b⟩, x_24_0, x_24_1, x_24_2, x_24_3⟩ := jo9
        refine iz_get (D := (dC, dI)) (ci := 2) (v := .int (kz kind_24)) (C := RX2) (T := TX2) (N := 8) hx hb hts hinX2 hown hK co_24 rfl 1 (by decide) hL39 (fun _ h9 => h9) rfl dX10_waysTo_62 ?_
        refine lv_lconst (v := 1) hx hb dX10_waysTo_65 (by decide) ?_
        obtain ⟨f_25, c_f_25⟩ := iv_o23 (jv_iv hI) g_b_18
        refine iz_last hx hb hK 3 c_f_25 hS (jv_A hI g_b_18 (show (23 : Nat) ≠ 0 by decide)) rfl (by omega) (by decide) dX10_waysTo_66 (fun H locs c9 oq hS => ?_)
        have hI := jv_s23 hI g_b_18 c9 oq
        have c_f_17 := c_f_17.kept (oq _ (kn_ne g_x_3 g_b_18 (show (237 : Nat) ≠ 238 by decide)))
        have c_f_22 := c_f_22.kept (oq _ (kn_ne g_forms_ch g_b_18 (show (210 : Nat) ≠ 238 by decide)))
        have co_ch := co_ch.kept (oq _ (kn_ne g_ch g_b_18 (show (0 : Nat) ≠ 238 by decide)))
        have co_1 := co_1.kept (oq _ (kn_ne g_a0 g_b_18 (show (10 : Nat) ≠ 238 by decide)))
        have co_24 := co_24.kept (oq _ (kn_ne g_b_23 g_b_18 (show (2 : Nat) ≠ 238 by decide)))
        have hFo := (oq _ (kn_ne0 g_b_18 g_o0 (show (23 : Nat) ≠ 0 by decide)).symm).trans hFo
        clear oq c9
        refine lv_iinc (v := kz (k + 1)) (lv' := [(3, .int (kz (k + 1))), (0, .ref a0), (1, .ref ch), (2, .int (kz kd))]) hx hb dX10_waysTo_67 hl (k := 0) rfl (kz_add k 1) (by decide) rfl (fun ls hl => ?_)
        refine lv_goto (tgt := 32) hx hb dX10_waysTo_70 (by decide) ?_
        exact ihn_5 (n_5 - 1) (by omega) () (k + 1) _ _ _ ⟨by omega, by omega, by omega, lv_sub hl [0, 1, 2, 3] rfl, hI, hS, hFo, co_1, co_ch⟩
    · refine lv_lconst (v := 0) hx hb dX10_waysTo_28 (by decide) ?_
      refine W.widen (k := 41) (n := 9640) (Nat.le_of_ble_eq_true rfl) (Nat.le_of_ble_eq_true rfl) ?_
      exact W.lret (v := 0) hx hb hr (fun t9 ht hW => ⟨⟨0, X, rfl, hP, jK_warm hW ⟨hK, hN⟩, by rw [ht]; exact ⟨hI, hFo⟩⟩, hS.F ht⟩) hS.2.2 dX10_waysTo_29
  · have g_b_2 := q_ways_1 b_2 rfl
    refine W.eq (g2 := F0 m 4 ls [.ref b_2]) rfl ?_
    refine lv_ifnonnull (tgt := 20) hx hb dX10_waysTo_4 (by decide) ?_
    refine lv_aload_n hx hb dX10_waysTo_20 rfl (lv_at hl 1 rfl) ?_
    refine iz_get (D := (dC, dI)) (ci := 0) (v := .int (kz size_ch)) (C := RX0) (T := TX0) (N := 3) hx hb hts hinX0 hown hK co_ch rfl 2 (by decide) hL26 (fun _ h9 => h9) rfl dX10_waysTo_21 ?_
    refine lv_iconst (v := kz 1) hx hb dX10_waysTo_24 rfl ?_
    refine iz_ge (tgt := 30) hx hb dX10_waysTo_25 (by decide) (by unfold rg2; omega) (fun br_26 => ?_) (fun br_26 => ?_)
    · refine lv_iconst (v := kz 0) hx hb dX10_waysTo_30 rfl ?_
      refine lv_istore_n (lv' := [(3, .int (kz 0)), (0, .ref a0), (1, .ref ch), (2, .int (kz kd))]) hx hb dX10_waysTo_31 rfl hl (by decide) rfl (fun ls hl => ?_)
      refine iz_loopA1 (α := Unit) (P := fun N9 _u9 k H locs ls => (0 ≤ k) ∧ (k ≤ 40) ∧ 40 - k ≤ (N9 : Int) ∧ lv_has ls 5 [(3, .int (kz k)), (0, .ref a0), (1, .ref ch), (2, .int (kz kd))] ∧ jv (dC, dI) ca A X H ∧ va_S A s.heap H locs ∧ H[o]? = Hp[o]? ∧ va_at (dC, dI) vwCl (a0, .inr (10, [.ref kinds_1, .ref b_2])) H ∧ va_at (dC, dI) vwCl (ch, .inr (0, [.ref forms_ch, .ref rules_ch, .int (kz size_ch)])) H) 100000 () (x0 := 0) ?_ ⟨by omega, by omega, by omega, lv_sub hl [0, 1, 2, 3] rfl, hI, hS, hFo, co_1, co_ch⟩
      intro n_27 _u9 k H locs ls ⟨n_27f0, n_27f1, n_27f2, hl, hI, hS, hFo, co_1, co_ch⟩ ihn_27
      refine lv_iload_n hx hb dX10_waysTo_32 rfl (lv_at hl 0 rfl) ?_
      refine lv_aload_n hx hb dX10_waysTo_33 rfl (lv_at hl 2 rfl) ?_
      refine iz_get (D := (dC, dI)) (ci := 0) (v := .int (kz size_ch)) (C := RX0) (T := TX0) (N := 3) hx hb hts hinX0 hown hK co_ch rfl 2 (by decide) hL26 (fun _ h9 => h9) rfl dX10_waysTo_34 ?_
      refine iz_ge (tgt := 73) hx hb dX10_waysTo_37 (by decide) (by unfold rg2; omega) (fun br_28 => ?_) (fun br_28 => ?_)
      · refine lv_iconst (v := kz 1) hx hb dX10_waysTo_73 rfl ?_
        refine lv_istore_n (lv' := [(3, .int (kz 1)), (0, .ref a0), (1, .ref ch), (2, .int (kz kd))]) hx hb dX10_waysTo_74 rfl hl (by decide) rfl (fun ls hl => ?_)
        refine iz_loopA1 (α := Unit) (P := fun N9 _u9 mo H locs ls => (1 ≤ mo) ∧ (mo ≤ 40) ∧ 40 - mo ≤ (N9 : Int) ∧ lv_has ls 5 [(3, .int (kz mo)), (0, .ref a0), (1, .ref ch), (2, .int (kz kd))] ∧ jv (dC, dI) ca A X H ∧ va_S A s.heap H locs ∧ H[o]? = Hp[o]? ∧ va_at (dC, dI) vwCl (a0, .inr (10, [.ref kinds_1, .ref b_2])) H ∧ va_at (dC, dI) vwCl (ch, .inr (0, [.ref forms_ch, .ref rules_ch, .int (kz size_ch)])) H) 100000 () (x0 := 1) ?_ ⟨by omega, by omega, by omega, lv_sub hl [0, 1, 2, 3] rfl, hI, hS, hFo, co_1, co_ch⟩
        intro n_29 _u9 mo H locs ls ⟨n_29f0, n_29f1, n_29f2, hl, hI, hS, hFo, co_1, co_ch⟩ ihn_29
        refine lv_iload_n hx hb dX10_waysTo_75 rfl (lv_at hl 0 rfl) ?_
        refine lv_aload_n hx hb dX10_waysTo_76 rfl (lv_at hl 2 rfl) ?_
        refine iz_get (D := (dC, dI)) (ci := 0) (v := .int (kz size_ch)) (C := RX0) (T := TX0) (N := 3) hx hb hts hinX0 hown hK co_ch rfl 2 (by decide) hL26 (fun _ h9 => h9) rfl dX10_waysTo_77 ?_
        refine iz_ge (tgt := 116) hx hb dX10_waysTo_80 (by decide) (by unfold rg2; omega) (fun br_30 => ?_) (fun br_30 => ?_)
        · refine lv_aload_n hx hb dX10_waysTo_116 rfl (lv_at hl 1 rfl) ?_
          refine iz_get (D := (dC, dI)) (ci := 10) (v := .ref b_2) (C := RX10) (T := TX10) (N := 2) hx hb hts hinX10 hown hK co_1 rfl 1 (by decide) hL15 (fun _ h9 => h9) rfl dX10_waysTo_117 ?_
          refine lv_iconst (v := kz 0) hx hb dX10_waysTo_120 rfl ?_
          obtain ⟨f_31, c_f_31, k_f_31⟩ := jv_q28 hI g_b_2
          refine jz_aald hx hb hK 8 c_f_31 rfl rfl (by omega) (by decide) dX10_waysTo_121 ?_
          obtain ⟨b_32, eb_32, g_b_32⟩ := k_f_31 (Int.toNat 0) (by omega)
          rw [eb_32]
          have g_b_32 : X.1 b_32 = (238, 23, 240, 0, 0) := g_b_32
          refine W.eq (g2 := F0 m 122 ls [.ref b_32]) rfl ?_
          refine lv_aload_n hx hb dX10_waysTo_122 rfl (lv_at hl 2 rfl) ?_
          refine iz_get (D := (dC, dI)) (ci := 0) (v := .int (kz size_ch)) (C := RX0) (T := TX0) (N := 3) hx hb hts hinX0 hown hK co_ch rfl 2 (by decide) hL26 (fun _ h9 => h9) rfl dX10_waysTo_123 ?_
          refine lv_iconst (v := kz 1) hx hb dX10_waysTo_126 rfl ?_
          refine iz_isub hx hb dX10_waysTo_127 ?_
          refine lv_bipush (v := kz 6) hx hb dX10_waysTo_128 (by decide) ?_
          refine iz_imul hx hb dX10_waysTo_130 ?_
          refine lv_iload_n hx hb dX10_waysTo_131 rfl (lv_at hl 3 rfl) ?_
          refine iz_iadd hx hb dX10_waysTo_132 ?_
          obtain ⟨f_33, c_f_33⟩ := iv_o23 (jv_iv hI) g_b_32
          refine iz_lald hx hb hK 3 c_f_33 rfl (by omega) (by decide) dX10_waysTo_133 ?_
          refine lv_topl (fun y_34 ey_34 => ?_)
          refine W.widen (k := 41) (n := 9640) (Nat.le_of_ble_eq_true rfl) (Nat.le_of_ble_eq_true rfl) ?_
          exact W.lret (v := y_34) hx hb hr (fun t9 ht hW => ⟨⟨y_34, X, rfl, hP, jK_warm hW ⟨hK, hN⟩, by rw [ht]; exact ⟨hI, hFo⟩⟩, hS.F ht⟩) hS.2.2 dX10_waysTo_134
        · refine lv_iconst (v := kz 0) hx hb dX10_waysTo_83 rfl ?_
          refine lv_istore (lv' := [(4, .int (kz 0)), (3, .int (kz mo)), (0, .ref a0), (1, .ref ch), (2, .int (kz kd))]) hx hb dX10_waysTo_84 hl (by decide) rfl (fun ls hl => ?_)
          refine iz_loopA1 (α := Unit) (P := fun N9 _u9 sa H locs ls => (0 ≤ sa) ∧ (sa ≤ 40) ∧ 40 - sa ≤ (N9 : Int) ∧ lv_has ls 5 [(4, .int (kz sa)), (3, .int (kz mo)), (0, .ref a0), (1, .ref ch), (2, .int (kz kd))] ∧ jv (dC, dI) ca A X H ∧ va_S A s.heap H locs ∧ H[o]? = Hp[o]? ∧ va_at (dC, dI) vwCl (a0, .inr (10, [.ref kinds_1, .ref b_2])) H ∧ va_at (dC, dI) vwCl (ch, .inr (0, [.ref forms_ch, .ref rules_ch, .int (kz size_ch)])) H) 100000 () (x0 := 0) ?_ ⟨by omega, by omega, by omega, lv_sub hl [0, 1, 2, 3, 4] rfl, hI, hS, hFo, co_1, co_ch⟩
          intro n_35 _u9 sa H locs ls ⟨n_35f0, n_35f1, n_35f2, hl, hI, hS, hFo, co_1, co_ch⟩ ihn_35
          refine lv_iload hx hb dX10_waysTo_86 (lv_at hl 0 rfl) ?_
          refine lv_iload_n hx hb dX10_waysTo_88 rfl (lv_at hl 1 rfl) ?_
          refine iz_iadd hx hb dX10_waysTo_89 ?_
          refine lv_aload_n hx hb dX10_waysTo_90 rfl (lv_at hl 3 rfl) ?_
          refine iz_get (D := (dC, dI)) (ci := 0) (v := .int (kz size_ch)) (C := RX0) (T := TX0) (N := 3) hx hb hts hinX0 hown hK co_ch rfl 2 (by decide) hL26 (fun _ h9 => h9) rfl dX10_waysTo_91 ?_
          refine iz_ge (tgt := 110) hx hb dX10_waysTo_94 (by decide) (by unfold rg2; omega) (fun br_36 => ?_) (fun br_36 => ?_)
          · refine lv_iinc (v := kz (mo + 1)) (lv' := [(3, .int (kz (mo + 1))), (4, .int (kz sa)), (0, .ref a0), (1, .ref ch), (2, .int (kz kd))]) hx hb dX10_waysTo_110 hl (k := 1) rfl (kz_add mo 1) (by decide) rfl (fun ls hl => ?_)
            refine lv_goto (tgt := 75) hx hb dX10_waysTo_113 (by decide) ?_
            exact ihn_29 (n_29 - 1) (by omega) () (mo + 1) _ _ _ ⟨by omega, by omega, by omega, lv_sub hl [0, 2, 3, 4] rfl, hI, hS, hFo, co_1, co_ch⟩
          · refine lv_aload_n hx hb dX10_waysTo_97 rfl (lv_at hl 2 rfl) ?_
            refine lv_iload hx hb dX10_waysTo_98 (lv_at hl 0 rfl) ?_
            refine lv_iload_n hx hb dX10_waysTo_100 rfl (lv_at hl 1 rfl) ?_
            refine va_callv (va_runV (As := [.int (kz sa), .int (kz mo)]) (rest := []) ⟨hx, hb, hml, hown, hts⟩ (c_addSplits l dC dI ca A X hU H a0 sa mo kinds_1 b_2 g_a0 g_kinds_1 g_b_2 (by omega)) (cwV 2 hts gX10_waysTo_X10_addSplits rfl rfl rfl (by decide +kernel) ⟨Nat.le_of_ble_eq_true rfl, Nat.le_of_ble_eq_true rfl⟩) ⟨fun a U g mk q => by obtain ⟨q0, qH, ⟨qK, qN⟩, qI⟩ := q; exact ⟨q0, qH, ⟨va_K.moved (u := U) (U := U.calling g mk a) (Vm.Alike.refl U.vm) qK, jN_same (U := U.calling g mk a) rfl qN⟩, qI⟩, va_recv hK (at_P co_1) (ci := 10) (q0 := 0) rfl rfl, fun U hU hW => ⟨rfl, hU, jK_warm hW ⟨hK, hN⟩, by rw [hU]; exact ⟨hI, co_1⟩⟩⟩ rfl rfl hl.1 rfl (lv_room (Nat.le_of_ble_eq_true rfl)) dX10_waysTo_101 ⟨Nat.le_of_ble_eq_true rfl, Nat.le_of_ble_eq_true rfl⟩) hS (fun q _ h => h) (fun q h => h) (fun u t9 H locs ht hvm hw_37 hB hz1 hk1 hS => ?_)
            obtain ⟨-, hI, hf9⟩ := hB
            rw [ht] at hI hf9
            clear ht hvm hz1
            have hFo := (hf9 o (by rw [g_o]; decide)).trans hFo
            have co_ch := fm_at hf9 g_ch (show (0 : Nat) ∉ ([238] : List Nat) by decide) co_ch
            have co_1 := fm_at hf9 g_a0 (show (10 : Nat) ∉ ([238] : List Nat) by decide) co_1
            clear hk1 hf9
            refine lv_iinc (v := kz (sa + 1)) (lv' := [(4, .int (kz (sa + 1))), (3, .int (kz mo)), (0, .ref a0), (1, .ref ch), (2, .int (kz kd))]) hx hb dX10_waysTo_104 hl (k := 0) rfl (kz_add sa 1) (by decide) rfl (fun ls hl => ?_)
            refine lv_goto (tgt := 86) hx hb dX10_waysTo_107 (by decide) ?_
            exact ihn_35 (n_35 - 1) (by omega) () (sa + 1) _ _ _ ⟨by omega, by omega, by omega, lv_sub hl [0, 1, 2, 3, 4] rfl, hI, hS, hFo, co_1, co_ch⟩
      · refine lv_aload_n hx hb dX10_waysTo_40 rfl (lv_at hl 1 rfl) ?_
        refine iz_get (D := (dC, dI)) (ci := 10) (v := .ref b_2) (C := RX10) (T := TX10) (N := 2) hx hb hts hinX10 hown hK co_1 rfl 1 (by decide) hL15 (fun _ h9 => h9) rfl dX10_waysTo_41 ?_
        refine lv_iload_n hx hb dX10_waysTo_44 rfl (lv_at hl 0 rfl) ?_
        obtain ⟨f_39, c_f_39, k_f_39⟩ := jv_q28 hI g_b_2
        refine jz_aald hx hb hK 8 c_f_39 rfl rfl (by omega) (by decide) dX10_waysTo_45 ?_
        obtain ⟨b_40, eb_40, g_b_40⟩ := k_f_39 (Int.toNat k) (by omega)
        rw [eb_40]
        have g_b_40 : X.1 b_40 = (238, 23, 240, 0, 0) := g_b_40
        refine W.eq (g2 := F0 m 46 ls [.ref b_40]) rfl ?_
        refine lv_lconst (v := 0) hx hb dX10_waysTo_46 (by decide) ?_
        refine va_callv (va_runS (As := [.ref b_40, .long 0]) (rest := []) ⟨hx, hb, hml, hown, hts⟩ (c_fill238 l dC dI ca A X hU H b_40 0 g_b_40) (va_cwS 2 hts gX10_waysTo_J7_fill_d0a16 rfl rfl rfl (by decide +kernel) ⟨Nat.le_of_ble_eq_true rfl, Nat.le_of_ble_eq_true rfl⟩) ⟨fun a U g mk q => by obtain ⟨q0, qH, ⟨qK, qN⟩, qI⟩ := q; exact ⟨q0, qH, ⟨va_K.moved (u := U) (U := U.calling g mk a) (Vm.Alike.refl U.vm) qK, jN_same (U := U.calling g mk a) rfl qN⟩, qI⟩, fun U hU hW => ⟨rfl, hU, jK_warm hW ⟨hK, hN⟩, by rw [hU]; exact hI⟩⟩ rfl rfl hl.1 rfl (lv_room (Nat.le_of_ble_eq_true rfl)) dX10_waysTo_47 ⟨Nat.le_of_ble_eq_true rfl, Nat.le_of_ble_eq_true rfl⟩) hS (fun q _ h => h) (fun q h => h) (fun u t9 H locs ht hvm hw_41 hB hz1 hk1 hS => ?_)
        obtain ⟨-, hI, hf9⟩ := hB
        rw [ht] at hI hf9
        clear ht hvm hz1
        have hFo := (hf9 o (by rw [g_o]; decide)).trans hFo
        have co_ch := fm_at hf9 g_ch (show (0 : Nat) ∉ ([238] : List Nat) by decide) co_ch
        have co_1 := fm_at hf9 g_a0 (show (10 : Nat) ∉ ([238] : List Nat) by decide) co_1
        have c_f_39 := fm_at hf9 g_b_2 (show (237 : Nat) ∉ ([238] : List Nat) by decide) c_f_39
        clear hk1 hf9
        refine lv_aload_n hx hb dX10_waysTo_50 rfl (lv_at hl 1 rfl) ?_
        refine iz_get (D := (dC, dI)) (ci := 10) (v := .ref b_2) (C := RX10) (T := TX10) (N := 2) hx hb hts hinX10 hown hK co_1 rfl 1 (by decide) hL15 (fun _ h9 => h9) rfl dX10_waysTo_51 ?_
        refine lv_iload_n hx hb dX10_waysTo_54 rfl (lv_at hl 0 rfl) ?_
        refine jz_aald hx hb hK 8 c_f_39 rfl rfl (by omega) (by decide) dX10_waysTo_55 ?_
        rw [eb_40]
        refine W.eq (g2 := F0 m 56 ls [.ref b_40]) rfl ?_
        refine lv_aload_n hx hb dX10_waysTo_56 rfl (lv_at hl 2 rfl) ?_
        refine iz_get (D := (dC, dI)) (ci := 0) (v := .ref forms_ch) (C := RX0) (T := TX0) (N := 3) hx hb hts hinX0 hown hK co_ch rfl 0 (by decide) hL35 (fun _ h9 => h9) rfl dX10_waysTo_57 ?_
        refine lv_iload_n hx hb dX10_waysTo_60 rfl (lv_at hl 0 rfl) ?_
        obtain ⟨f_44, c_f_44, k_f_44⟩ := jv_q24 hI g_forms_ch
        refine jz_aald hx hb hK 4 c_f_44 rfl rfl (by omega) (by decide) dX10_waysTo_61 ?_
        obtain ⟨b_45, eb_45⟩ : ∃ b9 : Nat, f_44 (Int.toNat k) = some b9 := Option.ne_none_iff_exists'.mp ((k_f_44 (Int.toNat k) (by omega)).2 (by omega))
        have g_b_45 := (k_f_44 (Int.toNat k) (by omega)).1 b_45 eb_45
        rw [eb_45]
        refine W.eq (g2 := F0 m 62 ls [.ref b_45, .ref b_40]) rfl ?_
        obtain ⟨fs9, co_46, jo9⟩ := jv_o2 hI g_b_45
        obtain ⟨ln_46, letters_46, kind_46, stem_46, kept_46, cost_46, number_46, ends_46, begins_46, rfl, g_letters_46, ⟨kind_46a, kind_46b⟩, ⟨stem_46a, stem_46b⟩, ⟨kept_46a, kept_46b⟩, ⟨cost_46a, cost_46b⟩, ⟨number_46a, number_46b⟩, ⟨ends_46a, ends_46b⟩, ⟨begins_46a, begins_46b⟩, x_46_0, x_46_1, x_46_2, x_46_3⟩ := jo9
        refine iz_get (D := (dC, dI)) (ci := 2) (v := .int (kz kind_46)) (C := RX2) (T := TX2) (N := 8) hx hb hts hinX2 hown hK co_46 rfl 1 (by decide) hL39 (fun _ h9 => h9) rfl dX10_waysTo_62 ?_
        refine lv_lconst (v := 1) hx hb dX10_waysTo_65 (by decide) ?_
        obtain ⟨f_47, c_f_47⟩ := iv_o23 (jv_iv hI) g_b_40
        refine iz_last hx hb hK 3 c_f_47 hS (jv_A hI g_b_40 (show (23 : Nat) ≠ 0 by decide)) rfl (by omega) (by decide) dX10_waysTo_66 (fun H locs c9 oq hS => ?_)
        have hI := jv_s23 hI g_b_40 c9 oq
        have c_f_39 := c_f_39.kept (oq _ (kn_ne g_b_2 g_b_40 (show (237 : Nat) ≠ 238 by decide)))
        have c_f_44 := c_f_44.kept (oq _ (kn_ne g_forms_ch g_b_40 (show (210 : Nat) ≠ 238 by decide)))
        have co_ch := co_ch.kept (oq _ (kn_ne g_ch g_b_40 (show (0 : Nat) ≠ 238 by decide)))
        have co_1 := co_1.kept (oq _ (kn_ne g_a0 g_b_40 (show (10 : Nat) ≠ 238 by decide)))
        have co_46 := co_46.kept (oq _ (kn_ne g_b_45 g_b_40 (show (2 : Nat) ≠ 238 by decide)))
        have hFo := (oq _ (kn_ne0 g_b_40 g_o0 (show (23 : Nat) ≠ 0 by decide)).symm).trans hFo
        clear oq c9
        refine lv_iinc (v := kz (k + 1)) (lv' := [(3, .int (kz (k + 1))), (0, .ref a0), (1, .ref ch), (2, .int (kz kd))]) hx hb dX10_waysTo_67 hl (k := 0) rfl (kz_add k 1) (by decide) rfl (fun ls hl => ?_)
        refine lv_goto (tgt := 32) hx hb dX10_waysTo_70 (by decide) ?_
        exact ihn_27 (n_27 - 1) (by omega) () (k + 1) _ _ _ ⟨by omega, by omega, by omega, lv_sub hl [0, 1, 2, 3] rfl, hI, hS, hFo, co_1, co_ch⟩
    · refine lv_lconst (v := 0) hx hb dX10_waysTo_28 (by decide) ?_
      refine W.widen (k := 41) (n := 9640) (Nat.le_of_ble_eq_true rfl) (Nat.le_of_ble_eq_true rfl) ?_
      exact W.lret (v := 0) hx hb hr (fun t9 ht hW => ⟨⟨0, X, rfl, hP, jK_warm hW ⟨hK, hN⟩, by rw [ht]; exact ⟨hI, hFo⟩⟩, hS.F ht⟩) hS.2.2 dX10_waysTo_29
theorem prl_tr {X Y Z : jG} {o : Nat} {L : List Nat} (h : prl X Y o L) (h2 : prl Y Z o L) : prl X Z o L := by
  refine ⟨h2.1, h2.2.1.trans h.2.1, fun q => ?_⟩
  rcases h2.2.2 q with e | e
  · rw [e]
    exact h.2.2 q
  · refine Or.inr ⟨?_, e.2⟩
    rcases h.2.2 q with e3 | e3
    · rw [← e3]
      exact e.1
    · exact e3.1
set_option maxHeartbeats 4000000 in
set_option maxRecDepth 100000 in
/-- X11_trees -/
theorem j_trees (l : Launch) (dC : Nat → ClassId) (dI : Nat → Nat → Nat) (ca : Nat → ClassId) (A : Nat → Prop) (X : jG) (hU : jU X) (Hp : Heap) (o : Nat) (j_tape : Nat) (j_tongue : Nat) (j_row : Nat) (j_trees : Nat) (j_choices : Nat) (pv : Option Nat) (st : Int) (k : Int) (kd : Int) (g_o : X.1 o = (999, 0, 0, 0, 0)) (hAo : A o) (g_j_tape : X.1 j_tape = (8, 30, 0, 0, 0)) (g_j_tongue : X.1 j_tongue = (9, 30, 0, 0, 0)) (g_j_row : X.1 j_row = (6, 30, 0, 0, 0)) (g_j_trees : X.1 j_trees = (10, 30, 0, 0, 0)) (g_j_choices : X.1 j_choices = (1, 30, 0, 0, 0)) (hpv : ∀ b : Nat, pv = some b → X.1 b = (4, 30, 0, 0, 0)) (hst : 0 ≤ st ∧ st ≤ 20) (kr : -2147483648 ≤ k ∧ k ≤ 2147483647) (kdr : -2147483648 ≤ kd ∧ kd ≤ 2147483647) (hA9 : ∀ q : Nat, Hp.size ≤ q → A q) : Met l yX11_trees wsX11_trees ({ frames := 6, cells := 41, slots := 9640, locals := 142 }) (va_Pc [.ref o, .int (kz k), .int (kz kd)] (fun U => U.heap = Hp ∧ jK (dC, dI) ca U ∧ jv (dC, dI) ca A X U.heap ∧ va_at (dC, dI) vwCl (o, .inr (11, [.ref j_tape, .ref j_tongue, .ref j_row, .ref j_trees, .ref j_choices, va_rf pv, .int (kz st)])) U.heap)) (va_Ql (fun (r : Int64) (u : jG × Int) => prl X u.1 o [2, 201, 7, 202, 237, 238] ∧ u.2 = st) (fun (u : jG × Int) U => jK (dC, dI) ca U ∧ jv (dC, dI) ca A u.1 U.heap ∧ va_at (dC, dI) vwCl (o, .inr (11, [.ref j_tape, .ref j_tongue, .ref j_row, .ref j_trees, .ref j_choices, va_rf pv, .int (kz u.2)])) U.heap) A) 41 9640 A := by
  refine Met.ofW (cc := cX11_trees) (maxL := 4) (ret := (some .long)) (by decide) rfl ?_
  intro p e s m args below meth c s₁ B hml hv
  obtain ⟨rfl, hHp, ⟨hK, hN⟩, hI, hO⟩ := hv
  have hx := B.exec
  have hb := B.bytes
  have hr := B.returns
  have hts := atoms_spec (ws := wsX11_trees) B.pre
  have hown : s.vm.findClass RX11 = some m.cls := findClass_of_methodNamed B.named
  have hL33 := hts (.fieldLink RX11 33 "JoinBench" "trees" "LJoinBench$Trees;") (by decide +kernel)
  have hL212 := hts (.fieldLink RX11 212 "JoinBench$Path" "chain" "LJoinBench$Chain;") (by decide +kernel)
  have hinX11 : ∀ w ∈ u_ws RX11 TX11 7, w ∈ wsX11_trees := by decide +kernel
  have hinX5 : ∀ w ∈ u_ws RX5 TX5 6, w ∈ wsX11_trees := by decide +kernel
  obtain ⟨H, hH⟩ : ∃ H : Heap, H = s.heap := ⟨_, rfl⟩
  have hS : va_S A s.heap H [] := by rw [hH]; exact va_S.rf
  have hF : kfm X [] Hp H := by rw [hH, hHp]; exact fm_rf _ _ _
  clear hF
  obtain ⟨n0, hn0⟩ : ∃ n9 : Nat, n9 = Hp.size := ⟨_, rfl⟩
  have hA : ∀ q : Nat, n0 ≤ q → A q := by rw [hn0]; exact hA9
  have hsz : s.heap.size = n0 := by rw [hn0, hHp]
  have hP := prl_rf o [2, 201, 7, 202, 237, 238] hU
  rw [← hH] at hI hO ⊢
  clear hH
  have hl := lv_entry ([.ref o, .int (kz k), .int (kz kd)]) (n := 4) (Nat.le_of_ble_eq_true rfl)
  rw [lg_entry_eq]
  generalize (lg_sl ([.ref o, .int (kz k), .int (kz kd)]) ++ List.replicate (4 - (lg_sl ([.ref o, .int (kz k), .int (kz kd)])).length) Slot.unset).toArray = ls at hl ⊢
  have hl : lv_has ls 4 [(0, .ref o), (1, .int (kz k)), (2, .int (kz kd))] := hl
  refine lv_aload_n hx hb dX11_trees_0 rfl (lv_at hl 0 rfl) ?_
  refine lv_iload_n hx hb dX11_trees_1 rfl (lv_at hl 1 rfl) ?_
  refine va_csq (va_Run.run (va_runV (As := [.int (kz k)]) (rest := []) ⟨hx, hb, hml, hown, hts⟩ (j_toldPath l dC dI ca A X hU o j_tape j_tongue j_row j_trees j_choices pv st k g_o hAo g_j_tape g_j_tongue g_j_row g_j_trees g_j_choices hpv (by omega) (by omega)) (cwV 1 hts gX11_trees_X11_toldPath rfl rfl rfl (by decide +kernel) ⟨Nat.le_of_ble_eq_true rfl, Nat.le_of_ble_eq_true rfl⟩) ⟨fun a U g mk q => by obtain ⟨q0, ⟨qK, qN⟩, qI⟩ := q; exact ⟨q0, ⟨va_K.moved (u := U) (U := U.calling g mk a) (Vm.Alike.refl U.vm) qK, jN_same (U := U.calling g mk a) rfl qN⟩, qI⟩, va_recv hK (at_P hO) (ci := 11) (q0 := 0) rfl rfl, fun U hU hW => ⟨rfl, jK_warm hW ⟨hK, hN⟩, by rw [hU]; exact ⟨hI, hO⟩⟩⟩ rfl rfl hl.1 rfl (lv_room (Nat.le_of_ble_eq_true rfl)) dX11_trees_2 ⟨Nat.le_of_ble_eq_true rfl, Nat.le_of_ble_eq_true rfl⟩)) (fun r_2 hw_1 => ?_)
  rcases r_2 with _ | b_3
  · refine W.eq (g2 := F0 m 5 ls [.null]) rfl ?_
    refine lv_astore_nN (lv' := [(3, .null), (0, .ref o), (1, .int (kz k)), (2, .int (kz kd))]) hx hb dX11_trees_5 rfl hl (by decide) rfl (fun ls hl => ?_)
    refine lv_aload_nN hx hb dX11_trees_6 rfl (lv_at hl 0 rfl) ?_
    refine lv_ifnullN (tgt := 17) hx hb dX11_trees_7 (by decide) ?_
    refine lv_ldc2 (own := RX11) (v := (-1)) hx hb hown (hts (.constantLong RX11 174 (-1)) (by decide +kernel)) dX11_trees_17 ?_
    refine W.widen (k := 41) (n := 9640) (Nat.le_of_ble_eq_true rfl) (Nat.le_of_ble_eq_true rfl) ?_
    exact W.lret (v := (-1)) hx hb hr (fun t9 ht hW => ⟨⟨(-1), (X, st), rfl, ⟨hP, rfl⟩, jK_warm hW ⟨hK, hN⟩, by rw [ht]; exact ⟨hI, hO⟩⟩, hS.F ht⟩) hS.2.2 dX11_trees_20
  · obtain ⟨i_b_3, g_b_3⟩ := hw_1 b_3 rfl
    refine W.eq (g2 := F0 m 5 ls [.ref b_3]) rfl ?_
    refine lv_astore_n (lv' := [(3, .ref b_3), (0, .ref o), (1, .int (kz k)), (2, .int (kz kd))]) hx hb dX11_trees_5 rfl hl (by decide) rfl (fun ls hl => ?_)
    refine lv_aload_n hx hb dX11_trees_6 rfl (lv_at hl 0 rfl) ?_
    refine lv_ifnull hx hb dX11_trees_7 ?_
    refine lv_iload_n hx hb dX11_trees_10 rfl (lv_at hl 3 rfl) ?_
    refine vp_callSi (va_Run.run (va_runS (As := [.int (kz kd)]) (rest := []) ⟨hx, hb, hml, hown, hts⟩ (c_isKind l kd (by omega)) (va_cwS 1 hts gX11_trees_X11_isKind rfl rfl rfl (by decide +kernel) ⟨Nat.le_of_ble_eq_true rfl, Nat.le_of_ble_eq_true rfl⟩) ⟨fun a U g mk q => q, fun U hU hW => ⟨rfl, trivial⟩⟩ rfl rfl hl.1 rfl (lv_room (Nat.le_of_ble_eq_true rfl)) dX11_trees_11 ⟨Nat.le_of_ble_eq_true rfl, Nat.le_of_ble_eq_true rfl⟩)) (fun r_5 hw_4 => ?_)
    rcases hw_4 with ⟨rfl, hw_4⟩ | ⟨rfl, hw_4⟩
    · refine iz_nez (tgt := 21) hx hb dX11_trees_14 (by decide) (by unfold rg2; omega) (fun _ => ?_) (fun q9 => absurd q9 (by decide))
      refine lv_aload_n hx hb dX11_trees_21 rfl (lv_at hl 1 rfl) ?_
      refine iz_get (D := (dC, dI)) (ci := 11) (v := .ref j_trees) (C := RX11) (T := TX11) (N := 7) hx hb hts hinX11 hown hK hO rfl 3 (by decide) hL33 (fun _ h9 => h9) rfl dX11_trees_22 ?_
      refine lv_aload_n hx hb dX11_trees_25 rfl (lv_at hl 0 rfl) ?_
      obtain ⟨fs9, co_6, jo9⟩ := jv_o5 hI g_b_3
      obtain ⟨chain_6, cost_6, spent_6, place_6, ended_6, rank_6, rfl, g_chain_6, ⟨cost_6a, cost_6b⟩, ⟨spent_6a, spent_6b⟩, ⟨place_6a, place_6b⟩, ⟨ended_6a, ended_6b⟩, ⟨rank_6a, rank_6b⟩⟩ := jo9
      refine iz_get (D := (dC, dI)) (ci := 5) (v := .ref chain_6) (C := RX5) (T := TX5) (N := 6) hx hb hts hinX5 hown hK co_6 rfl 0 (by decide) hL212 (fun _ h9 => h9) rfl dX11_trees_26 ?_
      refine lv_iload_n hx hb dX11_trees_29 rfl (lv_at hl 3 rfl) ?_
      obtain ⟨fs9, co_7, jo9⟩ := jv_o10 hI g_j_trees
      obtain ⟨kinds_7, ways_7, rfl, g_kinds_7, q_ways_7⟩ := jo9
      have hzH : n0 ≤ H.size := by have h8 := hS.1; omega
      have h9o := hO.lt
      obtain ⟨fs9, co_8, jo9⟩ := jv_o0 hI g_chain_6
      obtain ⟨forms_8, rules_8, size_8, rfl, g_forms_8, g_rules_8, ⟨size_8a, size_8b⟩, x_8_0⟩ := jo9
      refine va_calll (va_runV (As := [.ref chain_6, .int (kz kd)]) (rest := []) ⟨hx, hb, hml, hown, hts⟩ (c_waysTo l dC dI ca A X hU H j_trees chain_6 kd i_b_3 o forms_8 rules_8 size_8 g_j_trees g_chain_6 g_forms_8 g_rules_8 (by omega) x_8_0 (by omega) (fun q h8 => hA q (Nat.le_trans hzH h8)) g_o h9o) (cwV 2 hts gX11_trees_X10_waysTo rfl rfl rfl (by decide +kernel) ⟨Nat.le_of_ble_eq_true rfl, Nat.le_of_ble_eq_true rfl⟩) ⟨fun a U g mk q => by obtain ⟨q0, qH, ⟨qK, qN⟩, qI⟩ := q; exact ⟨q0, qH, ⟨va_K.moved (u := U) (U := U.calling g mk a) (Vm.Alike.refl U.vm) qK, jN_same (U := U.calling g mk a) rfl qN⟩, qI⟩, va_recv hK (at_P co_7) (ci := 10) (q0 := 0) rfl rfl, fun U hU9 hW => ⟨rfl, hU9, jK_warm hW ⟨hK, hN⟩, by rw [hU9]; exact ⟨hI, co_8⟩⟩⟩ rfl rfl hl.1 rfl (lv_room (Nat.le_of_ble_eq_true rfl)) dX11_trees_30 ⟨Nat.le_of_ble_eq_true rfl, Nat.le_of_ble_eq_true rfl⟩) hS (fun q _ h => h) (fun q h => h) (fun y_10 X t9 H locs ht hvm hw_9 hB hz1 hk1 hS => ?_)
      obtain ⟨-, hI, hFo⟩ := hB
      rw [ht] at hI hFo
      clear ht hvm hz1 hk1
      have hO := hO.kept hFo
      have hP := prl_tr hP hw_9
      refine W.widen (k := 41) (n := 9640) (Nat.le_of_ble_eq_true rfl) (Nat.le_of_ble_eq_true rfl) ?_
      exact W.lret (v := y_10) hx hb hr (fun t9 ht hW => ⟨⟨y_10, (X, st), rfl, ⟨hP, rfl⟩, jK_warm hW ⟨hK, hN⟩, by rw [ht]; exact ⟨hI, hO⟩⟩, hS.F ht⟩) hS.2.2 dX11_trees_33
    · refine iz_nez (tgt := 21) hx hb dX11_trees_14 (by decide) (by unfold rg2; omega) (fun q9 => absurd q9 (by decide)) (fun _ => ?_)
      refine lv_ldc2 (own := RX11) (v := (-1)) hx hb hown (hts (.constantLong RX11 174 (-1)) (by decide +kernel)) dX11_trees_17 ?_
      refine W.widen (k := 41) (n := 9640) (Nat.le_of_ble_eq_true rfl) (Nat.le_of_ble_eq_true rfl) ?_
      exact W.lret (v := (-1)) hx hb hr (fun t9 ht hW => ⟨⟨(-1), (X, st), rfl, ⟨hP, rfl⟩, jK_warm hW ⟨hK, hN⟩, by rw [ht]; exact ⟨hI, hO⟩⟩, hS.F ht⟩) hS.2.2 dX11_trees_20
