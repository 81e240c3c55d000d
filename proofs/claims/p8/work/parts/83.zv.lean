/-! becomes: its answer, and what the table holds behind it -/
def okb (x y k : Int) : Prop := okk x y ∧ (-1 ≤ k ∧ k ≤ 5)
def bcS (f : Nat → Int32) (x y k : Int) (r : Int32) (g : Nat → Int32) : Prop :=
  (okb x y k → (∀ z : Int, 0 ≤ z ∧ z < 36 → ge1 g z = if z = 6 * x + y then k else ge1 f z) ∧ r = kz (ge1 f (6 * x + y))) ∧ (¬ okb x y k → g = f ∧ r = kz (-2))
theorem bc_up {f : Nat → Int32} {x y k w : Int} (hw : w = 6 * x + y) (ho : okb x y k) : ∀ z : Int, 0 ≤ z ∧ z < 36 → ge1 (upd f w.toNat (kz k)) z = if z = 6 * x + y then k else ge1 f z := fun z hz => by
  obtain ⟨⟨h1, h2⟩, h3⟩ := ho
  rw [ge1_upd f (by omega) hz.1 (by omega) (by omega), hw]
/-- two equal tables: equal answers, and equal tables behind them -/
theorem bc_eq {f g f' g' : Nat → Int32} {x y k : Int} {r r' : Int32} (he : ∀ z : Int, 0 ≤ z ∧ z < 36 → ge1 f z = ge1 g z) (h1 : bcS f x y k r f') (h2 : bcS g x y k r' g') : r = r' ∧ ∀ z : Int, 0 ≤ z ∧ z < 36 → ge1 f' z = ge1 g' z := by
  by_cases ho : okb x y k
  · obtain ⟨a1, a2⟩ := h1.1 ho
    obtain ⟨b1, b2⟩ := h2.1 ho
    have ho2 := ho
    obtain ⟨⟨o1, o2⟩, o3⟩ := ho2
    have e := he (6 * x + y) (by omega)
    refine ⟨by rw [a2, b2, e], fun z hz => ?_⟩
    rw [a1 z hz, b1 z hz]
    by_cases hq : z = 6 * x + y
    · rw [if_pos hq, if_pos hq]
    · rw [if_neg hq, if_neg hq]; exact he z hz
  · obtain ⟨a1, a2⟩ := h1.2 ho
    obtain ⟨b1, b2⟩ := h2.2 ho
    rw [a1, a2, b1, b2]
    exact ⟨rfl, he⟩
theorem ok20_fe {X : kGh} {a n : Nat} {lo hi : Int} {f g : Nat → Int32} (h : ok20 X a n lo hi f) (e : ∀ j : Nat, j < n → f j = g j) : ok20 X a n lo hi g := fun z hz => by
  rw [← ge_fe e z hz]
  exact h z hz
set_option maxHeartbeats 4000000 in
set_option maxRecDepth 100000 in
theorem c_setKindE (l : Launch) (dC : Nat → ClassId) (dI : Nat → Nat → Nat) (ca : Nat → ClassId) (A : Nat → Prop) (X : jG) (hU : jU X) (Hp : Heap) (z9 : Nat) (f_2 : Nat → Int32) (g_z : X.1 z9 = (229, 20, 36, -1, 5)) (a0 : Nat) (x : Int) (y : Int) (k : Int) (g_a0 : X.1 a0 = (10, 30, 0, 0, 0)) (xi : 0 ≤ x ∧ x ≤ 5) (yi : 0 ≤ y ∧ y ≤ 5) (ki : -1 ≤ k ∧ k ≤ 5) : Met l yX10_setKind wsX10_setKind ({ frames := 0, cells := 0, slots := 0, locals := 0 }) (va_Pc [.ref a0, .int (kz x), .int (kz y), .int (kz k)] (fun U => U.heap = Hp ∧ jK (dC, dI) ca U ∧ jv (dC, dI) ca A X U.heap ∧ va_at (dC, dI) vwCl (z9, .inl (ca 20, 36, .inl f_2)) U.heap)) (va_Qi (fun (r : Int32) (u : Nat → Int32) => bcS f_2 x y k r u) (fun u U => jK (dC, dI) ca U ∧ jv (dC, dI) ca A X U.heap ∧ kfm X [229] Hp U.heap ∧ va_at (dC, dI) vwCl (z9, .inl (ca 20, 36, .inl u)) U.heap) A) 0 0 A := by
  refine Met.ofW (cc := cX10_setKind) (maxL := 5) (ret := (some .int)) (by decide) rfl ?_
  intro p e s m args below meth c s₁ B hml hv
  obtain ⟨rfl, hHp, ⟨hK, hN⟩, hI, c_f_2⟩ := hv
  have hx := B.exec
  have hb := B.bytes
  have hr := B.returns
  have hts := atoms_spec (ws := wsX10_setKind) B.pre
  have hown : s.vm.findClass RX10 = some m.cls := findClass_of_methodNamed B.named
  have hL9 := hts (.fieldLink RX10 9 "JoinBench$Trees" "kinds" "[I") (by decide +kernel)
  have hinX10 : ∀ w ∈ u_ws RX10 TX10 2, w ∈ wsX10_setKind := by decide +kernel
  obtain ⟨H, hH⟩ : ∃ H : Heap, H = s.heap := ⟨_, rfl⟩
  have hS : va_S A s.heap H [] := by rw [hH]; exact va_S.rf
  have hF : kfm X [229] Hp H := by rw [hH, hHp]; exact fm_rf _ _ _
  rw [← hH] at hI c_f_2 ⊢
  clear hH
  have hl := lv_entry ([.ref a0, .int (kz x), .int (kz y), .int (kz k)]) (n := 5) (Nat.le_of_ble_eq_true rfl)
  rw [lg_entry_eq]
  generalize (lg_sl ([.ref a0, .int (kz x), .int (kz y), .int (kz k)]) ++ List.replicate (5 - (lg_sl ([.ref a0, .int (kz x), .int (kz y), .int (kz k)])).length) Slot.unset).toArray = ls at hl ⊢
  have hl : lv_has ls 5 [(0, .ref a0), (1, .int (kz x)), (2, .int (kz y)), (3, .int (kz k))] := hl
  refine lv_aload_n hx hb dX10_setKind_0 rfl (lv_at hl 0 rfl) ?_
  obtain ⟨fs9, co_1, jo9⟩ := jv_o10 hI g_a0
  obtain ⟨kinds_1, ways_1, rfl, g_kinds_1, q_ways_1⟩ := jo9
  refine iz_get (D := (dC, dI)) (ci := 10) (v := .ref kinds_1) (C := RX10) (T := TX10) (N := 2) hx hb hts hinX10 hown hK co_1 rfl 0 (by decide) hL9 (fun _ h9 => h9) rfl dX10_setKind_1 ?_
  refine lv_iload_n hx hb dX10_setKind_4 rfl (lv_at hl 1 rfl) ?_
  refine lv_bipush (v := kz 6) hx hb dX10_setKind_5 (by decide) ?_
  refine iz_imul hx hb dX10_setKind_7 ?_
  refine lv_iload_n hx hb dX10_setKind_8 rfl (lv_at hl 2 rfl) ?_
  refine iz_iadd hx hb dX10_setKind_9 ?_
  obtain rfl : kinds_1 = z9 := jU_eq hU g_kinds_1 g_z (show (20 : Nat) ≠ 0 by decide) (show uq 229 = true by decide)
  obtain ⟨f_q, c_q, k_q⟩ := iv_o20 (jv_iv hI) g_kinds_1
  have k_f_2 := ok20_fe k_q (at_fe c_q c_f_2)
  clear c_q k_q
  have ho : okb x y k := ⟨⟨xi, yi⟩, ki⟩
  have e9 : (x * 6) + y = 6 * x + y := by omega
  refine iz_iald hx hb hK 0 c_f_2 rfl (by omega) (by decide) dX10_setKind_10 ?_
  obtain ⟨v_3a, v_3b, -⟩ := k_f_2 ((x * 6) + y) (by omega)
  obtain ⟨v_3, ev_3⟩ : ∃ z9 : Int, ge1 f_2 ((x * 6) + y) = z9 := ⟨_, rfl⟩
  rw [ev_3] at v_3a v_3b ⊢
  refine lv_istore (lv' := [(4, .int (kz v_3)), (0, .ref a0), (1, .int (kz x)), (2, .int (kz y)), (3, .int (kz k))]) hx hb dX10_setKind_11 hl (by decide) rfl (fun ls hl => ?_)
  refine lv_aload_n hx hb dX10_setKind_13 rfl (lv_at hl 1 rfl) ?_
  refine iz_get (D := (dC, dI)) (ci := 10) (v := .ref kinds_1) (C := RX10) (T := TX10) (N := 2) hx hb hts hinX10 hown hK co_1 rfl 0 (by decide) hL9 (fun _ h9 => h9) rfl dX10_setKind_14 ?_
  refine lv_iload_n hx hb dX10_setKind_17 rfl (lv_at hl 2 rfl) ?_
  refine lv_bipush (v := kz 6) hx hb dX10_setKind_18 (by decide) ?_
  refine iz_imul hx hb dX10_setKind_20 ?_
  refine lv_iload_n hx hb dX10_setKind_21 rfl (lv_at hl 3 rfl) ?_
  refine iz_iadd hx hb dX10_setKind_22 ?_
  refine lv_iload_n hx hb dX10_setKind_23 rfl (lv_at hl 4 rfl) ?_
  refine iz_iast hx hb hK 0 c_f_2 hS (jv_A hI g_kinds_1 (show (20 : Nat) ≠ 0 by decide)) rfl (by omega) (by decide) dX10_setKind_24 (fun H locs c9 oq hS => ?_)
  have hI := jv_s20 hI g_kinds_1 k_f_2 c9 oq (by omega) (by omega) (by decide)
  have hF := fm_put hF g_kinds_1 (show (229 : Nat) ∈ [229] by decide) oq
  have co_1 := co_1.kept (oq _ (kn_ne g_a0 g_kinds_1 (show (10 : Nat) ≠ 229 by decide)))
  clear oq
  refine lv_iload hx hb dX10_setKind_25 (lv_at hl 0 rfl) ?_
  exact W.iret (v := kz v_3) hx hb hr (fun t9 ht hW => ⟨⟨kz v_3, upd f_2 (Int.toNat ((x * 6) + y)) (kz k), rfl, ⟨fun _ => ⟨bc_up (f := f_2) (w := (x * 6) + y) e9 ho, by rw [← e9, ev_3]⟩, fun h9 => absurd ho h9⟩, jK_warm hW ⟨hK, hN⟩, by rw [ht]; exact ⟨hI, hF, c9⟩⟩, hS.F ht⟩) hS.2.2 dX10_setKind_27
set_option maxHeartbeats 4000000 in
set_option maxRecDepth 100000 in
theorem j_becomesE (l : Launch) (dC : Nat → ClassId) (dI : Nat → Nat → Nat) (ca : Nat → ClassId) (A : Nat → Prop) (X : jG) (hU : jU X) (Hp : Heap) (z9 : Nat) (f_2 : Nat → Int32) (g_z : X.1 z9 = (229, 20, 36, -1, 5)) (o : Nat) (j_tape : Nat) (j_tongue : Nat) (j_row : Nat) (j_trees : Nat) (j_choices : Nat) (pv : Option Nat) (st : Int) (x : Int) (y : Int) (k : Int) (g_o : X.1 o = (999, 0, 0, 0, 0)) (hAo : A o) (g_j_tape : X.1 j_tape = (8, 30, 0, 0, 0)) (g_j_tongue : X.1 j_tongue = (9, 30, 0, 0, 0)) (g_j_row : X.1 j_row = (6, 30, 0, 0, 0)) (g_j_trees : X.1 j_trees = (10, 30, 0, 0, 0)) (g_j_choices : X.1 j_choices = (1, 30, 0, 0, 0)) (hpv : ∀ b : Nat, pv = some b → X.1 b = (4, 30, 0, 0, 0)) (hst : 0 ≤ st ∧ st ≤ 20) (xr : -2147483648 ≤ x ∧ x ≤ 2147483647) (yr : -2147483648 ≤ y ∧ y ≤ 2147483647) (kr : -2147483648 ≤ k ∧ k ≤ 2147483647) : Met l yX11_becomes wsX11_becomes ({ frames := 2, cells := 0, slots := 0, locals := 42 }) (va_Pc [.ref o, .int (kz x), .int (kz y), .int (kz k)] (fun U => U.heap = Hp ∧ jK (dC, dI) ca U ∧ jv (dC, dI) ca A X U.heap ∧ va_at (dC, dI) vwCl (o, .inr (11, [.ref j_tape, .ref j_tongue, .ref j_row, .ref j_trees, .ref j_choices, va_rf pv, .int (kz st)])) U.heap ∧ va_at (dC, dI) vwCl (z9, .inl (ca 20, 36, .inl f_2)) U.heap)) (va_Qi (fun (r : Int32) (u : Int × (Nat → Int32)) => u.1 = st ∧ bcS f_2 x y k r u.2) (fun (u : Int × (Nat → Int32)) U => jK (dC, dI) ca U ∧ jv (dC, dI) ca A X U.heap ∧ va_at (dC, dI) vwCl (o, .inr (11, [.ref j_tape, .ref j_tongue, .ref j_row, .ref j_trees, .ref j_choices, va_rf pv, .int (kz u.1)])) U.heap ∧ va_at (dC, dI) vwCl (z9, .inl (ca 20, 36, .inl u.2)) U.heap) A) 0 0 A := by
  refine Met.ofW (cc := cX11_becomes) (maxL := 4) (ret := (some .int)) (by decide) rfl ?_
  intro p e s m args below meth c s₁ B hml hv
  obtain ⟨rfl, hHp, ⟨hK, hN⟩, hI, hO, c_z⟩ := hv
  have hx := B.exec
  have hb := B.bytes
  have hr := B.returns
  have hts := atoms_spec (ws := wsX11_becomes) B.pre
  have hown : s.vm.findClass RX11 = some m.cls := findClass_of_methodNamed B.named
  have hL33 := hts (.fieldLink RX11 33 "JoinBench" "trees" "LJoinBench$Trees;") (by decide +kernel)
  have hinX11 : ∀ w ∈ u_ws RX11 TX11 7, w ∈ wsX11_becomes := by decide +kernel
  obtain ⟨H, hH⟩ : ∃ H : Heap, H = s.heap := ⟨_, rfl⟩
  have hS : va_S A s.heap H [] := by rw [hH]; exact va_S.rf
  have hF : kfm X [229] Hp H := by rw [hH, hHp]; exact fm_rf _ _ _
  rw [← hH] at hI hO c_z ⊢
  clear hH
  have hl := lv_entry ([.ref o, .int (kz x), .int (kz y), .int (kz k)]) (n := 4) (Nat.le_of_ble_eq_true rfl)
  rw [lg_entry_eq]
  generalize (lg_sl ([.ref o, .int (kz x), .int (kz y), .int (kz k)]) ++ List.replicate (4 - (lg_sl ([.ref o, .int (kz x), .int (kz y), .int (kz k)])).length) Slot.unset).toArray = ls at hl ⊢
  have hl : lv_has ls 4 [(0, .ref o), (1, .int (kz x)), (2, .int (kz y)), (3, .int (kz k))] := hl
  refine lv_iload_n hx hb dX11_becomes_0 rfl (lv_at hl 1 rfl) ?_
  refine vp_callSi (va_Run.run (va_runS (As := [.int (kz x)]) (rest := []) ⟨hx, hb, hml, hown, hts⟩ (c_isKind l x (by omega)) (va_cwS 1 hts gX11_becomes_X11_isKind rfl rfl rfl (by decide +kernel) ⟨Nat.le_of_ble_eq_true rfl, Nat.le_of_ble_eq_true rfl⟩) ⟨fun a U g mk q => q, fun U hU hW => ⟨rfl, trivial⟩⟩ rfl rfl hl.1 rfl (lv_room (Nat.le_of_ble_eq_true rfl)) dX11_becomes_1 ⟨Nat.le_of_ble_eq_true rfl, Nat.le_of_ble_eq_true rfl⟩)) (fun r_2 hw_1 => ?_)
  rcases hw_1 with ⟨rfl, hw_1⟩ | ⟨rfl, hw_1⟩
  · refine iz_eqz (tgt := 26) hx hb dX11_becomes_4 (by decide) (by unfold rg2; omega) (fun q9 => absurd q9 (by decide)) (fun _ => ?_)
    refine lv_iload_n hx hb dX11_becomes_7 rfl (lv_at hl 2 rfl) ?_
    refine vp_callSi (va_Run.run (va_runS (As := [.int (kz y)]) (rest := []) ⟨hx, hb, hml, hown, hts⟩ (c_isKind l y (by omega)) (va_cwS 1 hts gX11_becomes_X11_isKind rfl rfl rfl (by decide +kernel) ⟨Nat.le_of_ble_eq_true rfl, Nat.le_of_ble_eq_true rfl⟩) ⟨fun a U g mk q => q, fun U hU hW => ⟨rfl, trivial⟩⟩ rfl rfl hl.1 rfl (lv_room (Nat.le_of_ble_eq_true rfl)) dX11_becomes_8 ⟨Nat.le_of_ble_eq_true rfl, Nat.le_of_ble_eq_true rfl⟩)) (fun r_4 hw_3 => ?_)
    rcases hw_3 with ⟨rfl, hw_3⟩ | ⟨rfl, hw_3⟩
    · refine iz_eqz (tgt := 26) hx hb dX11_becomes_11 (by decide) (by unfold rg2; omega) (fun q9 => absurd q9 (by decide)) (fun _ => ?_)
      refine lv_iload_n hx hb dX11_becomes_14 rfl (lv_at hl 3 rfl) ?_
      refine lv_iconst (v := kz (-1)) hx hb dX11_becomes_15 rfl ?_
      refine iz_eq (tgt := 29) hx hb dX11_becomes_16 (by decide) (by unfold rg2; omega) (fun br_5 => ?_) (fun br_5 => ?_)
      · refine lv_aload_n hx hb dX11_becomes_29 rfl (lv_at hl 0 rfl) ?_
        refine iz_get (D := (dC, dI)) (ci := 11) (v := .ref j_trees) (C := RX11) (T := TX11) (N := 7) hx hb hts hinX11 hown hK hO rfl 3 (by decide) hL33 (fun _ h9 => h9) rfl dX11_becomes_30 ?_
        refine lv_iload_n hx hb dX11_becomes_33 rfl (lv_at hl 1 rfl) ?_
        refine lv_iload_n hx hb dX11_becomes_34 rfl (lv_at hl 2 rfl) ?_
        refine lv_iload_n hx hb dX11_becomes_35 rfl (lv_at hl 3 rfl) ?_
        obtain ⟨fs9, co_6, jo9⟩ := jv_o10 hI g_j_trees
        obtain ⟨kinds_6, ways_6, rfl, g_kinds_6, q_ways_6⟩ := jo9
        refine va_calli (va_runV (As := [.int (kz x), .int (kz y), .int (kz k)]) (rest := []) ⟨hx, hb, hml, hown, hts⟩ (c_setKindE l dC dI ca A X hU H z9 f_2 g_z j_trees x y k g_j_trees (by omega) (by omega) (by omega)) (cwV 3 hts gX11_becomes_X10_setKind rfl rfl rfl (by decide +kernel) ⟨Nat.le_of_ble_eq_true rfl, Nat.le_of_ble_eq_true rfl⟩) ⟨fun a U g mk q => by obtain ⟨q0, qH, ⟨qK, qN⟩, qI⟩ := q; exact ⟨q0, qH, ⟨va_K.moved (u := U) (U := U.calling g mk a) (Vm.Alike.refl U.vm) qK, jN_same (U := U.calling g mk a) rfl qN⟩, qI⟩, va_recv hK (at_P co_6) (ci := 10) (q0 := 0) rfl rfl, fun U hU hW => ⟨rfl, hU, jK_warm hW ⟨hK, hN⟩, by rw [hU]; exact ⟨hI, c_z⟩⟩⟩ rfl rfl hl.1 rfl (lv_room (Nat.le_of_ble_eq_true rfl)) dX11_becomes_36 ⟨Nat.le_of_ble_eq_true rfl, Nat.le_of_ble_eq_true rfl⟩) hS (fun q _ h => h) (fun q h => h) (fun r_8 u t9 H locs ht hvm hw_7 hB hz1 hk1 hS => ?_)
        obtain ⟨-, hI, hf9, c_z⟩ := hB
        rw [ht] at hI hf9 c_z
        clear ht hvm hz1
        have hO := fm_at hf9 g_o (show (999 : Nat) ∉ ([229] : List Nat) by decide) hO
        have co_6 := fm_at hf9 g_j_trees (show (10 : Nat) ∉ ([229] : List Nat) by decide) co_6
        have hF := fm_tr hF hf9 (by decide)
        clear hk1 hf9
        obtain ⟨z_9, z_9a, z_9b, rfl⟩ := kz_ex r_8
        exact W.iret (v := kz z_9) hx hb hr (fun t9 ht hW => ⟨⟨kz z_9, (st, u), rfl, ⟨rfl, hw_7⟩, jK_warm hW ⟨hK, hN⟩, by rw [ht]; exact ⟨hI, hO, c_z⟩⟩, hS.F ht⟩) hS.2.2 dX11_becomes_39
      · refine lv_iload_n hx hb dX11_becomes_19 rfl (lv_at hl 3 rfl) ?_
        refine vp_callSi (va_Run.run (va_runS (As := [.int (kz k)]) (rest := []) ⟨hx, hb, hml, hown, hts⟩ (c_isKind l k (by omega)) (va_cwS 1 hts gX11_becomes_X11_isKind rfl rfl rfl (by decide +kernel) ⟨Nat.le_of_ble_eq_true rfl, Nat.le_of_ble_eq_true rfl⟩) ⟨fun a U g mk q => q, fun U hU hW => ⟨rfl, trivial⟩⟩ rfl rfl hl.1 rfl (lv_room (Nat.le_of_ble_eq_true rfl)) dX11_becomes_20 ⟨Nat.le_of_ble_eq_true rfl, Nat.le_of_ble_eq_true rfl⟩)) (fun r_11 hw_10 => ?_)
        rcases hw_10 with ⟨rfl, hw_10⟩ | ⟨rfl, hw_10⟩
        · refine iz_nez (tgt := 29) hx hb dX11_becomes_23 (by decide) (by unfold rg2; omega) (fun _ => ?_) (fun q9 => absurd q9 (by decide))
          refine lv_aload_n hx hb dX11_becomes_29 rfl (lv_at hl 0 rfl) ?_
          refine iz_get (D := (dC, dI)) (ci := 11) (v := .ref j_trees) (C := RX11) (T := TX11) (N := 7) hx hb hts hinX11 hown hK hO rfl 3 (by decide) hL33 (fun _ h9 => h9) rfl dX11_becomes_30 ?_
          refine lv_iload_n hx hb dX11_becomes_33 rfl (lv_at hl 1 rfl) ?_
          refine lv_iload_n hx hb dX11_becomes_34 rfl (lv_at hl 2 rfl) ?_
          refine lv_iload_n hx hb dX11_becomes_35 rfl (lv_at hl 3 rfl) ?_
          obtain ⟨fs9, co_12, jo9⟩ := jv_o10 hI g_j_trees
          obtain ⟨kinds_12, ways_12, rfl, g_kinds_12, q_ways_12⟩ := jo9
          refine va_calli (va_runV (As := [.int (kz x), .int (kz y), .int (kz k)]) (rest := []) ⟨hx, hb, hml, hown, hts⟩ (c_setKindE l dC dI ca A X hU H z9 f_2 g_z j_trees x y k g_j_trees (by omega) (by omega) (by omega)) (cwV 3 hts gX11_becomes_X10_setKind rfl rfl rfl (by decide +kernel) ⟨Nat.le_of_ble_eq_true rfl, Nat.le_of_ble_eq_true rfl⟩) ⟨fun a U g mk q => by obtain ⟨q0, qH, ⟨qK, qN⟩, qI⟩ := q; exact ⟨q0, qH, ⟨va_K.moved (u := U) (U := U.calling g mk a) (Vm.Alike.refl U.vm) qK, jN_same (U := U.calling g mk a) rfl qN⟩, qI⟩, va_recv hK (at_P co_12) (ci := 10) (q0 := 0) rfl rfl, fun U hU hW => ⟨rfl, hU, jK_warm hW ⟨hK, hN⟩, by rw [hU]; exact ⟨hI, c_z⟩⟩⟩ rfl rfl hl.1 rfl (lv_room (Nat.le_of_ble_eq_true rfl)) dX11_becomes_36 ⟨Nat.le_of_ble_eq_true rfl, Nat.le_of_ble_eq_true rfl⟩) hS (fun q _ h => h) (fun q h => h) (fun r_14 u t9 H locs ht hvm hw_13 hB hz1 hk1 hS => ?_)
          obtain ⟨-, hI, hf9, c_z⟩ := hB
          rw [ht] at hI hf9 c_z
          clear ht hvm hz1
          have hO := fm_at hf9 g_o (show (999 : Nat) ∉ ([229] : List Nat) by decide) hO
          have co_12 := fm_at hf9 g_j_trees (show (10 : Nat) ∉ ([229] : List Nat) by decide) co_12
          have hF := fm_tr hF hf9 (by decide)
          clear hk1 hf9
          obtain ⟨z_15, z_15a, z_15b, rfl⟩ := kz_ex r_14
          exact W.iret (v := kz z_15) hx hb hr (fun t9 ht hW => ⟨⟨kz z_15, (st, u), rfl, ⟨rfl, hw_13⟩, jK_warm hW ⟨hK, hN⟩, by rw [ht]; exact ⟨hI, hO, c_z⟩⟩, hS.F ht⟩) hS.2.2 dX11_becomes_39
        · refine iz_nez (tgt := 29) hx hb dX11_becomes_23 (by decide) (by unfold rg2; omega) (fun q9 => absurd q9 (by decide)) (fun _ => ?_)
          refine lv_bipush (v := kz (-2)) hx hb dX11_becomes_26 (by decide) ?_
          exact W.iret (v := kz (-2)) hx hb hr (fun t9 ht hW => ⟨⟨kz (-2), (st, f_2), rfl, ⟨rfl, fun h9 => absurd h9 (fun h8 => by obtain ⟨⟨h5, h6⟩, h7⟩ := h8; omega), fun _ => ⟨rfl, rfl⟩⟩, jK_warm hW ⟨hK, hN⟩, by rw [ht]; exact ⟨hI, hO, c_z⟩⟩, hS.F ht⟩) hS.2.2 dX11_becomes_28
    · refine iz_eqz (tgt := 26) hx hb dX11_becomes_11 (by decide) (by unfold rg2; omega) (fun _ => ?_) (fun q9 => absurd q9 (by decide))
      refine lv_bipush (v := kz (-2)) hx hb dX11_becomes_26 (by decide) ?_
      exact W.iret (v := kz (-2)) hx hb hr (fun t9 ht hW => ⟨⟨kz (-2), (st, f_2), rfl, ⟨rfl, fun h9 => absurd h9 (fun h8 => by obtain ⟨⟨h5, h6⟩, h7⟩ := h8; omega), fun _ => ⟨rfl, rfl⟩⟩, jK_warm hW ⟨hK, hN⟩, by rw [ht]; exact ⟨hI, hO, c_z⟩⟩, hS.F ht⟩) hS.2.2 dX11_becomes_28
  · refine iz_eqz (tgt := 26) hx hb dX11_becomes_4 (by decide) (by unfold rg2; omega) (fun _ => ?_) (fun q9 => absurd q9 (by decide))
    refine lv_bipush (v := kz (-2)) hx hb dX11_becomes_26 (by decide) ?_
    exact W.iret (v := kz (-2)) hx hb hr (fun t9 ht hW => ⟨⟨kz (-2), (st, f_2), rfl, ⟨rfl, fun h9 => absurd h9 (fun h8 => by obtain ⟨⟨h5, h6⟩, h7⟩ := h8; omega), fun _ => ⟨rfl, rfl⟩⟩, jK_warm hW ⟨hK, hN⟩, by rw [ht]; exact ⟨hI, hO, c_z⟩⟩, hS.F ht⟩) hS.2.2 dX11_becomes_28
set_option maxHeartbeats 4000000 in
set_option maxRecDepth 100000 in
theorem m_becomesE (l : Launch) (dC : Nat → ClassId) (dI : Nat → Nat → Nat) (ca : Nat → ClassId) (A : Nat → Prop) (X : kGh) (o : Nat) (am : Nat → Nat) (zi : Nat → Int) (zl : Nat → Int64) (hM : mS X A o am) (hz : mZ X am zi) (a1 : Int) (b1 : Int) (k : Int) (a1r : -2147483648 ≤ a1 ∧ a1 ≤ 2147483647) (b1r : -2147483648 ≤ b1 ∧ b1 ≤ 2147483647) (kr : -2147483648 ≤ k ∧ k ≤ 2147483647) (f18_7 : Nat → Int32) : Met l yX12_becomes wsX12_becomes ({ frames := 2, cells := 0, slots := 0, locals := 42 }) (va_Pc [.ref o, .int (kz a1), .int (kz b1), .int (kz k)] (fun U => va_K (dC, dI) vwCl (k_tys ca) U ∧ mI (dC, dI) ca A X o am zi zl U.heap ∧ va_at (dC, dI) vwCl (am 18, .inl (ca 20, 36, .inl f18_7)) U.heap)) (va_Qi (fun (r : Int32) (u : (Nat → Int) × (Nat → Int64) × (Nat → Int32)) => mZ X am u.1 ∧ u.1 20 = zi 20 ∧ bcS f18_7 a1 b1 k r u.2.2) (fun u U => va_K (dC, dI) vwCl (k_tys ca) U ∧ mI (dC, dI) ca A X o am u.1 u.2.1 U.heap ∧ va_at (dC, dI) vwCl (am 18, .inl (ca 20, 36, .inl u.2.2)) U.heap) A) 0 0 A := by
  refine Met.ofW (cc := cX12_becomes) (maxL := 5) (ret := (some .int)) (by decide) rfl ?_
  intro p e s m args below meth c s₁ B hml hv
  obtain ⟨rfl, hK, ⟨hI, hO⟩, c_f18_7⟩ := hv
  have hx := B.exec
  have hb := B.bytes
  have hr := B.returns
  have hts := atoms_spec (ws := wsX12_becomes) B.pre
  have hown : s.vm.findClass RX12 = some m.cls := findClass_of_methodNamed B.named
  have hin : ∀ w ∈ u_ws RX12 TX12 49, w ∈ wsX12_becomes := by decide +kernel
  have hL57 := hts (.fieldLink RX12 57 "JoinBenchModel" "tree" "[I") (by decide +kernel)
  have g18 : X.1 (am 18) = (118, 20, 36, -1, 5) := hM.1 18 _ rfl (by decide)
  have w18 : X.2 (am 18) = 0 := hM.2.2.2 18 _ rfl (by decide) (by decide) (by decide)
  obtain ⟨⟨z1a, z1b⟩, ⟨z2a, z2b⟩, ⟨z9a, z9b⟩, ⟨z20a, z20b⟩, ⟨z21a, z21b⟩, ⟨z22a, z22b⟩, ⟨z26a, z26b⟩, ⟨z28a, z28b⟩, ⟨z34a, z34b⟩, ⟨z35a, z35b⟩, ⟨z38a, z38b⟩, ⟨z39a, z39b⟩, ⟨z46a, z46b⟩, hzA, hzB⟩ := id hz
  obtain ⟨H, hH⟩ : ∃ H : Heap, H = s.heap := ⟨_, rfl⟩
  have hS : va_S A s.heap H [] := by rw [hH]; exact va_S.rf
  rw [← hH] at hI hO c_f18_7 ⊢
  clear hH
  have hl := lv_entry ([.ref o, .int (kz a1), .int (kz b1), .int (kz k)]) (n := 5) (Nat.le_of_ble_eq_true rfl)
  rw [lg_entry_eq]
  generalize (lg_sl ([.ref o, .int (kz a1), .int (kz b1), .int (kz k)]) ++ List.replicate (5 - (lg_sl ([.ref o, .int (kz a1), .int (kz b1), .int (kz k)])).length) Slot.unset).toArray = ls at hl ⊢
  have hl : lv_has ls 5 [(0, .ref o), (1, .int (kz a1)), (2, .int (kz b1)), (3, .int (kz k))] := hl
  refine lv_iload_n hx hb dX12_becomes_0 rfl (lv_at hl 1 rfl) ?_
  refine vp_callSi (va_Run.run (va_runS (As := [.int (kz a1)]) (rest := []) ⟨hx, hb, hml, hown, hts⟩ (m_isKind l a1 (by omega)) (va_cwS 1 hts gX12_becomes_X12_isKind rfl rfl rfl (by decide +kernel) ⟨Nat.le_of_ble_eq_true rfl, Nat.le_of_ble_eq_true rfl⟩) ⟨fun a U g mk q => q, fun U hU hW => ⟨rfl, trivial⟩⟩ rfl rfl hl.1 rfl (lv_room (Nat.le_of_ble_eq_true rfl)) dX12_becomes_1 ⟨Nat.le_of_ble_eq_true rfl, Nat.le_of_ble_eq_true rfl⟩)) (fun r_2 hw_1 => ?_)
  rcases hw_1 with ⟨rfl, hw_1⟩ | ⟨rfl, hw_1⟩
  · refine iz_eqz (tgt := 23) hx hb dX12_becomes_4 (by decide) (by unfold rg2; omega) (fun q9 => absurd q9 (by decide)) (fun _ => ?_)
    refine lv_iload_n hx hb dX12_becomes_7 rfl (lv_at hl 2 rfl) ?_
    refine vp_callSi (va_Run.run (va_runS (As := [.int (kz b1)]) (rest := []) ⟨hx, hb, hml, hown, hts⟩ (m_isKind l b1 (by omega)) (va_cwS 1 hts gX12_becomes_X12_isKind rfl rfl rfl (by decide +kernel) ⟨Nat.le_of_ble_eq_true rfl, Nat.le_of_ble_eq_true rfl⟩) ⟨fun a U g mk q => q, fun U hU hW => ⟨rfl, trivial⟩⟩ rfl rfl hl.1 rfl (lv_room (Nat.le_of_ble_eq_true rfl)) dX12_becomes_8 ⟨Nat.le_of_ble_eq_true rfl, Nat.le_of_ble_eq_true rfl⟩)) (fun r_4 hw_3 => ?_)
    rcases hw_3 with ⟨rfl, hw_3⟩ | ⟨rfl, hw_3⟩
    · refine iz_eqz (tgt := 23) hx hb dX12_becomes_11 (by decide) (by unfold rg2; omega) (fun q9 => absurd q9 (by decide)) (fun _ => ?_)
      refine lv_iload_n hx hb dX12_becomes_14 rfl (lv_at hl 3 rfl) ?_
      refine lv_iconst (v := kz (-1)) hx hb dX12_becomes_15 rfl ?_
      refine lv_iconst (v := kz 5) hx hb dX12_becomes_16 rfl ?_
      refine vp_callSi (va_Run.run (va_runS (As := [.int (kz k), .int (kz (-1)), .int (kz 5)]) (rest := []) ⟨hx, hb, hml, hown, hts⟩ (m_in l k (-1) 5 (by omega) (by omega) (by omega)) (va_cwS 3 hts gX12_becomes_X12_in rfl rfl rfl (by decide +kernel) ⟨Nat.le_of_ble_eq_true rfl, Nat.le_of_ble_eq_true rfl⟩) ⟨fun a U g mk q => q, fun U hU hW => ⟨rfl, trivial⟩⟩ rfl rfl hl.1 rfl (lv_room (Nat.le_of_ble_eq_true rfl)) dX12_becomes_17 ⟨Nat.le_of_ble_eq_true rfl, Nat.le_of_ble_eq_true rfl⟩)) (fun r_6 hw_5 => ?_)
      rcases hw_5 with ⟨rfl, hw_5⟩ | ⟨rfl, hw_5⟩
      · refine iz_nez (tgt := 26) hx hb dX12_becomes_20 (by decide) (by unfold rg2; omega) (fun _ => ?_) (fun q9 => absurd q9 (by decide))
        refine lv_aload_n hx hb dX12_becomes_26 rfl (lv_at hl 0 rfl) ?_
        refine iz_get (D := (dC, dI)) (ci := 12) (v := .ref (am 18)) (C := RX12) (T := TX12) (N := 49) hx hb hts hin hown hK hO rfl 18 (by decide) hL57 (fun _ h9 => h9) rfl dX12_becomes_27 ?_
        refine lv_bipush (v := kz 6) hx hb dX12_becomes_30 (by decide) ?_
        refine lv_iload_n hx hb dX12_becomes_32 rfl (lv_at hl 1 rfl) ?_
        refine iz_imul hx hb dX12_becomes_33 ?_
        refine lv_iload_n hx hb dX12_becomes_34 rfl (lv_at hl 2 rfl) ?_
        refine iz_iadd hx hb dX12_becomes_35 ?_
        obtain ⟨f_q, c_q, k_q⟩ := iv_o20 hI g18
        have k_f18_7 := ok20_fe k_q (at_fe c_q c_f18_7)
        clear c_q k_q
        have ho : okb a1 b1 k := ⟨⟨by omega, by omega⟩, by omega⟩
        refine iz_iald hx hb hK 0 c_f18_7 rfl (by omega) (by decide) dX12_becomes_36 ?_
        obtain ⟨v_8a, v_8b, v_8c⟩ := k_f18_7 ((6 * a1) + b1) (by omega)
        clear v_8c
        obtain ⟨v_8, ev_8⟩ : ∃ z9 : Int, ge1 f18_7 ((6 * a1) + b1) = z9 := ⟨_, rfl⟩
        rw [ev_8] at v_8a v_8b ⊢
        refine lv_istore (lv' := [(4, .int (kz v_8)), (0, .ref o), (1, .int (kz a1)), (2, .int (kz b1)), (3, .int (kz k))]) hx hb dX12_becomes_37 hl (by decide) rfl (fun ls hl => ?_)
        refine lv_aload_n hx hb dX12_becomes_39 rfl (lv_at hl 1 rfl) ?_
        refine iz_get (D := (dC, dI)) (ci := 12) (v := .ref (am 18)) (C := RX12) (T := TX12) (N := 49) hx hb hts hin hown hK hO rfl 18 (by decide) hL57 (fun _ h9 => h9) rfl dX12_becomes_40 ?_
        refine lv_bipush (v := kz 6) hx hb dX12_becomes_43 (by decide) ?_
        refine lv_iload_n hx hb dX12_becomes_45 rfl (lv_at hl 2 rfl) ?_
        refine iz_imul hx hb dX12_becomes_46 ?_
        refine lv_iload_n hx hb dX12_becomes_47 rfl (lv_at hl 3 rfl) ?_
        refine iz_iadd hx hb dX12_becomes_48 ?_
        refine lv_iload_n hx hb dX12_becomes_49 rfl (lv_at hl 4 rfl) ?_
        refine iz_iast hx hb hK 0 c_f18_7 hS (iv_A hI g18 (by decide)) rfl (by omega) (by decide) dX12_becomes_50 (fun H locs c9 oq hS => ?_)
        have hI := iv_s20 hI g18 k_f18_7 c9 oq (by omega) (by omega) (by decide) (by omega)
        have hO := hO.kept (oq _ (iv_ne0 g18 hM.2.1 (by decide)).symm)
        clear oq
        refine lv_iload hx hb dX12_becomes_51 (lv_at hl 0 rfl) ?_
        exact W.iret (v := kz v_8) hx hb hr (fun t9 ht hW => ⟨⟨kz v_8, (zi, zl, upd f18_7 (Int.toNat ((6 * a1) + b1)) (kz k)), rfl, ⟨hz, rfl, fun _ => ⟨bc_up (f := f18_7) (w := (6 * a1) + b1) rfl ho, by rw [ev_8]⟩, fun h9 => absurd ho h9⟩, va_K.moved hW.alike hK, by rw [ht]; exact ⟨⟨hI, hO⟩, c9⟩⟩, hS.F ht⟩) hS.2.2 dX12_becomes_53
      · refine iz_nez (tgt := 26) hx hb dX12_becomes_20 (by decide) (by unfold rg2; omega) (fun q9 => absurd q9 (by decide)) (fun _ => ?_)
        refine lv_bipush (v := kz (-2)) hx hb dX12_becomes_23 (by decide) ?_
        exact W.iret (v := kz (-2)) hx hb hr (fun t9 ht hW => ⟨⟨kz (-2), (zi, zl, f18_7), rfl, ⟨hz, rfl, fun h9 => absurd h9 (fun h8 => by obtain ⟨⟨h5, h6⟩, h7⟩ := h8; omega), fun _ => ⟨rfl, rfl⟩⟩, va_K.moved hW.alike hK, by rw [ht]; exact ⟨⟨hI, hO⟩, c_f18_7⟩⟩, hS.F ht⟩) hS.2.2 dX12_becomes_25
    · refine iz_eqz (tgt := 23) hx hb dX12_becomes_11 (by decide) (by unfold rg2; omega) (fun _ => ?_) (fun q9 => absurd q9 (by decide))
      refine lv_bipush (v := kz (-2)) hx hb dX12_becomes_23 (by decide) ?_
      exact W.iret (v := kz (-2)) hx hb hr (fun t9 ht hW => ⟨⟨kz (-2), (zi, zl, f18_7), rfl, ⟨hz, rfl, fun h9 => absurd h9 (fun h8 => by obtain ⟨⟨h5, h6⟩, h7⟩ := h8; omega), fun _ => ⟨rfl, rfl⟩⟩, va_K.moved hW.alike hK, by rw [ht]; exact ⟨⟨hI, hO⟩, c_f18_7⟩⟩, hS.F ht⟩) hS.2.2 dX12_becomes_25
  · refine iz_eqz (tgt := 23) hx hb dX12_becomes_4 (by decide) (by unfold rg2; omega) (fun _ => ?_) (fun q9 => absurd q9 (by decide))
    refine lv_bipush (v := kz (-2)) hx hb dX12_becomes_23 (by decide) ?_
    exact W.iret (v := kz (-2)) hx hb hr (fun t9 ht hW => ⟨⟨kz (-2), (zi, zl, f18_7), rfl, ⟨hz, rfl, fun h9 => absurd h9 (fun h8 => by obtain ⟨⟨h5, h6⟩, h7⟩ := h8; omega), fun _ => ⟨rfl, rfl⟩⟩, va_K.moved hW.alike hK, by rw [ht]; exact ⟨⟨hI, hO⟩, c_f18_7⟩⟩, hS.F ht⟩) hS.2.2 dX12_becomes_25
