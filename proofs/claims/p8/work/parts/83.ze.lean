/-! meets: its answer, and what the table holds behind it -/
def okk (x y : Int) : Prop := (0 ≤ x ∧ x ≤ 5) ∧ (0 ≤ y ∧ y ≤ 5)
def bits (f : Nat → Int32) : Prop := ∀ z : Int, 0 ≤ z ∧ z < 36 → ge1 f z = 0 ∨ ge1 f z = 1
def mtS (f : Nat → Int32) (x y may : Int) (r : Int32) (g : Nat → Int32) : Prop :=
  (okk x y → (∀ z : Int, 0 ≤ z ∧ z < 36 → ge1 g z = if z = 6 * x + y then 1 - may else ge1 f z) ∧ ((ge1 f (6 * x + y) = may ∧ r = kz 1) ∨ (ge1 f (6 * x + y) ≠ may ∧ r = kz 0))) ∧ (¬ okk x y → g = f ∧ r = kz 0)
theorem nar_0 : vp_nar .boolean (kz 0) = kz 0 := by decide
theorem nar_1 : vp_nar .boolean (kz 1) = kz 1 := by decide
theorem mt_up {f : Nat → Int32} {x y may v w : Int} (hw : w = 6 * x + y) (ho : okk x y) (hv : v = 1 - may) (hm : may = 0 ∨ may = 1) : ∀ z : Int, 0 ≤ z ∧ z < 36 → ge1 (upd f w.toNat (kz v)) z = if z = 6 * x + y then 1 - may else ge1 f z := fun z hz => by
  obtain ⟨h1, h2⟩ := ho
  rw [ge1_upd f (by omega) hz.1 (by omega) (by omega), hw, hv]
/-- two equal tables of bits: equal answers, and equal tables behind them -/
theorem mt_eq {f g f' g' : Nat → Int32} {x y may : Int} {r r' : Int32} (hm : may = 0 ∨ may = 1) (hb : bits f) (he : ∀ z : Int, 0 ≤ z ∧ z < 36 → ge1 f z = ge1 g z) (h1 : mtS f x y may r f') (h2 : mtS g x y may r' g') : r = r' ∧ bits f' ∧ ∀ z : Int, 0 ≤ z ∧ z < 36 → ge1 f' z = ge1 g' z := by
  by_cases ho : okk x y
  · obtain ⟨a1, a2⟩ := h1.1 ho
    obtain ⟨b1, b2⟩ := h2.1 ho
    have ho2 := ho
    obtain ⟨o1, o2⟩ := ho2
    have e := he (6 * x + y) (by omega)
    refine ⟨?_, fun z hz => ?_, fun z hz => ?_⟩
    · rcases a2 with ⟨p1, p2⟩ | ⟨p1, p2⟩ <;> rcases b2 with ⟨q1, q2⟩ | ⟨q1, q2⟩
      · rw [p2, q2]
      · exact absurd (by omega) q1
      · exact absurd (by omega) p1
      · rw [p2, q2]
    · rw [a1 z hz]
      by_cases hq : z = 6 * x + y
      · rw [if_pos hq]; omega
      · rw [if_neg hq]; exact hb z hz
    · rw [a1 z hz, b1 z hz]
      by_cases hq : z = 6 * x + y
      · rw [if_pos hq, if_pos hq]
      · rw [if_neg hq, if_neg hq]; exact he z hz
  · obtain ⟨a1, a2⟩ := h1.2 ho
    obtain ⟨b1, b2⟩ := h2.2 ho
    rw [a1, a2, b1, b2]
    exact ⟨rfl, hb, he⟩
set_option maxHeartbeats 4000000 in
set_option maxRecDepth 100000 in
theorem c_setMeetingE (l : Launch) (dC : Nat → ClassId) (dI : Nat → Nat → Nat) (ca : Nat → ClassId) (A : Nat → Prop) (X : jG) (hU : jU X) (Hp : Heap) (z9 : Nat) (f_2 : Nat → Int32) (g_z : X.1 z9 = (214, 22, 36, 0, 0)) (a0 : Nat) (x : Int) (y : Int) (may : Int) (g_a0 : X.1 a0 = (9, 30, 0, 0, 0)) (xi : 0 ≤ x ∧ x ≤ 5) (yi : 0 ≤ y ∧ y ≤ 5) (hm : may = 0 ∨ may = 1) : Met l yX9_setMeeting wsX9_setMeeting ({ frames := 0, cells := 0, slots := 0, locals := 0 }) (va_Pc [.ref a0, .int (kz x), .int (kz y), .int (kz may)] (fun U => U.heap = Hp ∧ jK (dC, dI) ca U ∧ jv (dC, dI) ca A X U.heap ∧ va_at (dC, dI) vwCl (z9, .inl (ca 22, 36, .inl f_2)) U.heap)) (va_Qi (fun (r : Int32) (u : Nat → Int32) => mtS f_2 x y may r u) (fun u U => jK (dC, dI) ca U ∧ jv (dC, dI) ca A X U.heap ∧ kfm X [214] Hp U.heap ∧ va_at (dC, dI) vwCl (z9, .inl (ca 22, 36, .inl u)) U.heap) A) 0 0 A := by
  refine Met.ofW (cc := cX9_setMeeting) (maxL := 5) (ret := (some .boolean)) (by decide) rfl ?_
  intro p e s m args below meth c s₁ B hml hv
  obtain ⟨rfl, hHp, ⟨hK, hN⟩, hI, c_f_2⟩ := hv
  have hx := B.exec
  have hb := B.bytes
  have hr := B.returns
  have hts := atoms_spec (ws := wsX9_setMeeting) B.pre
  have hown : s.vm.findClass RX9 = some m.cls := findClass_of_methodNamed B.named
  have hL30 := hts (.fieldLink RX9 30 "JoinBench$Tongue" "forbidden" "[Z") (by decide +kernel)
  have hinX9 : ∀ w ∈ u_ws RX9 TX9 5, w ∈ wsX9_setMeeting := by decide +kernel
  obtain ⟨H, hH⟩ : ∃ H : Heap, H = s.heap := ⟨_, rfl⟩
  have hS : va_S A s.heap H [] := by rw [hH]; exact va_S.rf
  have hF : kfm X [214] Hp H := by rw [hH, hHp]; exact fm_rf _ _ _
  rw [← hH] at hI c_f_2 ⊢
  clear hH
  have hl := lv_entry ([.ref a0, .int (kz x), .int (kz y), .int (kz may)]) (n := 5) (Nat.le_of_ble_eq_true rfl)
  rw [lg_entry_eq]
  generalize (lg_sl ([.ref a0, .int (kz x), .int (kz y), .int (kz may)]) ++ List.replicate (5 - (lg_sl ([.ref a0, .int (kz x), .int (kz y), .int (kz may)])).length) Slot.unset).toArray = ls at hl ⊢
  have hl : lv_has ls 5 [(0, .ref a0), (1, .int (kz x)), (2, .int (kz y)), (3, .int (kz may))] := hl
  refine lv_aload_n hx hb dX9_setMeeting_0 rfl (lv_at hl 0 rfl) ?_
  obtain ⟨fs9, co_1, jo9⟩ := jv_o9 hI g_a0
  obtain ⟨forms_1, rules_1, formCount_1, ruleCount_1, forbidden_1, rfl, g_forms_1, g_rules_1, ⟨formCount_1a, formCount_1b⟩, ⟨ruleCount_1a, ruleCount_1b⟩, g_forbidden_1, x_1_0, x_1_1, x_1_2⟩ := jo9
  refine iz_get (D := (dC, dI)) (ci := 9) (v := .ref forbidden_1) (C := RX9) (T := TX9) (N := 5) hx hb hts hinX9 hown hK co_1 rfl 4 (by decide) hL30 (fun _ h9 => h9) rfl dX9_setMeeting_1 ?_
  refine lv_iload_n hx hb dX9_setMeeting_4 rfl (lv_at hl 1 rfl) ?_
  refine lv_bipush (v := kz 6) hx hb dX9_setMeeting_5 (by decide) ?_
  refine iz_imul hx hb dX9_setMeeting_7 ?_
  refine lv_iload_n hx hb dX9_setMeeting_8 rfl (lv_at hl 2 rfl) ?_
  refine iz_iadd hx hb dX9_setMeeting_9 ?_
  obtain rfl : forbidden_1 = z9 := jU_eq hU g_forbidden_1 g_z (show (22 : Nat) ≠ 0 by decide) (show uq 214 = true by decide)
  have ho : okk x y := ⟨xi, yi⟩
  have e9 : (x * 6) + y = 6 * x + y := by omega
  refine iz_zald hx hb hK 2 c_f_2 rfl (by omega) (by decide) dX9_setMeeting_10 ?_
  have v_3a := kz_lo (f_2 (Int.toNat ((x * 6) + y)))
  have v_3b := kz_hi (f_2 (Int.toNat ((x * 6) + y)))
  change _ ≤ ge1 f_2 ((x * 6) + y) at v_3a
  change ge1 f_2 ((x * 6) + y) ≤ _ at v_3b
  obtain ⟨v_3, ev_3⟩ : ∃ z9 : Int, ge1 f_2 ((x * 6) + y) = z9 := ⟨_, rfl⟩
  rw [ev_3] at v_3a v_3b ⊢
  refine lv_iload_n hx hb dX9_setMeeting_11 rfl (lv_at hl 3 rfl) ?_
  refine iz_ne (tgt := 19) hx hb dX9_setMeeting_12 (by decide) (by unfold rg2; omega) (fun br_4 => ?_) (fun br_4 => ?_)
  · refine lv_iconst (v := kz 0) hx hb dX9_setMeeting_19 rfl ?_
    refine lv_istore (lv' := [(4, .int (kz 0)), (0, .ref a0), (1, .int (kz x)), (2, .int (kz y)), (3, .int (kz may))]) hx hb dX9_setMeeting_20 hl (by decide) rfl (fun ls hl => ?_)
    refine lv_aload_n hx hb dX9_setMeeting_22 rfl (lv_at hl 1 rfl) ?_
    refine iz_get (D := (dC, dI)) (ci := 9) (v := .ref forbidden_1) (C := RX9) (T := TX9) (N := 5) hx hb hts hinX9 hown hK co_1 rfl 4 (by decide) hL30 (fun _ h9 => h9) rfl dX9_setMeeting_23 ?_
    refine lv_iload_n hx hb dX9_setMeeting_26 rfl (lv_at hl 2 rfl) ?_
    refine lv_bipush (v := kz 6) hx hb dX9_setMeeting_27 (by decide) ?_
    refine iz_imul hx hb dX9_setMeeting_29 ?_
    refine lv_iload_n hx hb dX9_setMeeting_30 rfl (lv_at hl 3 rfl) ?_
    refine iz_iadd hx hb dX9_setMeeting_31 ?_
    refine lv_iload_n hx hb dX9_setMeeting_32 rfl (lv_at hl 4 rfl) ?_
    refine iz_nez (tgt := 40) hx hb dX9_setMeeting_33 (by decide) (by unfold rg2; omega) (fun br_5 => ?_) (fun br_5 => ?_)
    · refine lv_iconst (v := kz 0) hx hb dX9_setMeeting_40 rfl ?_
      refine iz_zast hx hb hK 2 c_f_2 hS (jv_A hI g_forbidden_1 (show (22 : Nat) ≠ 0 by decide)) rfl (by omega) (by decide) dX9_setMeeting_41 (fun H locs c9 oq hS => ?_)
      have hI := jv_s22 hI g_forbidden_1 c9 oq
      have hF := fm_put hF g_forbidden_1 (show (214 : Nat) ∈ [214] by decide) oq
      have co_1 := co_1.kept (oq _ (kn_ne g_a0 g_forbidden_1 (show (9 : Nat) ≠ 214 by decide)))
      rw [nar_0] at c9
      clear oq
      refine lv_iload hx hb dX9_setMeeting_42 (lv_at hl 0 rfl) ?_
      exact W.zret (v := kz 0) hx hb hr (by decide) (fun t9 ht hW => ⟨⟨kz 0, upd f_2 (Int.toNat ((x * 6) + y)) (kz 0), rfl, ⟨fun _ => ⟨mt_up (f := f_2) (w := (x * 6) + y) (v := 0) (by omega) ho (by omega) hm, Or.inr ⟨by rw [← e9]; omega, rfl⟩⟩, fun h9 => absurd ho h9⟩, jK_warm hW ⟨hK, hN⟩, by rw [ht]; exact ⟨hI, hF, c9⟩⟩, hS.F ht⟩) hS.2.2 dX9_setMeeting_44
    · refine lv_iconst (v := kz 1) hx hb dX9_setMeeting_36 rfl ?_
      refine lv_goto (tgt := 41) hx hb dX9_setMeeting_37 (by decide) ?_
      refine iz_zast hx hb hK 2 c_f_2 hS (jv_A hI g_forbidden_1 (show (22 : Nat) ≠ 0 by decide)) rfl (by omega) (by decide) dX9_setMeeting_41 (fun H locs c9 oq hS => ?_)
      have hI := jv_s22 hI g_forbidden_1 c9 oq
      have hF := fm_put hF g_forbidden_1 (show (214 : Nat) ∈ [214] by decide) oq
      have co_1 := co_1.kept (oq _ (kn_ne g_a0 g_forbidden_1 (show (9 : Nat) ≠ 214 by decide)))
      rw [nar_1] at c9
      clear oq
      refine lv_iload hx hb dX9_setMeeting_42 (lv_at hl 0 rfl) ?_
      exact W.zret (v := kz 0) hx hb hr (by decide) (fun t9 ht hW => ⟨⟨kz 0, upd f_2 (Int.toNat ((x * 6) + y)) (kz 1), rfl, ⟨fun _ => ⟨mt_up (f := f_2) (w := (x * 6) + y) (v := 1) (by omega) ho (by omega) hm, Or.inr ⟨by rw [← e9]; omega, rfl⟩⟩, fun h9 => absurd ho h9⟩, jK_warm hW ⟨hK, hN⟩, by rw [ht]; exact ⟨hI, hF, c9⟩⟩, hS.F ht⟩) hS.2.2 dX9_setMeeting_44
  · refine lv_iconst (v := kz 1) hx hb dX9_setMeeting_15 rfl ?_
    refine lv_goto (tgt := 20) hx hb dX9_setMeeting_16 (by decide) ?_
    refine lv_istore (lv' := [(4, .int (kz 1)), (0, .ref a0), (1, .int (kz x)), (2, .int (kz y)), (3, .int (kz may))]) hx hb dX9_setMeeting_20 hl (by decide) rfl (fun ls hl => ?_)
    refine lv_aload_n hx hb dX9_setMeeting_22 rfl (lv_at hl 1 rfl) ?_
    refine iz_get (D := (dC, dI)) (ci := 9) (v := .ref forbidden_1) (C := RX9) (T := TX9) (N := 5) hx hb hts hinX9 hown hK co_1 rfl 4 (by decide) hL30 (fun _ h9 => h9) rfl dX9_setMeeting_23 ?_
    refine lv_iload_n hx hb dX9_setMeeting_26 rfl (lv_at hl 2 rfl) ?_
    refine lv_bipush (v := kz 6) hx hb dX9_setMeeting_27 (by decide) ?_
    refine iz_imul hx hb dX9_setMeeting_29 ?_
    refine lv_iload_n hx hb dX9_setMeeting_30 rfl (lv_at hl 3 rfl) ?_
    refine iz_iadd hx hb dX9_setMeeting_31 ?_
    refine lv_iload_n hx hb dX9_setMeeting_32 rfl (lv_at hl 4 rfl) ?_
    refine iz_nez (tgt := 40) hx hb dX9_setMeeting_33 (by decide) (by unfold rg2; omega) (fun br_6 => ?_) (fun br_6 => ?_)
    · refine lv_iconst (v := kz 0) hx hb dX9_setMeeting_40 rfl ?_
      refine iz_zast hx hb hK 2 c_f_2 hS (jv_A hI g_forbidden_1 (show (22 : Nat) ≠ 0 by decide)) rfl (by omega) (by decide) dX9_setMeeting_41 (fun H locs c9 oq hS => ?_)
      have hI := jv_s22 hI g_forbidden_1 c9 oq
      have hF := fm_put hF g_forbidden_1 (show (214 : Nat) ∈ [214] by decide) oq
      have co_1 := co_1.kept (oq _ (kn_ne g_a0 g_forbidden_1 (show (9 : Nat) ≠ 214 by decide)))
      rw [nar_0] at c9
      clear oq
      refine lv_iload hx hb dX9_setMeeting_42 (lv_at hl 0 rfl) ?_
      exact W.zret (v := kz 1) hx hb hr (by decide) (fun t9 ht hW => ⟨⟨kz 1, upd f_2 (Int.toNat ((x * 6) + y)) (kz 0), rfl, ⟨fun _ => ⟨mt_up (f := f_2) (w := (x * 6) + y) (v := 0) (by omega) ho (by omega) hm, Or.inl ⟨by rw [← e9]; omega, rfl⟩⟩, fun h9 => absurd ho h9⟩, jK_warm hW ⟨hK, hN⟩, by rw [ht]; exact ⟨hI, hF, c9⟩⟩, hS.F ht⟩) hS.2.2 dX9_setMeeting_44
    · refine lv_iconst (v := kz 1) hx hb dX9_setMeeting_36 rfl ?_
      refine lv_goto (tgt := 41) hx hb dX9_setMeeting_37 (by decide) ?_
      refine iz_zast hx hb hK 2 c_f_2 hS (jv_A hI g_forbidden_1 (show (22 : Nat) ≠ 0 by decide)) rfl (by omega) (by decide) dX9_setMeeting_41 (fun H locs c9 oq hS => ?_)
      have hI := jv_s22 hI g_forbidden_1 c9 oq
      have hF := fm_put hF g_forbidden_1 (show (214 : Nat) ∈ [214] by decide) oq
      have co_1 := co_1.kept (oq _ (kn_ne g_a0 g_forbidden_1 (show (9 : Nat) ≠ 214 by decide)))
      rw [nar_1] at c9
      clear oq
      refine lv_iload hx hb dX9_setMeeting_42 (lv_at hl 0 rfl) ?_
      exact W.zret (v := kz 1) hx hb hr (by decide) (fun t9 ht hW => ⟨⟨kz 1, upd f_2 (Int.toNat ((x * 6) + y)) (kz 1), rfl, ⟨fun _ => ⟨mt_up (f := f_2) (w := (x * 6) + y) (v := 1) (by omega) ho (by omega) hm, Or.inl ⟨by rw [← e9]; omega, rfl⟩⟩, fun h9 => absurd ho h9⟩, jK_warm hW ⟨hK, hN⟩, by rw [ht]; exact ⟨hI, hF, c9⟩⟩, hS.F ht⟩) hS.2.2 dX9_setMeeting_44
set_option maxHeartbeats 4000000 in
set_option maxRecDepth 100000 in
theorem j_meetsE (l : Launch) (dC : Nat → ClassId) (dI : Nat → Nat → Nat) (ca : Nat → ClassId) (A : Nat → Prop) (X : jG) (hU : jU X) (Hp : Heap) (z9 : Nat) (f_2 : Nat → Int32) (g_z : X.1 z9 = (214, 22, 36, 0, 0)) (o : Nat) (j_tape : Nat) (j_tongue : Nat) (j_row : Nat) (j_trees : Nat) (j_choices : Nat) (pv : Option Nat) (st : Int) (x : Int) (y : Int) (may : Int) (g_o : X.1 o = (999, 0, 0, 0, 0)) (hAo : A o) (g_j_tape : X.1 j_tape = (8, 30, 0, 0, 0)) (g_j_tongue : X.1 j_tongue = (9, 30, 0, 0, 0)) (g_j_row : X.1 j_row = (6, 30, 0, 0, 0)) (g_j_trees : X.1 j_trees = (10, 30, 0, 0, 0)) (g_j_choices : X.1 j_choices = (1, 30, 0, 0, 0)) (hpv : ∀ b : Nat, pv = some b → X.1 b = (4, 30, 0, 0, 0)) (hst : 0 ≤ st ∧ st ≤ 20) (xr : -2147483648 ≤ x ∧ x ≤ 2147483647) (yr : -2147483648 ≤ y ∧ y ≤ 2147483647) (hm : may = 0 ∨ may = 1) : Met l yX11_meets wsX11_meets ({ frames := 2, cells := 0, slots := 0, locals := 42 }) (va_Pc [.ref o, .int (kz x), .int (kz y), .int (kz may)] (fun U => U.heap = Hp ∧ jK (dC, dI) ca U ∧ jv (dC, dI) ca A X U.heap ∧ va_at (dC, dI) vwCl (o, .inr (11, [.ref j_tape, .ref j_tongue, .ref j_row, .ref j_trees, .ref j_choices, va_rf pv, .int (kz st)])) U.heap ∧ va_at (dC, dI) vwCl (z9, .inl (ca 22, 36, .inl f_2)) U.heap)) (va_Qi (fun (r : Int32) (u : Int × (Nat → Int32)) => u.1 = st ∧ mtS f_2 x y may r u.2) (fun (u : Int × (Nat → Int32)) U => jK (dC, dI) ca U ∧ jv (dC, dI) ca A X U.heap ∧ va_at (dC, dI) vwCl (o, .inr (11, [.ref j_tape, .ref j_tongue, .ref j_row, .ref j_trees, .ref j_choices, va_rf pv, .int (kz u.1)])) U.heap ∧ va_at (dC, dI) vwCl (z9, .inl (ca 22, 36, .inl u.2)) U.heap) A) 0 0 A := by
  refine Met.ofW (cc := cX11_meets) (maxL := 4) (ret := (some .boolean)) (by decide) rfl ?_
  intro p e s m args below meth c s₁ B hml hv
  obtain ⟨rfl, hHp, ⟨hK, hN⟩, hI, hO, c_z⟩ := hv
  have hx := B.exec
  have hb := B.bytes
  have hr := B.returns
  have hts := atoms_spec (ws := wsX11_meets) B.pre
  have hown : s.vm.findClass RX11 = some m.cls := findClass_of_methodNamed B.named
  have hL19 := hts (.fieldLink RX11 19 "JoinBench" "tongue" "LJoinBench$Tongue;") (by decide +kernel)
  have hinX11 : ∀ w ∈ u_ws RX11 TX11 7, w ∈ wsX11_meets := by decide +kernel
  obtain ⟨H, hH⟩ : ∃ H : Heap, H = s.heap := ⟨_, rfl⟩
  have hS : va_S A s.heap H [] := by rw [hH]; exact va_S.rf
  have hF : kfm X [214] Hp H := by rw [hH, hHp]; exact fm_rf _ _ _
  rw [← hH] at hI hO c_z ⊢
  clear hH
  have hl := lv_entry ([.ref o, .int (kz x), .int (kz y), .int (kz may)]) (n := 4) (Nat.le_of_ble_eq_true rfl)
  rw [lg_entry_eq]
  generalize (lg_sl ([.ref o, .int (kz x), .int (kz y), .int (kz may)]) ++ List.replicate (4 - (lg_sl ([.ref o, .int (kz x), .int (kz y), .int (kz may)])).length) Slot.unset).toArray = ls at hl ⊢
  have hl : lv_has ls 4 [(0, .ref o), (1, .int (kz x)), (2, .int (kz y)), (3, .int (kz may))] := hl
  refine lv_iload_n hx hb dX11_meets_0 rfl (lv_at hl 1 rfl) ?_
  refine vp_callSi (va_Run.run (va_runS (As := [.int (kz x)]) (rest := []) ⟨hx, hb, hml, hown, hts⟩ (c_isKind l x (by omega)) (va_cwS 1 hts gX11_meets_X11_isKind rfl rfl rfl (by decide +kernel) ⟨Nat.le_of_ble_eq_true rfl, Nat.le_of_ble_eq_true rfl⟩) ⟨fun a U g mk q => q, fun U hU hW => ⟨rfl, trivial⟩⟩ rfl rfl hl.1 rfl (lv_room (Nat.le_of_ble_eq_true rfl)) dX11_meets_1 ⟨Nat.le_of_ble_eq_true rfl, Nat.le_of_ble_eq_true rfl⟩)) (fun r_2 hw_1 => ?_)
  rcases hw_1 with ⟨rfl, hw_1⟩ | ⟨rfl, hw_1⟩
  · refine iz_eqz (tgt := 14) hx hb dX11_meets_4 (by decide) (by unfold rg2; omega) (fun q9 => absurd q9 (by decide)) (fun _ => ?_)
    refine lv_iload_n hx hb dX11_meets_7 rfl (lv_at hl 2 rfl) ?_
    refine vp_callSi (va_Run.run (va_runS (As := [.int (kz y)]) (rest := []) ⟨hx, hb, hml, hown, hts⟩ (c_isKind l y (by omega)) (va_cwS 1 hts gX11_meets_X11_isKind rfl rfl rfl (by decide +kernel) ⟨Nat.le_of_ble_eq_true rfl, Nat.le_of_ble_eq_true rfl⟩) ⟨fun a U g mk q => q, fun U hU hW => ⟨rfl, trivial⟩⟩ rfl rfl hl.1 rfl (lv_room (Nat.le_of_ble_eq_true rfl)) dX11_meets_8 ⟨Nat.le_of_ble_eq_true rfl, Nat.le_of_ble_eq_true rfl⟩)) (fun r_4 hw_3 => ?_)
    rcases hw_3 with ⟨rfl, hw_3⟩ | ⟨rfl, hw_3⟩
    · refine iz_nez (tgt := 16) hx hb dX11_meets_11 (by decide) (by unfold rg2; omega) (fun _ => ?_) (fun q9 => absurd q9 (by decide))
      refine lv_aload_n hx hb dX11_meets_16 rfl (lv_at hl 0 rfl) ?_
      refine iz_get (D := (dC, dI)) (ci := 11) (v := .ref j_tongue) (C := RX11) (T := TX11) (N := 7) hx hb hts hinX11 hown hK hO rfl 1 (by decide) hL19 (fun _ h9 => h9) rfl dX11_meets_17 ?_
      refine lv_iload_n hx hb dX11_meets_20 rfl (lv_at hl 1 rfl) ?_
      refine lv_iload_n hx hb dX11_meets_21 rfl (lv_at hl 2 rfl) ?_
      refine lv_iload_n hx hb dX11_meets_22 rfl (lv_at hl 3 rfl) ?_
      obtain ⟨fs9, co_5, jo9⟩ := jv_o9 hI g_j_tongue
      obtain ⟨forms_5, rules_5, formCount_5, ruleCount_5, forbidden_5, rfl, g_forms_5, g_rules_5, ⟨formCount_5a, formCount_5b⟩, ⟨ruleCount_5a, ruleCount_5b⟩, g_forbidden_5, x_5_0, x_5_1, x_5_2⟩ := jo9
      refine va_calli (va_runV (As := [.int (kz x), .int (kz y), .int (kz may)]) (rest := []) ⟨hx, hb, hml, hown, hts⟩ (c_setMeetingE l dC dI ca A X hU H z9 f_2 g_z j_tongue x y may g_j_tongue hw_1 hw_3 hm) (cwV 3 hts gX11_meets_X9_setMeeting rfl rfl rfl (by decide +kernel) ⟨Nat.le_of_ble_eq_true rfl, Nat.le_of_ble_eq_true rfl⟩) ⟨fun a U g mk q => by obtain ⟨q0, qH, ⟨qK, qN⟩, qI⟩ := q; exact ⟨q0, qH, ⟨va_K.moved (u := U) (U := U.calling g mk a) (Vm.Alike.refl U.vm) qK, jN_same (U := U.calling g mk a) rfl qN⟩, qI⟩, va_recv hK (at_P co_5) (ci := 9) (q0 := 0) rfl rfl, fun U hU hW => ⟨rfl, hU, jK_warm hW ⟨hK, hN⟩, by rw [hU]; exact ⟨hI, c_z⟩⟩⟩ rfl rfl hl.1 rfl (lv_room (Nat.le_of_ble_eq_true rfl)) dX11_meets_23 ⟨Nat.le_of_ble_eq_true rfl, Nat.le_of_ble_eq_true rfl⟩) hS (fun q _ h => h) (fun q h => h) (fun r_7 u t9 H locs ht hvm hw_6 hB hz1 hk1 hS => ?_)
      obtain ⟨-, hI, hf9, c_z⟩ := hB
      rw [ht] at hI hf9 c_z
      clear ht hvm hz1
      have hO := fm_at hf9 g_o (show (999 : Nat) ∉ ([214] : List Nat) by decide) hO
      have co_5 := fm_at hf9 g_j_tongue (show (9 : Nat) ∉ ([214] : List Nat) by decide) co_5
      have hF := fm_tr hF hf9 (by decide)
      clear hk1 hf9
      obtain ⟨z_9, z_9a, z_9b, rfl⟩ := kz_ex r_7
      have hz9 : z_9 = 1 ∨ z_9 = 0 := by
        rcases (hw_6.1 ⟨hw_1, hw_3⟩).2 with ⟨-, h9⟩ | ⟨-, h9⟩
        · exact Or.inl ((kz_eq ⟨z_9a, z_9b, by omega, by omega⟩).mp h9)
        · exact Or.inr ((kz_eq ⟨z_9a, z_9b, by omega, by omega⟩).mp h9)
      rcases hz9 with rfl | rfl
      · exact W.zret (v := kz 1) hx hb hr (by decide) (fun t9 ht hW => ⟨⟨kz 1, (st, u), rfl, ⟨rfl, hw_6⟩, jK_warm hW ⟨hK, hN⟩, by rw [ht]; exact ⟨hI, hO, c_z⟩⟩, hS.F ht⟩) hS.2.2 dX11_meets_26
      · exact W.zret (v := kz 0) hx hb hr (by decide) (fun t9 ht hW => ⟨⟨kz 0, (st, u), rfl, ⟨rfl, hw_6⟩, jK_warm hW ⟨hK, hN⟩, by rw [ht]; exact ⟨hI, hO, c_z⟩⟩, hS.F ht⟩) hS.2.2 dX11_meets_26
    · refine iz_nez (tgt := 16) hx hb dX11_meets_11 (by decide) (by unfold rg2; omega) (fun q9 => absurd q9 (by decide)) (fun _ => ?_)
      refine lv_iconst (v := kz 0) hx hb dX11_meets_14 rfl ?_
      exact W.zret (v := kz 0) hx hb hr (by decide) (fun t9 ht hW => ⟨⟨kz 0, (st, f_2), rfl, ⟨rfl, fun h9 => absurd h9 (fun h8 => by obtain ⟨h6, h7⟩ := h8; omega), fun _ => ⟨rfl, rfl⟩⟩, jK_warm hW ⟨hK, hN⟩, by rw [ht]; exact ⟨hI, hO, c_z⟩⟩, hS.F ht⟩) hS.2.2 dX11_meets_15
  · refine iz_eqz (tgt := 14) hx hb dX11_meets_4 (by decide) (by unfold rg2; omega) (fun _ => ?_) (fun q9 => absurd q9 (by decide))
    refine lv_iconst (v := kz 0) hx hb dX11_meets_14 rfl ?_
    exact W.zret (v := kz 0) hx hb hr (by decide) (fun t9 ht hW => ⟨⟨kz 0, (st, f_2), rfl, ⟨rfl, fun h9 => absurd h9 (fun h8 => by obtain ⟨h6, h7⟩ := h8; omega), fun _ => ⟨rfl, rfl⟩⟩, jK_warm hW ⟨hK, hN⟩, by rw [ht]; exact ⟨hI, hO, c_z⟩⟩, hS.F ht⟩) hS.2.2 dX11_meets_15
set_option maxHeartbeats 4000000 in
set_option maxRecDepth 100000 in
theorem m_meetsE (l : Launch) (dC : Nat → ClassId) (dI : Nat → Nat → Nat) (ca : Nat → ClassId) (A : Nat → Prop) (X : kGh) (o : Nat) (am : Nat → Nat) (zi : Nat → Int) (zl : Nat → Int64) (hM : mS X A o am) (hz : mZ X am zi) (a1 : Int) (b1 : Int) (may : Int) (a1r : -2147483648 ≤ a1 ∧ a1 ≤ 2147483647) (b1r : -2147483648 ≤ b1 ∧ b1 ≤ 2147483647) (hm : may = 0 ∨ may = 1) (f17_5 : Nat → Int32) (hbt : bits f17_5) : Met l yX12_meets wsX12_meets ({ frames := 2, cells := 0, slots := 0, locals := 42 }) (va_Pc [.ref o, .int (kz a1), .int (kz b1), .int (kz may)] (fun U => va_K (dC, dI) vwCl (k_tys ca) U ∧ mI (dC, dI) ca A X o am zi zl U.heap ∧ va_at (dC, dI) vwCl (am 17, .inl (ca 22, 36, .inl f17_5)) U.heap)) (va_Qi (fun (r : Int32) (u : (Nat → Int) × (Nat → Int64) × (Nat → Int32)) => mZ X am u.1 ∧ u.1 20 = zi 20 ∧ mtS f17_5 a1 b1 may r u.2.2) (fun u U => va_K (dC, dI) vwCl (k_tys ca) U ∧ mI (dC, dI) ca A X o am u.1 u.2.1 U.heap ∧ va_at (dC, dI) vwCl (am 17, .inl (ca 22, 36, .inl u.2.2)) U.heap) A) 0 0 A := by
  refine Met.ofW (cc := cX12_meets) (maxL := 4) (ret := (some .boolean)) (by decide) rfl ?_
  intro p e s m args below meth c s₁ B hml hv
  obtain ⟨rfl, hK, ⟨hI, hO⟩, c_f17_5⟩ := hv
  have hx := B.exec
  have hb := B.bytes
  have hr := B.returns
  have hts := atoms_spec (ws := wsX12_meets) B.pre
  have hown : s.vm.findClass RX12 = some m.cls := findClass_of_methodNamed B.named
  have hin : ∀ w ∈ u_ws RX12 TX12 49, w ∈ wsX12_meets := by decide +kernel
  have hL54 := hts (.fieldLink RX12 54 "JoinBenchModel" "mayNot" "[Z") (by decide +kernel)
  have g17 : X.1 (am 17) = (117, 22, 36, 0, 0) := hM.1 17 _ rfl (by decide)
  obtain ⟨⟨z1a, z1b⟩, ⟨z2a, z2b⟩, ⟨z9a, z9b⟩, ⟨z20a, z20b⟩, ⟨z21a, z21b⟩, ⟨z22a, z22b⟩, ⟨z26a, z26b⟩, ⟨z28a, z28b⟩, ⟨z34a, z34b⟩, ⟨z35a, z35b⟩, ⟨z38a, z38b⟩, ⟨z39a, z39b⟩, ⟨z46a, z46b⟩, hzA, hzB⟩ := id hz
  obtain ⟨H, hH⟩ : ∃ H : Heap, H = s.heap := ⟨_, rfl⟩
  have hS : va_S A s.heap H [] := by rw [hH]; exact va_S.rf
  rw [← hH] at hI hO c_f17_5 ⊢
  clear hH
  have hl := lv_entry ([.ref o, .int (kz a1), .int (kz b1), .int (kz may)]) (n := 4) (Nat.le_of_ble_eq_true rfl)
  rw [lg_entry_eq]
  generalize (lg_sl ([.ref o, .int (kz a1), .int (kz b1), .int (kz may)]) ++ List.replicate (4 - (lg_sl ([.ref o, .int (kz a1), .int (kz b1), .int (kz may)])).length) Slot.unset).toArray = ls at hl ⊢
  have hl : lv_has ls 4 [(0, .ref o), (1, .int (kz a1)), (2, .int (kz b1)), (3, .int (kz may))] := hl
  refine lv_iload_n hx hb dX12_meets_0 rfl (lv_at hl 1 rfl) ?_
  refine vp_callSi (va_Run.run (va_runS (As := [.int (kz a1)]) (rest := []) ⟨hx, hb, hml, hown, hts⟩ (m_isKind l a1 (by omega)) (va_cwS 1 hts gX12_meets_X12_isKind rfl rfl rfl (by decide +kernel) ⟨Nat.le_of_ble_eq_true rfl, Nat.le_of_ble_eq_true rfl⟩) ⟨fun a U g mk q => q, fun U hU hW => ⟨rfl, trivial⟩⟩ rfl rfl hl.1 rfl (lv_room (Nat.le_of_ble_eq_true rfl)) dX12_meets_1 ⟨Nat.le_of_ble_eq_true rfl, Nat.le_of_ble_eq_true rfl⟩)) (fun r_2 hw_1 => ?_)
  rcases hw_1 with ⟨rfl, hw_1⟩ | ⟨rfl, hw_1⟩
  · refine iz_eqz (tgt := 29) hx hb dX12_meets_4 (by decide) (by unfold rg2; omega) (fun q9 => absurd q9 (by decide)) (fun _ => ?_)
    refine lv_iload_n hx hb dX12_meets_7 rfl (lv_at hl 2 rfl) ?_
    refine vp_callSi (va_Run.run (va_runS (As := [.int (kz b1)]) (rest := []) ⟨hx, hb, hml, hown, hts⟩ (m_isKind l b1 (by omega)) (va_cwS 1 hts gX12_meets_X12_isKind rfl rfl rfl (by decide +kernel) ⟨Nat.le_of_ble_eq_true rfl, Nat.le_of_ble_eq_true rfl⟩) ⟨fun a U g mk q => q, fun U hU hW => ⟨rfl, trivial⟩⟩ rfl rfl hl.1 rfl (lv_room (Nat.le_of_ble_eq_true rfl)) dX12_meets_8 ⟨Nat.le_of_ble_eq_true rfl, Nat.le_of_ble_eq_true rfl⟩)) (fun r_4 hw_3 => ?_)
    rcases hw_3 with ⟨rfl, hw_3⟩ | ⟨rfl, hw_3⟩
    · refine iz_eqz (tgt := 29) hx hb dX12_meets_11 (by decide) (by unfold rg2; omega) (fun q9 => absurd q9 (by decide)) (fun _ => ?_)
      refine lv_aload_n hx hb dX12_meets_14 rfl (lv_at hl 0 rfl) ?_
      refine iz_get (D := (dC, dI)) (ci := 12) (v := .ref (am 17)) (C := RX12) (T := TX12) (N := 49) hx hb hts hin hown hK hO rfl 17 (by decide) hL54 (fun _ h9 => h9) rfl dX12_meets_15 ?_
      refine lv_bipush (v := kz 6) hx hb dX12_meets_18 (by decide) ?_
      refine lv_iload_n hx hb dX12_meets_20 rfl (lv_at hl 1 rfl) ?_
      refine iz_imul hx hb dX12_meets_21 ?_
      refine lv_iload_n hx hb dX12_meets_22 rfl (lv_at hl 2 rfl) ?_
      refine iz_iadd hx hb dX12_meets_23 ?_
      refine iz_zald hx hb hK 2 c_f17_5 rfl (by omega) (by decide) dX12_meets_24 ?_
      have v_6a := kz_lo (f17_5 (Int.toNat ((6 * a1) + b1)))
      have v_6b := kz_hi (f17_5 (Int.toNat ((6 * a1) + b1)))
      change _ ≤ ge1 f17_5 ((6 * a1) + b1) at v_6a
      change ge1 f17_5 ((6 * a1) + b1) ≤ _ at v_6b
      obtain ⟨v_6, ev_6⟩ : ∃ z9 : Int, ge1 f17_5 ((6 * a1) + b1) = z9 := ⟨_, rfl⟩
      rw [ev_6] at v_6a v_6b ⊢
      refine lv_iload_n hx hb dX12_meets_25 rfl (lv_at hl 3 rfl) ?_
      refine iz_eq (tgt := 31) hx hb dX12_meets_26 (by decide) (by unfold rg2; omega) (fun br_7 => ?_) (fun br_7 => ?_)
      · refine lv_aload_n hx hb dX12_meets_31 rfl (lv_at hl 0 rfl) ?_
        refine iz_get (D := (dC, dI)) (ci := 12) (v := .ref (am 17)) (C := RX12) (T := TX12) (N := 49) hx hb hts hin hown hK hO rfl 17 (by decide) hL54 (fun _ h9 => h9) rfl dX12_meets_32 ?_
        refine lv_bipush (v := kz 6) hx hb dX12_meets_35 (by decide) ?_
        refine lv_iload_n hx hb dX12_meets_37 rfl (lv_at hl 1 rfl) ?_
        refine iz_imul hx hb dX12_meets_38 ?_
        refine lv_iload_n hx hb dX12_meets_39 rfl (lv_at hl 2 rfl) ?_
        refine iz_iadd hx hb dX12_meets_40 ?_
        refine lv_iload_n hx hb dX12_meets_41 rfl (lv_at hl 3 rfl) ?_
        refine iz_nez (tgt := 49) hx hb dX12_meets_42 (by decide) (by unfold rg2; omega) (fun br_8 => ?_) (fun br_8 => ?_)
        · refine lv_iconst (v := kz 0) hx hb dX12_meets_49 rfl ?_
          refine iz_zast hx hb hK 2 c_f17_5 hS (iv_A hI g17 (by decide)) rfl (by omega) (by decide) dX12_meets_50 (fun H locs c9 oq hS => ?_)
          have hI := iv_s22 hI g17 c9 oq
          have hO := hO.kept (oq _ (iv_ne0 g17 hM.2.1 (by decide)).symm)
          rw [nar_0] at c9
          clear oq
          refine lv_iconst (v := kz 1) hx hb dX12_meets_51 rfl ?_
          exact W.zret (v := kz 1) hx hb hr (by decide) (fun t9 ht hW => ⟨⟨kz 1, (zi, zl, upd f17_5 (Int.toNat ((6 * a1) + b1)) (kz 0)), rfl, ⟨hz, rfl, ⟨fun ho => ⟨mt_up (f := f17_5) (w := (6 * a1) + b1) (v := 0) (by omega) ho (by omega) hm, Or.inl ⟨by omega, rfl⟩⟩, fun h9 => absurd (show okk a1 b1 from ⟨by omega, by omega⟩) h9⟩⟩, va_K.moved hW.alike hK, by rw [ht]; exact ⟨⟨hI, hO⟩, c9⟩⟩, hS.F ht⟩) hS.2.2 dX12_meets_52
        · refine lv_iconst (v := kz 1) hx hb dX12_meets_45 rfl ?_
          refine lv_goto (tgt := 50) hx hb dX12_meets_46 (by decide) ?_
          refine iz_zast hx hb hK 2 c_f17_5 hS (iv_A hI g17 (by decide)) rfl (by omega) (by decide) dX12_meets_50 (fun H locs c9 oq hS => ?_)
          have hI := iv_s22 hI g17 c9 oq
          have hO := hO.kept (oq _ (iv_ne0 g17 hM.2.1 (by decide)).symm)
          rw [nar_1] at c9
          clear oq
          refine lv_iconst (v := kz 1) hx hb dX12_meets_51 rfl ?_
          exact W.zret (v := kz 1) hx hb hr (by decide) (fun t9 ht hW => ⟨⟨kz 1, (zi, zl, upd f17_5 (Int.toNat ((6 * a1) + b1)) (kz 1)), rfl, ⟨hz, rfl, ⟨fun ho => ⟨mt_up (f := f17_5) (w := (6 * a1) + b1) (v := 1) (by omega) ho (by omega) hm, Or.inl ⟨by omega, rfl⟩⟩, fun h9 => absurd (show okk a1 b1 from ⟨by omega, by omega⟩) h9⟩⟩, va_K.moved hW.alike hK, by rw [ht]; exact ⟨⟨hI, hO⟩, c9⟩⟩, hS.F ht⟩) hS.2.2 dX12_meets_52
      · refine lv_iconst (v := kz 0) hx hb dX12_meets_29 rfl ?_
        exact W.zret (v := kz 0) hx hb hr (by decide) (fun t9 ht hW => ⟨⟨kz 0, (zi, zl, f17_5), rfl, ⟨hz, rfl, ⟨fun ho => ⟨fun z hz9 => by
          show ge1 f17_5 z = (if z = 6 * a1 + b1 then 1 - may else ge1 f17_5 z)
          by_cases q9 : z = 6 * a1 + b1
          · rw [if_pos q9, q9]; have h9 := hbt (6 * a1 + b1) (by omega); omega
          · rw [if_neg q9], Or.inr ⟨by omega, rfl⟩⟩, fun h9 => absurd (show okk a1 b1 from ⟨by omega, by omega⟩) h9⟩⟩, va_K.moved hW.alike hK, by rw [ht]; exact ⟨⟨hI, hO⟩, c_f17_5⟩⟩, hS.F ht⟩) hS.2.2 dX12_meets_30
    · refine iz_eqz (tgt := 29) hx hb dX12_meets_11 (by decide) (by unfold rg2; omega) (fun _ => ?_) (fun q9 => absurd q9 (by decide))
      refine lv_iconst (v := kz 0) hx hb dX12_meets_29 rfl ?_
      exact W.zret (v := kz 0) hx hb hr (by decide) (fun t9 ht hW => ⟨⟨kz 0, (zi, zl, f17_5), rfl, ⟨hz, rfl, ⟨fun h9 => absurd h9 (fun h8 => by obtain ⟨h6, h7⟩ := h8; omega), fun _ => ⟨rfl, rfl⟩⟩⟩, va_K.moved hW.alike hK, by rw [ht]; exact ⟨⟨hI, hO⟩, c_f17_5⟩⟩, hS.F ht⟩) hS.2.2 dX12_meets_30
  · refine iz_eqz (tgt := 29) hx hb dX12_meets_4 (by decide) (by unfold rg2; omega) (fun _ => ?_) (fun q9 => absurd q9 (by decide))
    refine lv_iconst (v := kz 0) hx hb dX12_meets_29 rfl ?_
    exact W.zret (v := kz 0) hx hb hr (by decide) (fun t9 ht hW => ⟨⟨kz 0, (zi, zl, f17_5), rfl, ⟨hz, rfl, ⟨fun h9 => absurd h9 (fun h8 => by obtain ⟨h6, h7⟩ := h8; omega), fun _ => ⟨rfl, rfl⟩⟩⟩, va_K.moved hW.alike hK, by rw [ht]; exact ⟨⟨hI, hO⟩, c_f17_5⟩⟩, hS.F ht⟩) hS.2.2 dX12_meets_30
