/-- a path's own cells -/
def Lp (id : Nat) : List kTy := (5, 30, id, 0, 0) :: Lc id
set_option maxHeartbeats 4000000 in
set_option maxRecDepth 100000 in
/-- X0_append -/
theorem c_appendR (l : Launch) (dC : Nat → ClassId) (dI : Nat → Nat → Nat) (ca : Nat → ClassId) (A : Nat → Prop) (X : jG) (hU : jU X) (Hp : Heap) (a0 : Nat) (f1 : Nat) (r1 : Nat) (id : Nat) (rid : Nat) (forms_a0 : Nat) (rules_a0 : Nat) (size_a0 : Int) (g_a0 : X.1 a0 = (0, 30, id, 0, 0)) (g_f1 : X.1 f1 = (2, 30, 0, 0, 0)) (g_r1 : X.1 r1 = (7, 30, rid, 0, 0)) (g_forms_a0 : X.1 forms_a0 = (210, 24, 40, 2, (id : Int))) (g_rules_a0 : X.1 rules_a0 = (211, 25, 40, 7, (id : Int))) (size_a0i : 0 ≤ size_a0 ∧ size_a0 ≤ 40) (x_a0_0 : size_a0 ≤ (X.2.1 forms_a0 : Int)) : Met l yX0_append wsX0_append ({ frames := 0, cells := 0, slots := 0, locals := 0 }) (va_Pc [.ref a0, .ref f1, .ref r1] (fun U => U.heap = Hp ∧ jK (dC, dI) ca U ∧ jv (dC, dI) ca A X U.heap ∧ va_at (dC, dI) vwCl (a0, .inr (0, [.ref forms_a0, .ref rules_a0, .int (kz size_a0)])) U.heap)) (va_Qv (fun (u : jG) => jup X u) (fun u U => jK (dC, dI) ca U ∧ jv (dC, dI) ca A u U.heap ∧ kfk X (Lc id) Hp U.heap) A) 0 0 A := by
  refine Met.ofW (cc := cX0_append) (maxL := 3) (ret := none) (by decide) rfl ?_
  intro p e s m args below meth c s₁ B hml hv
  obtain ⟨rfl, hHp, ⟨hK, hN⟩, hI, co_a0⟩ := hv
  have hx := B.exec
  have hb := B.bytes
  have hr := B.returns
  have hts := atoms_spec (ws := wsX0_append) B.pre
  have hown : s.vm.findClass RX0 = some m.cls := findClass_of_methodNamed B.named
  have hL23 := hts (.fieldLink RX0 23 "JoinBench$Chain" "size" "I") (by decide +kernel)
  have hL11 := hts (.fieldLink RX0 11 "JoinBench$Chain" "forms" "[LJoinBench$Form;") (by decide +kernel)
  have hL19 := hts (.fieldLink RX0 19 "JoinBench$Chain" "rules" "[LJoinBench$Rule;") (by decide +kernel)
  have hinX0 : ∀ w ∈ u_ws RX0 TX0 3, w ∈ wsX0_append := by decide +kernel
  obtain ⟨H, hH⟩ : ∃ H : Heap, H = s.heap := ⟨_, rfl⟩
  have hS : va_S A s.heap H [] := by rw [hH]; exact va_S.rf
  have hF : kfk X (Lc id) Hp H := by rw [hH, hHp]; exact fk_rf _ _ _
  have hT := jup_rf X
  rw [← hH] at hI co_a0 ⊢
  clear hH
  have hl := lv_entry ([.ref a0, .ref f1, .ref r1]) (n := 3) (Nat.le_of_ble_eq_true rfl)
  rw [lg_entry_eq]
  generalize (lg_sl ([.ref a0, .ref f1, .ref r1]) ++ List.replicate (3 - (lg_sl ([.ref a0, .ref f1, .ref r1])).length) Slot.unset).toArray = ls at hl ⊢
  have hl : lv_has ls 3 [(0, .ref a0), (1, .ref f1), (2, .ref r1)] := hl
  refine lv_aload_n hx hb dX0_append_0 rfl (lv_at hl 0 rfl) ?_
  refine iz_get (D := (dC, dI)) (ci := 0) (v := .int (kz size_a0)) (C := RX0) (T := TX0) (N := 3) hx hb hts hinX0 hown hK co_a0 rfl 2 (by decide) hL23 (fun _ h9 => h9) rfl dX0_append_1 ?_
  refine lv_bipush (v := kz 40) hx hb dX0_append_4 (by decide) ?_
  refine iz_ge (tgt := 39) hx hb dX0_append_6 (by decide) (by unfold rg2; omega) (fun br_1 => ?_) (fun br_1 => ?_)
  · exact W.vret hx hb hr (fun t9 ht hW => ⟨⟨X, rfl, hT, jK_warm hW ⟨hK, hN⟩, by rw [ht]; exact ⟨hI, fk_dn hT hF⟩⟩, hS.F ht⟩) hS.2.2 dX0_append_39
  · refine lv_aload_n hx hb dX0_append_9 rfl (lv_at hl 0 rfl) ?_
    refine iz_get (D := (dC, dI)) (ci := 0) (v := .ref forms_a0) (C := RX0) (T := TX0) (N := 3) hx hb hts hinX0 hown hK co_a0 rfl 0 (by decide) hL11 (fun _ h9 => h9) rfl dX0_append_10 ?_
    refine lv_aload_n hx hb dX0_append_13 rfl (lv_at hl 0 rfl) ?_
    refine iz_get (D := (dC, dI)) (ci := 0) (v := .int (kz size_a0)) (C := RX0) (T := TX0) (N := 3) hx hb hts hinX0 hown hK co_a0 rfl 2 (by decide) hL23 (fun _ h9 => h9) rfl dX0_append_14 ?_
    refine lv_aload_n hx hb dX0_append_17 rfl (lv_at hl 1 rfl) ?_
    obtain ⟨f_2, c_f_2, k_f_2⟩ := jv_q24 hI g_forms_a0
    obtain ⟨fs9, co_3, jo9⟩ := jv_o2 hI g_f1
    obtain ⟨ln_3, letters_3, kind_3, stem_3, kept_3, cost_3, number_3, ends_3, begins_3, rfl, g_letters_3, ⟨kind_3a, kind_3b⟩, ⟨stem_3a, stem_3b⟩, ⟨kept_3a, kept_3b⟩, ⟨cost_3a, cost_3b⟩, ⟨number_3a, number_3b⟩, ⟨ends_3a, ends_3b⟩, ⟨begins_3a, begins_3b⟩, x_3_0, x_3_1, x_3_2, x_3_3⟩ := jo9
    refine jz_aast hx hb hK 4 2 c_f_2 co_3 rfl rfl hS (jv_A hI g_forms_a0 (show (24 : Nat) ≠ 0 by decide)) (by omega) (by decide) dX0_append_18 (fun H locs c9 oq hS => ?_)
    have k9 := q24_up (z := (Int.toNat size_a0)) k_f_2 g_f1
    have hI := jv_set hI c9 oq (by rw [g_forms_a0]; exact jq_e24 k9)
    have hF := fk_put hF g_forms_a0 (by simp [Lp, Lc]) oq
    have co_a0 := co_a0.kept (oq _ (kn_ne g_a0 g_forms_a0 (show (0 : Nat) ≠ 210 by decide)))
    have co_3 := co_3.kept (oq _ (kn_ne g_f1 g_forms_a0 (show (2 : Nat) ≠ 210 by decide)))
    obtain ⟨X, hup9, hI, hc_4⟩ := jv_up ((Int.toNat size_a0) + 1) hI g_forms_a0 c9 k9 (up_some (fun j hj => (k_f_2 j (by omega)).2 (by omega)))
    have hF := fk_up hup9 hF
    have g_a0 := up_t hup9 g_a0
    have g_f1 := up_t hup9 g_f1
    have g_r1 := up_t hup9 g_r1
    have g_forms_a0 := up_t hup9 g_forms_a0
    have g_rules_a0 := up_t hup9 g_rules_a0
    have x_a0_0 : size_a0 ≤ (X.2.1 forms_a0 : Int) := by have h9 := (hup9.2.2 forms_a0).1; omega
    have hU := up_U hup9 hU
    have hT := jup_tr hT hup9
    clear oq c9 k9 hup9
    refine lv_aload_n hx hb dX0_append_19 rfl (lv_at hl 0 rfl) ?_
    refine iz_get (D := (dC, dI)) (ci := 0) (v := .ref rules_a0) (C := RX0) (T := TX0) (N := 3) hx hb hts hinX0 hown hK co_a0 rfl 1 (by decide) hL19 (fun _ h9 => h9) rfl dX0_append_20 ?_
    refine lv_aload_n hx hb dX0_append_23 rfl (lv_at hl 0 rfl) ?_
    refine iz_get (D := (dC, dI)) (ci := 0) (v := .int (kz size_a0)) (C := RX0) (T := TX0) (N := 3) hx hb hts hinX0 hown hK co_a0 rfl 2 (by decide) hL23 (fun _ h9 => h9) rfl dX0_append_24 ?_
    refine lv_aload_n hx hb dX0_append_27 rfl (lv_at hl 2 rfl) ?_
    obtain ⟨f_5, c_f_5, k_f_5⟩ := jv_q25 hI g_rules_a0
    obtain ⟨fs9, co_6, jo9⟩ := jv_o7 hI g_r1
    obtain ⟨ln_6, letters_6, endSize_6, beginningSize_6, comesFrom_6, comesSize_6, cost_6, firstDay_6, lastDay_6, number_6, rfl, g_letters_6, ⟨endSize_6a, endSize_6b⟩, ⟨beginningSize_6a, beginningSize_6b⟩, ⟨comesFrom_6a, comesFrom_6b⟩, ⟨comesSize_6a, comesSize_6b⟩, ⟨cost_6a, cost_6b⟩, ⟨firstDay_6a, firstDay_6b⟩, ⟨lastDay_6a, lastDay_6b⟩, ⟨number_6a, number_6b⟩, x_6_0, x_6_1, x_6_2, x_6_3, x_6_4, x_6_5⟩ := jo9
    refine jz_aast hx hb hK 5 7 c_f_5 co_6 rfl rfl hS (jv_A hI g_rules_a0 (show (25 : Nat) ≠ 0 by decide)) (by omega) (by decide) dX0_append_28 (fun H locs c9 oq hS => ?_)
    have k9 := q25_up (z := (Int.toNat size_a0)) k_f_5 g_r1
    have hI := jv_set hI c9 oq (by rw [g_rules_a0]; exact jq_e25 k9)
    have hF := fk_put hF g_rules_a0 (by simp [Lp, Lc]) oq
    have co_a0 := co_a0.kept (oq _ (kn_ne g_a0 g_rules_a0 (show (0 : Nat) ≠ 211 by decide)))
    have co_6 := co_6.kept (oq _ (kn_ne g_r1 g_rules_a0 (show (7 : Nat) ≠ 211 by decide)))
    clear oq c9 k9
    refine lv_aload_n hx hb dX0_append_29 rfl (lv_at hl 0 rfl) ?_
    refine lv_dup hx hb dX0_append_30 rfl ?_
    refine iz_get (D := (dC, dI)) (ci := 0) (v := .int (kz size_a0)) (C := RX0) (T := TX0) (N := 3) hx hb hts hinX0 hown hK co_a0 rfl 2 (by decide) hL23 (fun _ h9 => h9) rfl dX0_append_31 ?_
    refine lv_iconst (v := kz 1) hx hb dX0_append_34 rfl ?_
    refine iz_iadd hx hb dX0_append_35 ?_
    refine iz_put (D := (dC, dI)) (ci := 0) (v := .int (kz (size_a0 + 1))) (ty := .int) (C := RX0) (T := TX0) (N := 3) hx hb hts hinX0 tyX0 tyX0_ok nmX0 hown hK co_a0 hS (jv_A hI g_a0 (show (30 : Nat) ≠ 0 by decide)) rfl 2 (by decide) hL23 (fun _ h9 => h9) rfl (by decide +kernel) rfl rfl (Nat.le_of_ble_eq_true rfl) dX0_append_36 (fun H locs c9 oq hS => ?_)
    have hI := jv_set hI c9 oq (by rw [g_a0]; exact jv_c0 ⟨forms_a0, rules_a0, (size_a0 + 1), rfl, g_forms_a0, g_rules_a0, ⟨by omega, by omega⟩, by omega⟩)
    have hF := fk_put hF g_a0 (by simp [Lp, Lc]) oq
    have co_6 := co_6.kept (oq _ (kn_ne g_r1 g_a0 (show (7 : Nat) ≠ 0 by decide)))
    have co_a0 := c9
    clear oq c9
    exact W.vret hx hb hr (fun t9 ht hW => ⟨⟨X, rfl, hT, jK_warm hW ⟨hK, hN⟩, by rw [ht]; exact ⟨hI, fk_dn hT hF⟩⟩, hS.F ht⟩) hS.2.2 dX0_append_39
set_option maxHeartbeats 4000000 in
set_option maxRecDepth 100000 in
/-- X0_append -/
theorem c_appendN (l : Launch) (dC : Nat → ClassId) (dI : Nat → Nat → Nat) (ca : Nat → ClassId) (A : Nat → Prop) (X : jG) (hU : jU X) (Hp : Heap) (a0 : Nat) (f1 : Nat) (id : Nat) (forms_a0 : Nat) (rules_a0 : Nat) (size_a0 : Int) (g_a0 : X.1 a0 = (0, 30, id, 0, 0)) (g_f1 : X.1 f1 = (2, 30, 0, 0, 0)) (g_forms_a0 : X.1 forms_a0 = (210, 24, 40, 2, (id : Int))) (g_rules_a0 : X.1 rules_a0 = (211, 25, 40, 7, (id : Int))) (size_a0i : 0 ≤ size_a0 ∧ size_a0 ≤ 40) (x_a0_0 : size_a0 ≤ (X.2.1 forms_a0 : Int)) : Met l yX0_append wsX0_append ({ frames := 0, cells := 0, slots := 0, locals := 0 }) (va_Pc [.ref a0, .ref f1, .null] (fun U => U.heap = Hp ∧ jK (dC, dI) ca U ∧ jv (dC, dI) ca A X U.heap ∧ va_at (dC, dI) vwCl (a0, .inr (0, [.ref forms_a0, .ref rules_a0, .int (kz size_a0)])) U.heap)) (va_Qv (fun (u : jG) => jup X u) (fun u U => jK (dC, dI) ca U ∧ jv (dC, dI) ca A u U.heap ∧ kfk X (Lc id) Hp U.heap) A) 0 0 A := by
  refine Met.ofW (cc := cX0_append) (maxL := 3) (ret := none) (by decide) rfl ?_
  intro p e s m args below meth c s₁ B hml hv
  obtain ⟨rfl, hHp, ⟨hK, hN⟩, hI, co_a0⟩ := hv
  have hx := B.exec
  have hb := B.bytes
  have hr := B.returns
  have hts := atoms_spec (ws := wsX0_append) B.pre
  have hown : s.vm.findClass RX0 = some m.cls := findClass_of_methodNamed B.named
  have hL23 := hts (.fieldLink RX0 23 "JoinBench$Chain" "size" "I") (by decide +kernel)
  have hL11 := hts (.fieldLink RX0 11 "JoinBench$Chain" "forms" "[LJoinBench$Form;") (by decide +kernel)
  have hL19 := hts (.fieldLink RX0 19 "JoinBench$Chain" "rules" "[LJoinBench$Rule;") (by decide +kernel)
  have hinX0 : ∀ w ∈ u_ws RX0 TX0 3, w ∈ wsX0_append := by decide +kernel
  obtain ⟨H, hH⟩ : ∃ H : Heap, H = s.heap := ⟨_, rfl⟩
  have hS : va_S A s.heap H [] := by rw [hH]; exact va_S.rf
  have hF : kfk X (Lc id) Hp H := by rw [hH, hHp]; exact fk_rf _ _ _
  have hT := jup_rf X
  rw [← hH] at hI co_a0 ⊢
  clear hH
  have hl := lv_entry ([.ref a0, .ref f1, .null]) (n := 3) (Nat.le_of_ble_eq_true rfl)
  rw [lg_entry_eq]
  generalize (lg_sl ([.ref a0, .ref f1, .null]) ++ List.replicate (3 - (lg_sl ([.ref a0, .ref f1, .null])).length) Slot.unset).toArray = ls at hl ⊢
  have hl : lv_has ls 3 [(0, .ref a0), (1, .ref f1), (2, .null)] := hl
  refine lv_aload_n hx hb dX0_append_0 rfl (lv_at hl 0 rfl) ?_
  refine iz_get (D := (dC, dI)) (ci := 0) (v := .int (kz size_a0)) (C := RX0) (T := TX0) (N := 3) hx hb hts hinX0 hown hK co_a0 rfl 2 (by decide) hL23 (fun _ h9 => h9) rfl dX0_append_1 ?_
  refine lv_bipush (v := kz 40) hx hb dX0_append_4 (by decide) ?_
  refine iz_ge (tgt := 39) hx hb dX0_append_6 (by decide) (by unfold rg2; omega) (fun br_1 => ?_) (fun br_1 => ?_)
  · exact W.vret hx hb hr (fun t9 ht hW => ⟨⟨X, rfl, hT, jK_warm hW ⟨hK, hN⟩, by rw [ht]; exact ⟨hI, fk_dn hT hF⟩⟩, hS.F ht⟩) hS.2.2 dX0_append_39
  · refine lv_aload_n hx hb dX0_append_9 rfl (lv_at hl 0 rfl) ?_
    refine iz_get (D := (dC, dI)) (ci := 0) (v := .ref forms_a0) (C := RX0) (T := TX0) (N := 3) hx hb hts hinX0 hown hK co_a0 rfl 0 (by decide) hL11 (fun _ h9 => h9) rfl dX0_append_10 ?_
    refine lv_aload_n hx hb dX0_append_13 rfl (lv_at hl 0 rfl) ?_
    refine iz_get (D := (dC, dI)) (ci := 0) (v := .int (kz size_a0)) (C := RX0) (T := TX0) (N := 3) hx hb hts hinX0 hown hK co_a0 rfl 2 (by decide) hL23 (fun _ h9 => h9) rfl dX0_append_14 ?_
    refine lv_aload_n hx hb dX0_append_17 rfl (lv_at hl 1 rfl) ?_
    obtain ⟨f_2, c_f_2, k_f_2⟩ := jv_q24 hI g_forms_a0
    obtain ⟨fs9, co_3, jo9⟩ := jv_o2 hI g_f1
    obtain ⟨ln_3, letters_3, kind_3, stem_3, kept_3, cost_3, number_3, ends_3, begins_3, rfl, g_letters_3, ⟨kind_3a, kind_3b⟩, ⟨stem_3a, stem_3b⟩, ⟨kept_3a, kept_3b⟩, ⟨cost_3a, cost_3b⟩, ⟨number_3a, number_3b⟩, ⟨ends_3a, ends_3b⟩, ⟨begins_3a, begins_3b⟩, x_3_0, x_3_1, x_3_2, x_3_3⟩ := jo9
    refine jz_aast hx hb hK 4 2 c_f_2 co_3 rfl rfl hS (jv_A hI g_forms_a0 (show (24 : Nat) ≠ 0 by decide)) (by omega) (by decide) dX0_append_18 (fun H locs c9 oq hS => ?_)
    have k9 := q24_up (z := (Int.toNat size_a0)) k_f_2 g_f1
    have hI := jv_set hI c9 oq (by rw [g_forms_a0]; exact jq_e24 k9)
    have hF := fk_put hF g_forms_a0 (by simp [Lp, Lc]) oq
    have co_a0 := co_a0.kept (oq _ (kn_ne g_a0 g_forms_a0 (show (0 : Nat) ≠ 210 by decide)))
    have co_3 := co_3.kept (oq _ (kn_ne g_f1 g_forms_a0 (show (2 : Nat) ≠ 210 by decide)))
    obtain ⟨X, hup9, hI, hc_4⟩ := jv_up ((Int.toNat size_a0) + 1) hI g_forms_a0 c9 k9 (up_some (fun j hj => (k_f_2 j (by omega)).2 (by omega)))
    have hF := fk_up hup9 hF
    have g_a0 := up_t hup9 g_a0
    have g_f1 := up_t hup9 g_f1
    have g_forms_a0 := up_t hup9 g_forms_a0
    have g_rules_a0 := up_t hup9 g_rules_a0
    have x_a0_0 : size_a0 ≤ (X.2.1 forms_a0 : Int) := by have h9 := (hup9.2.2 forms_a0).1; omega
    have hU := up_U hup9 hU
    have hT := jup_tr hT hup9
    clear oq c9 k9 hup9
    refine lv_aload_n hx hb dX0_append_19 rfl (lv_at hl 0 rfl) ?_
    refine iz_get (D := (dC, dI)) (ci := 0) (v := .ref rules_a0) (C := RX0) (T := TX0) (N := 3) hx hb hts hinX0 hown hK co_a0 rfl 1 (by decide) hL19 (fun _ h9 => h9) rfl dX0_append_20 ?_
    refine lv_aload_n hx hb dX0_append_23 rfl (lv_at hl 0 rfl) ?_
    refine iz_get (D := (dC, dI)) (ci := 0) (v := .int (kz size_a0)) (C := RX0) (T := TX0) (N := 3) hx hb hts hinX0 hown hK co_a0 rfl 2 (by decide) hL23 (fun _ h9 => h9) rfl dX0_append_24 ?_
    refine lv_aload_nN hx hb dX0_append_27 rfl (lv_at hl 2 rfl) ?_
    obtain ⟨f_5, c_f_5, k_f_5⟩ := jv_q25 hI g_rules_a0
    refine jz_aastN hx hb hK 5 c_f_5 rfl hS (jv_A hI g_rules_a0 (show (25 : Nat) ≠ 0 by decide)) (by omega) (by decide) dX0_append_28 (fun H locs c9 oq hS => ?_)
    have k9 := q25_upN (z := (Int.toNat size_a0)) k_f_5
    have hI := jv_set hI c9 oq (by rw [g_rules_a0]; exact jq_e25 k9)
    have hF := fk_put hF g_rules_a0 (by simp [Lp, Lc]) oq
    have co_a0 := co_a0.kept (oq _ (kn_ne g_a0 g_rules_a0 (show (0 : Nat) ≠ 211 by decide)))
    clear oq c9 k9
    refine lv_aload_n hx hb dX0_append_29 rfl (lv_at hl 0 rfl) ?_
    refine lv_dup hx hb dX0_append_30 rfl ?_
    refine iz_get (D := (dC, dI)) (ci := 0) (v := .int (kz size_a0)) (C := RX0) (T := TX0) (N := 3) hx hb hts hinX0 hown hK co_a0 rfl 2 (by decide) hL23 (fun _ h9 => h9) rfl dX0_append_31 ?_
    refine lv_iconst (v := kz 1) hx hb dX0_append_34 rfl ?_
    refine iz_iadd hx hb dX0_append_35 ?_
    refine iz_put (D := (dC, dI)) (ci := 0) (v := .int (kz (size_a0 + 1))) (ty := .int) (C := RX0) (T := TX0) (N := 3) hx hb hts hinX0 tyX0 tyX0_ok nmX0 hown hK co_a0 hS (jv_A hI g_a0 (show (30 : Nat) ≠ 0 by decide)) rfl 2 (by decide) hL23 (fun _ h9 => h9) rfl (by decide +kernel) rfl rfl (Nat.le_of_ble_eq_true rfl) dX0_append_36 (fun H locs c9 oq hS => ?_)
    have hI := jv_set hI c9 oq (by rw [g_a0]; exact jv_c0 ⟨forms_a0, rules_a0, (size_a0 + 1), rfl, g_forms_a0, g_rules_a0, ⟨by omega, by omega⟩, by omega⟩)
    have hF := fk_put hF g_a0 (by simp [Lp, Lc]) oq
    have co_a0 := c9
    clear oq c9
    exact W.vret hx hb hr (fun t9 ht hW => ⟨⟨X, rfl, hT, jK_warm hW ⟨hK, hN⟩, by rw [ht]; exact ⟨hI, fk_dn hT hF⟩⟩, hS.F ht⟩) hS.2.2 dX0_append_39
set_option maxHeartbeats 4000000 in
set_option maxRecDepth 100000 in
/-- X0_copyFrom -/
theorem c_copyFrom (l : Launch) (dC : Nat → ClassId) (dI : Nat → Nat → Nat) (ca : Nat → ClassId) (A : Nat → Prop) (X : jG) (hU : jU X) (Hp : Heap) (a0 : Nat) (ot : Nat) (id : Nat) (id2 : Nat) (forms_a0 : Nat) (rules_a0 : Nat) (size_a0 : Int) (forms_ot : Nat) (rules_ot : Nat) (size_ot : Int) (g_a0 : X.1 a0 = (0, 30, id, 0, 0)) (g_ot : X.1 ot = (0, 30, id2, 0, 0)) (g_forms_a0 : X.1 forms_a0 = (210, 24, 40, 2, (id : Int))) (g_rules_a0 : X.1 rules_a0 = (211, 25, 40, 7, (id : Int))) (size_a0i : 0 ≤ size_a0 ∧ size_a0 ≤ 40) (x_a0_0 : size_a0 ≤ (X.2.1 forms_a0 : Int)) (g_forms_ot : X.1 forms_ot = (210, 24, 40, 2, (id2 : Int))) (g_rules_ot : X.1 rules_ot = (211, 25, 40, 7, (id2 : Int))) (size_oti : 0 ≤ size_ot ∧ size_ot ≤ 40) (x_ot_0 : size_ot ≤ (X.2.1 forms_ot : Int)) (hid : id ≠ id2) : Met l yX0_copyFrom wsX0_copyFrom ({ frames := 0, cells := 0, slots := 0, locals := 0 }) (va_Pc [.ref a0, .ref ot] (fun U => U.heap = Hp ∧ jK (dC, dI) ca U ∧ jv (dC, dI) ca A X U.heap ∧ va_at (dC, dI) vwCl (a0, .inr (0, [.ref forms_a0, .ref rules_a0, .int (kz size_a0)])) U.heap ∧ va_at (dC, dI) vwCl (ot, .inr (0, [.ref forms_ot, .ref rules_ot, .int (kz size_ot)])) U.heap)) (va_Qv (fun (u : jG) => jup X u) (fun u U => jK (dC, dI) ca U ∧ jv (dC, dI) ca A u U.heap ∧ kfk X (Lc id) Hp U.heap) A) 0 0 A := by
  refine Met.ofW (cc := cX0_copyFrom) (maxL := 3) (ret := none) (by decide) rfl ?_
  intro p e s m args below meth c s₁ B hml hv
  obtain ⟨rfl, hHp, ⟨hK, hN⟩, hI, co_a0, co_ot⟩ := hv
  have hx := B.exec
  have hb := B.bytes
  have hr := B.returns
  have hts := atoms_spec (ws := wsX0_copyFrom) B.pre
  have hown : s.vm.findClass RX0 = some m.cls := findClass_of_methodNamed B.named
  have hL23 := hts (.fieldLink RX0 23 "JoinBench$Chain" "size" "I") (by decide +kernel)
  have hL11 := hts (.fieldLink RX0 11 "JoinBench$Chain" "forms" "[LJoinBench$Form;") (by decide +kernel)
  have hL19 := hts (.fieldLink RX0 19 "JoinBench$Chain" "rules" "[LJoinBench$Rule;") (by decide +kernel)
  have hinX0 : ∀ w ∈ u_ws RX0 TX0 3, w ∈ wsX0_copyFrom := by decide +kernel
  obtain ⟨H, hH⟩ : ∃ H : Heap, H = s.heap := ⟨_, rfl⟩
  have hS : va_S A s.heap H [] := by rw [hH]; exact va_S.rf
  have hF : kfk X (Lc id) Hp H := by rw [hH, hHp]; exact fk_rf _ _ _
  have hT := jup_rf X
  rw [← hH] at hI co_a0 co_ot ⊢
  clear hH
  have hl := lv_entry ([.ref a0, .ref ot]) (n := 3) (Nat.le_of_ble_eq_true rfl)
  rw [lg_entry_eq]
  generalize (lg_sl ([.ref a0, .ref ot]) ++ List.replicate (3 - (lg_sl ([.ref a0, .ref ot])).length) Slot.unset).toArray = ls at hl ⊢
  have hl : lv_has ls 3 [(0, .ref a0), (1, .ref ot)] := hl
  refine lv_iconst (v := kz 0) hx hb dX0_copyFrom_0 rfl ?_
  refine lv_istore_n (lv' := [(2, .int (kz 0)), (0, .ref a0), (1, .ref ot)]) hx hb dX0_copyFrom_1 rfl hl (by decide) rfl (fun ls hl => ?_)
  refine iz_loopA1 (α := jG) (P := fun N9 X9 k H locs ls => (0 ≤ k) ∧ (k ≤ 40) ∧ (k ≤ (X9.2.1 forms_a0 : Int)) ∧ 40 - k ≤ (N9 : Int) ∧ lv_has ls 3 [(2, .int (kz k)), (0, .ref a0), (1, .ref ot)] ∧ jup X X9 ∧ jv (dC, dI) ca A X9 H ∧ va_S A s.heap H locs ∧ kfk X9 (Lc id) Hp H ∧ va_at (dC, dI) vwCl (a0, .inr (0, [.ref forms_a0, .ref rules_a0, .int (kz size_a0)])) H ∧ va_at (dC, dI) vwCl (ot, .inr (0, [.ref forms_ot, .ref rules_ot, .int (kz size_ot)])) H) 100000 X (x0 := 0) ?_ ⟨by omega, by omega, by omega, by omega, lv_sub hl [0, 1, 2] rfl, jup_rf _, hI, hS, hF, co_a0, co_ot⟩
  intro n_2 X k H locs ls ⟨n_2f0, n_2f1, n_2f2, n_2f3, hl, hT_1, hI, hS, hF, co_a0, co_ot⟩ ihn_2
  have g_a0 := up_t hT_1 g_a0
  have g_ot := up_t hT_1 g_ot
  have g_forms_a0 := up_t hT_1 g_forms_a0
  have g_rules_a0 := up_t hT_1 g_rules_a0
  have g_forms_ot := up_t hT_1 g_forms_ot
  have g_rules_ot := up_t hT_1 g_rules_ot
  have x_a0_0 : size_a0 ≤ (X.2.1 forms_a0 : Int) := by have h9 := (hT_1.2.2 forms_a0).1; omega
  have x_ot_0 : size_ot ≤ (X.2.1 forms_ot : Int) := by have h9 := (hT_1.2.2 forms_ot).1; omega
  have hU := up_U hT_1 hU
  have hT := jup_tr hT hT_1
  refine lv_iload_n hx hb dX0_copyFrom_2 rfl (lv_at hl 0 rfl) ?_
  refine lv_aload_n hx hb dX0_copyFrom_3 rfl (lv_at hl 2 rfl) ?_
  refine iz_get (D := (dC, dI)) (ci := 0) (v := .int (kz size_ot)) (C := RX0) (T := TX0) (N := 3) hx hb hts hinX0 hown hK co_ot rfl 2 (by decide) hL23 (fun _ h9 => h9) rfl dX0_copyFrom_4 ?_
  refine iz_ge (tgt := 40) hx hb dX0_copyFrom_7 (by decide) (by unfold rg2; omega) (fun br_3 => ?_) (fun br_3 => ?_)
  · refine lv_aload_n hx hb dX0_copyFrom_40 rfl (lv_at hl 1 rfl) ?_
    refine lv_aload_n hx hb dX0_copyFrom_41 rfl (lv_at hl 2 rfl) ?_
    refine iz_get (D := (dC, dI)) (ci := 0) (v := .int (kz size_ot)) (C := RX0) (T := TX0) (N := 3) hx hb hts hinX0 hown hK co_ot rfl 2 (by decide) hL23 (fun _ h9 => h9) rfl dX0_copyFrom_42 ?_
    refine iz_put (D := (dC, dI)) (ci := 0) (v := .int (kz size_ot)) (ty := .int) (C := RX0) (T := TX0) (N := 3) hx hb hts hinX0 tyX0 tyX0_ok nmX0 hown hK co_a0 hS (jv_A hI g_a0 (show (30 : Nat) ≠ 0 by decide)) rfl 2 (by decide) hL23 (fun _ h9 => h9) rfl (by decide +kernel) rfl rfl (Nat.le_of_ble_eq_true rfl) dX0_copyFrom_45 (fun H locs c9 oq hS => ?_)
    have hI := jv_set hI c9 oq (by rw [g_a0]; exact jv_c0 ⟨forms_a0, rules_a0, size_ot, rfl, g_forms_a0, g_rules_a0, ⟨by omega, by omega⟩, by omega⟩)
    have hF := fk_put hF g_a0 (by simp [Lp, Lc]) oq
    have co_a0 := c9
    clear oq c9
    exact W.vret hx hb hr (fun t9 ht hW => ⟨⟨X, rfl, hT, jK_warm hW ⟨hK, hN⟩, by rw [ht]; exact ⟨hI, fk_dn hT hF⟩⟩, hS.F ht⟩) hS.2.2 dX0_copyFrom_48
  · refine lv_aload_n hx hb dX0_copyFrom_10 rfl (lv_at hl 1 rfl) ?_
    refine iz_get (D := (dC, dI)) (ci := 0) (v := .ref forms_a0) (C := RX0) (T := TX0) (N := 3) hx hb hts hinX0 hown hK co_a0 rfl 0 (by decide) hL11 (fun _ h9 => h9) rfl dX0_copyFrom_11 ?_
    refine lv_iload_n hx hb dX0_copyFrom_14 rfl (lv_at hl 0 rfl) ?_
    refine lv_aload_n hx hb dX0_copyFrom_15 rfl (lv_at hl 2 rfl) ?_
    refine iz_get (D := (dC, dI)) (ci := 0) (v := .ref forms_ot) (C := RX0) (T := TX0) (N := 3) hx hb hts hinX0 hown hK co_ot rfl 0 (by decide) hL11 (fun _ h9 => h9) rfl dX0_copyFrom_16 ?_
    refine lv_iload_n hx hb dX0_copyFrom_19 rfl (lv_at hl 0 rfl) ?_
    obtain ⟨f_4, c_f_4, k_f_4⟩ := jv_q24 hI g_forms_ot
    refine jz_aald hx hb hK 4 c_f_4 rfl rfl (by omega) (by decide) dX0_copyFrom_20 ?_
    obtain ⟨b_5, eb_5⟩ : ∃ b9 : Nat, f_4 (Int.toNat k) = some b9 := Option.ne_none_iff_exists'.mp ((k_f_4 (Int.toNat k) (by omega)).2 (by omega))
    have g_b_5 := (k_f_4 (Int.toNat k) (by omega)).1 b_5 eb_5
    rw [eb_5]
    refine W.eq (g2 := F0 m 21 ls [.ref b_5, .int (kz k), .ref forms_a0]) rfl ?_
    obtain ⟨f_6, c_f_6, k_f_6⟩ := jv_q24 hI g_forms_a0
    obtain ⟨fs9, co_7, jo9⟩ := jv_o2 hI g_b_5
    obtain ⟨ln_7, letters_7, kind_7, stem_7, kept_7, cost_7, number_7, ends_7, begins_7, rfl, g_letters_7, ⟨kind_7a, kind_7b⟩, ⟨stem_7a, stem_7b⟩, ⟨kept_7a, kept_7b⟩, ⟨cost_7a, cost_7b⟩, ⟨number_7a, number_7b⟩, ⟨ends_7a, ends_7b⟩, ⟨begins_7a, begins_7b⟩, x_7_0, x_7_1, x_7_2, x_7_3⟩ := jo9
    refine jz_aast hx hb hK 4 2 c_f_6 co_7 rfl rfl hS (jv_A hI g_forms_a0 (show (24 : Nat) ≠ 0 by decide)) (by omega) (by decide) dX0_copyFrom_21 (fun H locs c9 oq hS => ?_)
    have k9 := q24_up (z := (Int.toNat k)) k_f_6 g_b_5
    have hI := jv_set hI c9 oq (by rw [g_forms_a0]; exact jq_e24 k9)
    have hF := fk_put hF g_forms_a0 (by simp [Lp, Lc]) oq
    have co_a0 := co_a0.kept (oq _ (kn_ne g_a0 g_forms_a0 (show (0 : Nat) ≠ 210 by decide)))
    have co_ot := co_ot.kept (oq _ (kn_ne g_ot g_forms_a0 (show (0 : Nat) ≠ 210 by decide)))
    have co_7 := co_7.kept (oq _ (kn_ne g_b_5 g_forms_a0 (show (2 : Nat) ≠ 210 by decide)))
    obtain ⟨X, hup9, hI, hc_8⟩ := jv_up ((Int.toNat k) + 1) hI g_forms_a0 c9 k9 (up_some (fun j hj => (k_f_6 j (by omega)).2 (by omega)))
    have hF := fk_up hup9 hF
    have g_a0 := up_t hup9 g_a0
    have g_ot := up_t hup9 g_ot
    have g_forms_a0 := up_t hup9 g_forms_a0
    have g_rules_a0 := up_t hup9 g_rules_a0
    have g_forms_ot := up_t hup9 g_forms_ot
    have g_rules_ot := up_t hup9 g_rules_ot
    have x_a0_0 : size_a0 ≤ (X.2.1 forms_a0 : Int) := by have h9 := (hup9.2.2 forms_a0).1; omega
    have x_ot_0 : size_ot ≤ (X.2.1 forms_ot : Int) := by have h9 := (hup9.2.2 forms_ot).1; omega
    have hU := up_U hup9 hU
    have hT := jup_tr hT hup9
    have hT_1 := jup_tr hT_1 hup9
    clear oq c9 k9 hup9
    refine lv_aload_n hx hb dX0_copyFrom_22 rfl (lv_at hl 1 rfl) ?_
    refine iz_get (D := (dC, dI)) (ci := 0) (v := .ref rules_a0) (C := RX0) (T := TX0) (N := 3) hx hb hts hinX0 hown hK co_a0 rfl 1 (by decide) hL19 (fun _ h9 => h9) rfl dX0_copyFrom_23 ?_
    refine lv_iload_n hx hb dX0_copyFrom_26 rfl (lv_at hl 0 rfl) ?_
    refine lv_aload_n hx hb dX0_copyFrom_27 rfl (lv_at hl 2 rfl) ?_
    refine iz_get (D := (dC, dI)) (ci := 0) (v := .ref rules_ot) (C := RX0) (T := TX0) (N := 3) hx hb hts hinX0 hown hK co_ot rfl 1 (by decide) hL19 (fun _ h9 => h9) rfl dX0_copyFrom_28 ?_
    refine lv_iload_n hx hb dX0_copyFrom_31 rfl (lv_at hl 0 rfl) ?_
    obtain ⟨f_9, c_f_9, k_f_9⟩ := jv_q25 hI g_rules_ot
    refine jz_aald hx hb hK 5 c_f_9 rfl rfl (by omega) (by decide) dX0_copyFrom_32 ?_
    rcases eb_10 : f_9 (Int.toNat k) with _ | b_10
    · refine W.eq (g2 := F0 m 33 ls [.null, .int (kz k), .ref rules_a0]) rfl ?_
      obtain ⟨f_11, c_f_11, k_f_11⟩ := jv_q25 hI g_rules_a0
      refine jz_aastN hx hb hK 5 c_f_11 rfl hS (jv_A hI g_rules_a0 (show (25 : Nat) ≠ 0 by decide)) (by omega) (by decide) dX0_copyFrom_33 (fun H locs c9 oq hS => ?_)
      have k9 := q25_upN (z := (Int.toNat k)) k_f_11
      have hI := jv_set hI c9 oq (by rw [g_rules_a0]; exact jq_e25 k9)
      have hF := fk_put hF g_rules_a0 (by simp [Lp, Lc]) oq
      have co_a0 := co_a0.kept (oq _ (kn_ne g_a0 g_rules_a0 (show (0 : Nat) ≠ 211 by decide)))
      have co_ot := co_ot.kept (oq _ (kn_ne g_ot g_rules_a0 (show (0 : Nat) ≠ 211 by decide)))
      clear oq c9 k9
      refine lv_iinc (v := kz (k + 1)) (lv' := [(2, .int (kz (k + 1))), (0, .ref a0), (1, .ref ot)]) hx hb dX0_copyFrom_34 hl (k := 0) rfl (kz_add k 1) (by decide) rfl (fun ls hl => ?_)
      refine lv_goto (tgt := 2) hx hb dX0_copyFrom_37 (by decide) ?_
      exact ihn_2 (n_2 - 1) (by omega) X (k + 1) _ _ _ ⟨by omega, by omega, by omega, by omega, lv_sub hl [0, 1, 2] rfl, hT_1, hI, hS, hF, co_a0, co_ot⟩
    · obtain ⟨i_b_10, g_b_10⟩ := k_f_9 (Int.toNat k) (by omega) b_10 eb_10
      refine W.eq (g2 := F0 m 33 ls [.ref b_10, .int (kz k), .ref rules_a0]) rfl ?_
      obtain ⟨f_12, c_f_12, k_f_12⟩ := jv_q25 hI g_rules_a0
      obtain ⟨fs9, co_13, jo9⟩ := jv_o7 hI g_b_10
      obtain ⟨ln_13, letters_13, endSize_13, beginningSize_13, comesFrom_13, comesSize_13, cost_13, firstDay_13, lastDay_13, number_13, rfl, g_letters_13, ⟨endSize_13a, endSize_13b⟩, ⟨beginningSize_13a, beginningSize_13b⟩, ⟨comesFrom_13a, comesFrom_13b⟩, ⟨comesSize_13a, comesSize_13b⟩, ⟨cost_13a, cost_13b⟩, ⟨firstDay_13a, firstDay_13b⟩, ⟨lastDay_13a, lastDay_13b⟩, ⟨number_13a, number_13b⟩, x_13_0, x_13_1, x_13_2, x_13_3, x_13_4, x_13_5⟩ := jo9
      refine jz_aast hx hb hK 5 7 c_f_12 co_13 rfl rfl hS (jv_A hI g_rules_a0 (show (25 : Nat) ≠ 0 by decide)) (by omega) (by decide) dX0_copyFrom_33 (fun H locs c9 oq hS => ?_)
      have k9 := q25_up (z := (Int.toNat k)) k_f_12 g_b_10
      have hI := jv_set hI c9 oq (by rw [g_rules_a0]; exact jq_e25 k9)
      have hF := fk_put hF g_rules_a0 (by simp [Lp, Lc]) oq
      have co_a0 := co_a0.kept (oq _ (kn_ne g_a0 g_rules_a0 (show (0 : Nat) ≠ 211 by decide)))
      have co_ot := co_ot.kept (oq _ (kn_ne g_ot g_rules_a0 (show (0 : Nat) ≠ 211 by decide)))
      have co_13 := co_13.kept (oq _ (kn_ne g_b_10 g_rules_a0 (show (7 : Nat) ≠ 211 by decide)))
      clear oq c9 k9
      refine lv_iinc (v := kz (k + 1)) (lv' := [(2, .int (kz (k + 1))), (0, .ref a0), (1, .ref ot)]) hx hb dX0_copyFrom_34 hl (k := 0) rfl (kz_add k 1) (by decide) rfl (fun ls hl => ?_)
      refine lv_goto (tgt := 2) hx hb dX0_copyFrom_37 (by decide) ?_
      exact ihn_2 (n_2 - 1) (by omega) X (k + 1) _ _ _ ⟨by omega, by omega, by omega, by omega, lv_sub hl [0, 1, 2] rfl, hT_1, hI, hS, hF, co_a0, co_ot⟩
set_option maxHeartbeats 4000000 in
set_option maxRecDepth 100000 in
/-- X11_joins -/
theorem j_joins (l : Launch) (dC : Nat → ClassId) (dI : Nat → Nat → Nat) (ca : Nat → ClassId) (A : Nat → Prop) (X : jG) (hU : jU X) (Hp : Heap) (o : Nat) (j_tape : Nat) (j_tongue : Nat) (j_row : Nat) (j_trees : Nat) (j_choices : Nat) (pv : Option Nat) (st : Int) (f : Int) (k : Int) (g_o : X.1 o = (999, 0, 0, 0, 0)) (hAo : A o) (g_j_tape : X.1 j_tape = (8, 30, 0, 0, 0)) (g_j_tongue : X.1 j_tongue = (9, 30, 0, 0, 0)) (g_j_row : X.1 j_row = (6, 30, 0, 0, 0)) (g_j_trees : X.1 j_trees = (10, 30, 0, 0, 0)) (g_j_choices : X.1 j_choices = (1, 30, 0, 0, 0)) (hpv : ∀ b : Nat, pv = some b → X.1 b = (4, 30, 0, 0, 0)) (hst : 0 ≤ st ∧ st ≤ 20) (fr : -2147483648 ≤ f ∧ f ≤ 2147483647) (kr : -2147483648 ≤ k ∧ k ≤ 2147483647) : Met l yX11_joins wsX11_joins ({ frames := 4, cells := 0, slots := 0, locals := 88 }) (va_Pc [.ref o, .int (kz f), .int (kz k)] (fun U => U.heap = Hp ∧ jK (dC, dI) ca U ∧ jv (dC, dI) ca A X U.heap ∧ va_at (dC, dI) vwCl (o, .inr (11, [.ref j_tape, .ref j_tongue, .ref j_row, .ref j_trees, .ref j_choices, va_rf pv, .int (kz st)])) U.heap)) (va_Qi (fun (r : Int32) (u : jG × Int) => prl X u.1 o [2, 201, 7, 202, 237, 238] ∧ u.2 = st) (fun (u : jG × Int) U => jK (dC, dI) ca U ∧ jv (dC, dI) ca A u.1 U.heap ∧ va_at (dC, dI) vwCl (o, .inr (11, [.ref j_tape, .ref j_tongue, .ref j_row, .ref j_trees, .ref j_choices, va_rf pv, .int (kz u.2)])) U.heap) A) 0 0 A := by
  refine Met.ofW (cc := cX11_joins) (maxL := 5) (ret := (some .int)) (by decide) rfl ?_
  intro p e s m args below meth c s₁ B hml hv
  obtain ⟨rfl, hHp, ⟨hK, hN⟩, hI, hO⟩ := hv
  have hx := B.exec
  have hb := B.bytes
  have hr := B.returns
  have hts := atoms_spec (ws := wsX11_joins) B.pre
  have hown : s.vm.findClass RX11 = some m.cls := findClass_of_methodNamed B.named
  have hL19 := hts (.fieldLink RX11 19 "JoinBench" "tongue" "LJoinBench$Tongue;") (by decide +kernel)
  have hL26 := hts (.fieldLink RX11 26 "JoinBench" "row" "LJoinBench$Row;") (by decide +kernel)
  have hL135 := hts (.fieldLink RX11 135 "JoinBench$Row" "chain" "LJoinBench$Chain;") (by decide +kernel)
  have hL139 := hts (.fieldLink RX11 139 "JoinBench$Chain" "size" "I") (by decide +kernel)
  have hinX0 : ∀ w ∈ u_ws RX0 TX0 3, w ∈ wsX11_joins := by decide +kernel
  have hinX11 : ∀ w ∈ u_ws RX11 TX11 7, w ∈ wsX11_joins := by decide +kernel
  have hinX6 : ∀ w ∈ u_ws RX6 TX6 4, w ∈ wsX11_joins := by decide +kernel
  obtain ⟨H, hH⟩ : ∃ H : Heap, H = s.heap := ⟨_, rfl⟩
  have hS : va_S A s.heap H [] := by rw [hH]; exact va_S.rf
  have hF : kfm X [] Hp H := by rw [hH, hHp]; exact fm_rf _ _ _
  have hP := prl_rf o [2, 201, 7, 202, 237, 238] hU
  rw [← hH] at hI hO ⊢
  clear hH
  have hl := lv_entry ([.ref o, .int (kz f), .int (kz k)]) (n := 5) (Nat.le_of_ble_eq_true rfl)
  rw [lg_entry_eq]
  generalize (lg_sl ([.ref o, .int (kz f), .int (kz k)]) ++ List.replicate (5 - (lg_sl ([.ref o, .int (kz f), .int (kz k)])).length) Slot.unset).toArray = ls at hl ⊢
  have hl : lv_has ls 5 [(0, .ref o), (1, .int (kz f)), (2, .int (kz k))] := hl
  refine lv_aload_n hx hb dX11_joins_0 rfl (lv_at hl 0 rfl) ?_
  refine iz_get (D := (dC, dI)) (ci := 11) (v := .ref j_tongue) (C := RX11) (T := TX11) (N := 7) hx hb hts hinX11 hown hK hO rfl 1 (by decide) hL19 (fun _ h9 => h9) rfl dX11_joins_1 ?_
  refine lv_iload_n hx hb dX11_joins_4 rfl (lv_at hl 1 rfl) ?_
  obtain ⟨fs9, co_1, jo9⟩ := jv_o9 hI g_j_tongue
  obtain ⟨forms_1, rules_1, formCount_1, ruleCount_1, forbidden_1, rfl, g_forms_1, g_rules_1, ⟨formCount_1a, formCount_1b⟩, ⟨ruleCount_1a, ruleCount_1b⟩, g_forbidden_1, x_1_0, x_1_1, x_1_2⟩ := jo9
  refine va_csq (va_Run.run (va_runV (As := [.int (kz f)]) (rest := []) ⟨hx, hb, hml, hown, hts⟩ (c_formAt l dC dI ca A X hU j_tongue f g_j_tongue (by omega)) (cwV 1 hts gX11_joins_X9_formAt rfl rfl rfl (by decide +kernel) ⟨Nat.le_of_ble_eq_true rfl, Nat.le_of_ble_eq_true rfl⟩) ⟨fun a U g mk q => by obtain ⟨q0, ⟨qK, qN⟩, qI⟩ := q; exact ⟨q0, ⟨va_K.moved (u := U) (U := U.calling g mk a) (Vm.Alike.refl U.vm) qK, jN_same (U := U.calling g mk a) rfl qN⟩, qI⟩, va_recv hK (at_P co_1) (ci := 9) (q0 := 0) rfl rfl, fun U hU hW => ⟨rfl, jK_warm hW ⟨hK, hN⟩, by rw [hU]; exact hI⟩⟩ rfl rfl hl.1 rfl (lv_room (Nat.le_of_ble_eq_true rfl)) dX11_joins_5 ⟨Nat.le_of_ble_eq_true rfl, Nat.le_of_ble_eq_true rfl⟩)) (fun r_3 hw_2 => ?_)
  rcases r_3 with _ | b_4
  · refine W.eq (g2 := F0 m 8 ls [.null]) rfl ?_
    refine lv_astore_nN (lv' := [(3, .null), (0, .ref o), (1, .int (kz f)), (2, .int (kz k))]) hx hb dX11_joins_8 rfl hl (by decide) rfl (fun ls hl => ?_)
    refine lv_aload_nN hx hb dX11_joins_9 rfl (lv_at hl 0 rfl) ?_
    refine lv_ifnullN (tgt := 28) hx hb dX11_joins_10 (by decide) ?_
    refine lv_iconst (v := kz (-1)) hx hb dX11_joins_28 rfl ?_
    exact W.iret (v := kz (-1)) hx hb hr (fun t9 ht hW => ⟨⟨kz (-1), (X, st), rfl, ⟨hP, rfl⟩, jK_warm hW ⟨hK, hN⟩, by rw [ht]; exact ⟨hI, hO⟩⟩, hS.F ht⟩) hS.2.2 dX11_joins_29
  · have g_b_4 := hw_2 b_4 rfl
    refine W.eq (g2 := F0 m 8 ls [.ref b_4]) rfl ?_
    refine lv_astore_n (lv' := [(3, .ref b_4), (0, .ref o), (1, .int (kz f)), (2, .int (kz k))]) hx hb dX11_joins_8 rfl hl (by decide) rfl (fun ls hl => ?_)
    refine lv_aload_n hx hb dX11_joins_9 rfl (lv_at hl 0 rfl) ?_
    refine lv_ifnull hx hb dX11_joins_10 ?_
    refine lv_aload_n hx hb dX11_joins_13 rfl (lv_at hl 1 rfl) ?_
    refine iz_get (D := (dC, dI)) (ci := 11) (v := .ref j_row) (C := RX11) (T := TX11) (N := 7) hx hb hts hinX11 hown hK hO rfl 2 (by decide) hL26 (fun _ h9 => h9) rfl dX11_joins_14 ?_
    obtain ⟨fs9, co_5, jo9⟩ := jv_o6 hI g_j_row
    obtain ⟨chain_5, out_5, day_5, outSize_5, rfl, g_chain_5, g_out_5, ⟨day_5a, day_5b⟩, ⟨outSize_5a, outSize_5b⟩⟩ := jo9
    refine iz_get (D := (dC, dI)) (ci := 6) (v := .ref chain_5) (C := RX6) (T := TX6) (N := 4) hx hb hts hinX6 hown hK co_5 rfl 0 (by decide) hL135 (fun _ h9 => h9) rfl dX11_joins_17 ?_
    obtain ⟨fs9, co_6, jo9⟩ := jv_o0 hI g_chain_5
    obtain ⟨forms_6, rules_6, size_6, rfl, g_forms_6, g_rules_6, ⟨size_6a, size_6b⟩, x_6_0⟩ := jo9
    refine iz_get (D := (dC, dI)) (ci := 0) (v := .int (kz size_6)) (C := RX0) (T := TX0) (N := 3) hx hb hts hinX0 hown hK co_6 rfl 2 (by decide) hL139 (fun _ h9 => h9) rfl dX11_joins_20 ?_
    refine lv_bipush (v := kz 40) hx hb dX11_joins_23 (by decide) ?_
    refine iz_lt (tgt := 30) hx hb dX11_joins_25 (by decide) (by unfold rg2; omega) (fun br_7 => ?_) (fun br_7 => ?_)
    · refine lv_aload_n hx hb dX11_joins_30 rfl (lv_at hl 1 rfl) ?_
      refine iz_get (D := (dC, dI)) (ci := 11) (v := .ref j_row) (C := RX11) (T := TX11) (N := 7) hx hb hts hinX11 hown hK hO rfl 2 (by decide) hL26 (fun _ h9 => h9) rfl dX11_joins_31 ?_
      refine iz_get (D := (dC, dI)) (ci := 6) (v := .ref chain_5) (C := RX6) (T := TX6) (N := 4) hx hb hts hinX6 hown hK co_5 rfl 0 (by decide) hL135 (fun _ h9 => h9) rfl dX11_joins_34 ?_
      refine va_csq (va_Run.run (va_runV (As := []) (rest := []) ⟨hx, hb, hml, hown, hts⟩ (c_last l dC dI ca A X hU chain_5 16 g_chain_5) (cwV 0 hts gX11_joins_X0_last rfl rfl rfl (by decide +kernel) ⟨Nat.le_of_ble_eq_true rfl, Nat.le_of_ble_eq_true rfl⟩) ⟨fun a U g mk q => by obtain ⟨q0, ⟨qK, qN⟩, qI⟩ := q; exact ⟨q0, ⟨va_K.moved (u := U) (U := U.calling g mk a) (Vm.Alike.refl U.vm) qK, jN_same (U := U.calling g mk a) rfl qN⟩, qI⟩, va_recv hK (at_P co_6) (ci := 0) (q0 := 0) rfl rfl, fun U hU hW => ⟨rfl, jK_warm hW ⟨hK, hN⟩, by rw [hU]; exact hI⟩⟩ rfl rfl hl.1 rfl (lv_room (Nat.le_of_ble_eq_true rfl)) dX11_joins_37 ⟨Nat.le_of_ble_eq_true rfl, Nat.le_of_ble_eq_true rfl⟩)) (fun r_9 hw_8 => ?_)
      rcases r_9 with _ | b_10
      · refine W.eq (g2 := F0 m 40 ls [.null]) rfl ?_
        refine lv_astoreN (lv' := [(4, .null), (3, .ref b_4), (0, .ref o), (1, .int (kz f)), (2, .int (kz k))]) hx hb dX11_joins_40 hl (by decide) rfl (fun ls hl => ?_)
        refine lv_aloadN hx hb dX11_joins_42 (lv_at hl 0 rfl) ?_
        refine lv_ifnonnullN hx hb dX11_joins_44 ?_
        refine lv_aload_n hx hb dX11_joins_47 rfl (lv_at hl 2 rfl) ?_
        refine iz_get (D := (dC, dI)) (ci := 11) (v := .ref j_row) (C := RX11) (T := TX11) (N := 7) hx hb hts hinX11 hown hK hO rfl 2 (by decide) hL26 (fun _ h9 => h9) rfl dX11_joins_48 ?_
        refine iz_get (D := (dC, dI)) (ci := 6) (v := .ref chain_5) (C := RX6) (T := TX6) (N := 4) hx hb hts hinX6 hown hK co_5 rfl 0 (by decide) hL135 (fun _ h9 => h9) rfl dX11_joins_51 ?_
        refine lv_aload_n hx hb dX11_joins_54 rfl (lv_at hl 1 rfl) ?_
        refine lv_null hx hb dX11_joins_55 ?_
        refine va_callv (va_runV (As := [.ref b_4, .null]) (rest := []) ⟨hx, hb, hml, hown, hts⟩ (c_appendN l dC dI ca A X hU H chain_5 b_4 16 forms_6 rules_6 size_6 g_chain_5 g_b_4 g_forms_6 g_rules_6 (by omega) (by omega)) (cwV 2 hts gX11_joins_X0_append rfl rfl rfl (by decide +kernel) ⟨Nat.le_of_ble_eq_true rfl, Nat.le_of_ble_eq_true rfl⟩) ⟨fun a U g mk q => by obtain ⟨q0, qH, ⟨qK, qN⟩, qI⟩ := q; exact ⟨q0, qH, ⟨va_K.moved (u := U) (U := U.calling g mk a) (Vm.Alike.refl U.vm) qK, jN_same (U := U.calling g mk a) rfl qN⟩, qI⟩, va_recv hK (at_P co_6) (ci := 0) (q0 := 0) rfl rfl, fun U hU hW => ⟨rfl, hU, jK_warm hW ⟨hK, hN⟩, by rw [hU]; exact ⟨hI, co_6⟩⟩⟩ rfl rfl hl.1 rfl (lv_room (Nat.le_of_ble_eq_true rfl)) dX11_joins_56 ⟨Nat.le_of_ble_eq_true rfl, Nat.le_of_ble_eq_true rfl⟩) hS (fun q _ h => h) (fun q h => h) (fun X t9 H locs ht hvm hw_11 hB hz1 hk1 hS => ?_)
        obtain ⟨-, hI, hf9⟩ := hB
        rw [ht] at hI hf9
        clear ht hvm hz1
        have hO := fk_at hf9 g_o (by simp [Lc]) hO
        have g_b_4 := up_t hw_11 g_b_4
        have g_o := up_t hw_11 g_o
        have g_j_tape := up_t hw_11 g_j_tape
        have g_j_tongue := up_t hw_11 g_j_tongue
        have g_j_row := up_t hw_11 g_j_row
        have g_j_trees := up_t hw_11 g_j_trees
        have g_j_choices := up_t hw_11 g_j_choices
        have g_forms_1 := up_t hw_11 g_forms_1
        have g_rules_1 := up_t hw_11 g_rules_1
        have g_forbidden_1 := up_t hw_11 g_forbidden_1
        have g_chain_5 := up_t hw_11 g_chain_5
        have g_out_5 := up_t hw_11 g_out_5
        have g_forms_6 := up_t hw_11 g_forms_6
        have g_rules_6 := up_t hw_11 g_rules_6
        have hU := up_U hw_11 hU
        have hpv := fun b q => up_t hw_11 (hpv b q)
        have hP := prl_up hP hw_11
        clear hk1 hf9
        refine lv_aload_n hx hb dX11_joins_59 rfl (lv_at hl 2 rfl) ?_
        refine iz_get (D := (dC, dI)) (ci := 11) (v := .ref j_row) (C := RX11) (T := TX11) (N := 7) hx hb hts hinX11 hown hK hO rfl 2 (by decide) hL26 (fun _ h9 => h9) rfl dX11_joins_60 ?_
        obtain ⟨fs9, co_13, jo9⟩ := jv_o6 hI g_j_row
        obtain ⟨chain_13, out_13, day_13, outSize_13, rfl, g_chain_13, g_out_13, ⟨day_13a, day_13b⟩, ⟨outSize_13a, outSize_13b⟩⟩ := jo9
        have e9 : chain_5 = chain_13 := jU_eq hU g_chain_5 g_chain_13 (show (30 : Nat) ≠ 0 by decide) (show uq 0 = true by decide)
        subst e9
        have e9 : out_5 = out_13 := jU_eq hU g_out_5 g_out_13 (show (21 : Nat) ≠ 0 by decide) (show uq 203 = true by decide)
        subst e9
        refine iz_get (D := (dC, dI)) (ci := 6) (v := .ref chain_5) (C := RX6) (T := TX6) (N := 4) hx hb hts hinX6 hown hK co_13 rfl 0 (by decide) hL135 (fun _ h9 => h9) rfl dX11_joins_63 ?_
        obtain ⟨fs9, co_14, jo9⟩ := jv_o0 hI g_chain_13
        obtain ⟨forms_14, rules_14, size_14, rfl, g_forms_14, g_rules_14, ⟨size_14a, size_14b⟩, x_14_0⟩ := jo9
        have e9 : forms_6 = forms_14 := jU_eq hU g_forms_6 g_forms_14 (show (24 : Nat) ≠ 0 by decide) (show uq 210 = true by decide)
        subst e9
        have e9 : rules_6 = rules_14 := jU_eq hU g_rules_6 g_rules_14 (show (25 : Nat) ≠ 0 by decide) (show uq 211 = true by decide)
        subst e9
        refine iz_get (D := (dC, dI)) (ci := 0) (v := .int (kz size_14)) (C := RX0) (T := TX0) (N := 3) hx hb hts hinX0 hown hK co_14 rfl 2 (by decide) hL139 (fun _ h9 => h9) rfl dX11_joins_66 ?_
        exact W.iret (v := kz size_14) hx hb hr (fun t9 ht hW => ⟨⟨kz size_14, (X, st), rfl, ⟨hP, rfl⟩, jK_warm hW ⟨hK, hN⟩, by rw [ht]; exact ⟨hI, hO⟩⟩, hS.F ht⟩) hS.2.2 dX11_joins_69
      · have g_b_10 := hw_8 b_10 rfl
        refine W.eq (g2 := F0 m 40 ls [.ref b_10]) rfl ?_
        refine lv_astore (lv' := [(4, .ref b_10), (3, .ref b_4), (0, .ref o), (1, .int (kz f)), (2, .int (kz k))]) hx hb dX11_joins_40 hl (by decide) rfl (fun ls hl => ?_)
        refine lv_aload hx hb dX11_joins_42 (lv_at hl 0 rfl) ?_
        refine lv_ifnonnull (tgt := 70) hx hb dX11_joins_44 (by decide) ?_
        refine lv_aload_n hx hb dX11_joins_70 rfl (lv_at hl 2 rfl) ?_
        refine lv_aload hx hb dX11_joins_71 (lv_at hl 0 rfl) ?_
        refine lv_aload_n hx hb dX11_joins_73 rfl (lv_at hl 1 rfl) ?_
        refine lv_iload_n hx hb dX11_joins_74 rfl (lv_at hl 4 rfl) ?_
        refine vp_callSi (va_Run.run (va_runV (As := [.ref b_10, .ref b_4, .int (kz k)]) (rest := []) ⟨hx, hb, hml, hown, hts⟩ (j_canFollow l dC dI ca A X hU o j_tape j_tongue j_row j_trees j_choices pv st b_10 b_4 k g_o hAo g_j_tape g_j_tongue g_j_row g_j_trees g_j_choices hpv (by omega) g_b_10 g_b_4 (by omega)) (cwV 3 hts gX11_joins_X11_canFollow rfl rfl rfl (by decide +kernel) ⟨Nat.le_of_ble_eq_true rfl, Nat.le_of_ble_eq_true rfl⟩) ⟨fun a U g mk q => by obtain ⟨q0, ⟨qK, qN⟩, qI⟩ := q; exact ⟨q0, ⟨va_K.moved (u := U) (U := U.calling g mk a) (Vm.Alike.refl U.vm) qK, jN_same (U := U.calling g mk a) rfl qN⟩, qI⟩, va_recv hK (at_P hO) (ci := 11) (q0 := 0) rfl rfl, fun U hU hW => ⟨rfl, jK_warm hW ⟨hK, hN⟩, by rw [hU]; exact ⟨hI, hO⟩⟩⟩ rfl rfl hl.1 rfl (lv_room (Nat.le_of_ble_eq_true rfl)) dX11_joins_75 ⟨Nat.le_of_ble_eq_true rfl, Nat.le_of_ble_eq_true rfl⟩)) (fun r_16 hw_15 => ?_)
        rcases hw_15 with rfl | rfl
        · refine iz_nez (tgt := 83) hx hb dX11_joins_78 (by decide) (by unfold rg2; omega) (fun _ => ?_) (fun q9 => absurd q9 (by decide))
          refine lv_aload_n hx hb dX11_joins_83 rfl (lv_at hl 2 rfl) ?_
          refine iz_get (D := (dC, dI)) (ci := 11) (v := .ref j_row) (C := RX11) (T := TX11) (N := 7) hx hb hts hinX11 hown hK hO rfl 2 (by decide) hL26 (fun _ h9 => h9) rfl dX11_joins_84 ?_
          refine iz_get (D := (dC, dI)) (ci := 6) (v := .ref chain_5) (C := RX6) (T := TX6) (N := 4) hx hb hts hinX6 hown hK co_5 rfl 0 (by decide) hL135 (fun _ h9 => h9) rfl dX11_joins_87 ?_
          refine lv_aload_n hx hb dX11_joins_90 rfl (lv_at hl 1 rfl) ?_
          refine lv_aload_n hx hb dX11_joins_91 rfl (lv_at hl 2 rfl) ?_
          refine iz_get (D := (dC, dI)) (ci := 11) (v := .ref j_tongue) (C := RX11) (T := TX11) (N := 7) hx hb hts hinX11 hown hK hO rfl 1 (by decide) hL19 (fun _ h9 => h9) rfl dX11_joins_92 ?_
          refine lv_iload_n hx hb dX11_joins_95 rfl (lv_at hl 4 rfl) ?_
          refine va_csq (va_Run.run (va_runV (As := [.int (kz k)]) (rest := [.ref b_4, .ref chain_5]) ⟨hx, hb, hml, hown, hts⟩ (c_ruleAt l dC dI ca A X hU j_tongue k g_j_tongue (by omega)) (cwV 1 hts gX11_joins_X9_ruleAt rfl rfl rfl (by decide +kernel) ⟨Nat.le_of_ble_eq_true rfl, Nat.le_of_ble_eq_true rfl⟩) ⟨fun a U g mk q => by obtain ⟨q0, ⟨qK, qN⟩, qI⟩ := q; exact ⟨q0, ⟨va_K.moved (u := U) (U := U.calling g mk a) (Vm.Alike.refl U.vm) qK, jN_same (U := U.calling g mk a) rfl qN⟩, qI⟩, va_recv hK (at_P co_1) (ci := 9) (q0 := 0) rfl rfl, fun U hU hW => ⟨rfl, jK_warm hW ⟨hK, hN⟩, by rw [hU]; exact hI⟩⟩ rfl rfl hl.1 rfl (lv_room (Nat.le_of_ble_eq_true rfl)) dX11_joins_96 ⟨Nat.le_of_ble_eq_true rfl, Nat.le_of_ble_eq_true rfl⟩)) (fun r_18 hw_17 => ?_)
          rcases r_18 with _ | b_19
          · refine W.eq (g2 := F0 m 99 ls [.null, .ref b_4, .ref chain_5]) rfl ?_
            refine va_callv (va_runV (As := [.ref b_4, .null]) (rest := []) ⟨hx, hb, hml, hown, hts⟩ (c_appendN l dC dI ca A X hU H chain_5 b_4 16 forms_6 rules_6 size_6 g_chain_5 g_b_4 g_forms_6 g_rules_6 (by omega) (by omega)) (cwV 2 hts gX11_joins_X0_append rfl rfl rfl (by decide +kernel) ⟨Nat.le_of_ble_eq_true rfl, Nat.le_of_ble_eq_true rfl⟩) ⟨fun a U g mk q => by obtain ⟨q0, qH, ⟨qK, qN⟩, qI⟩ := q; exact ⟨q0, qH, ⟨va_K.moved (u := U) (U := U.calling g mk a) (Vm.Alike.refl U.vm) qK, jN_same (U := U.calling g mk a) rfl qN⟩, qI⟩, va_recv hK (at_P co_6) (ci := 0) (q0 := 0) rfl rfl, fun U hU hW => ⟨rfl, hU, jK_warm hW ⟨hK, hN⟩, by rw [hU]; exact ⟨hI, co_6⟩⟩⟩ rfl rfl hl.1 rfl (lv_room (Nat.le_of_ble_eq_true rfl)) dX11_joins_99 ⟨Nat.le_of_ble_eq_true rfl, Nat.le_of_ble_eq_true rfl⟩) hS (fun q _ h => h) (fun q h => h) (fun X t9 H locs ht hvm hw_20 hB hz1 hk1 hS => ?_)
            obtain ⟨-, hI, hf9⟩ := hB
            rw [ht] at hI hf9
            clear ht hvm hz1
            have hO := fk_at hf9 g_o (by simp [Lc]) hO
            have g_b_10 := up_t hw_20 g_b_10
            have g_b_4 := up_t hw_20 g_b_4
            have g_o := up_t hw_20 g_o
            have g_j_tape := up_t hw_20 g_j_tape
            have g_j_tongue := up_t hw_20 g_j_tongue
            have g_j_row := up_t hw_20 g_j_row
            have g_j_trees := up_t hw_20 g_j_trees
            have g_j_choices := up_t hw_20 g_j_choices
            have g_forms_1 := up_t hw_20 g_forms_1
            have g_rules_1 := up_t hw_20 g_rules_1
            have g_forbidden_1 := up_t hw_20 g_forbidden_1
            have g_chain_5 := up_t hw_20 g_chain_5
            have g_out_5 := up_t hw_20 g_out_5
            have g_forms_6 := up_t hw_20 g_forms_6
            have g_rules_6 := up_t hw_20 g_rules_6
            have hU := up_U hw_20 hU
            have hpv := fun b q => up_t hw_20 (hpv b q)
            have hP := prl_up hP hw_20
            clear hk1 hf9
            refine lv_aload_n hx hb dX11_joins_102 rfl (lv_at hl 2 rfl) ?_
            refine iz_get (D := (dC, dI)) (ci := 11) (v := .ref j_row) (C := RX11) (T := TX11) (N := 7) hx hb hts hinX11 hown hK hO rfl 2 (by decide) hL26 (fun _ h9 => h9) rfl dX11_joins_103 ?_
            obtain ⟨fs9, co_22, jo9⟩ := jv_o6 hI g_j_row
            obtain ⟨chain_22, out_22, day_22, outSize_22, rfl, g_chain_22, g_out_22, ⟨day_22a, day_22b⟩, ⟨outSize_22a, outSize_22b⟩⟩ := jo9
            have e9 : chain_5 = chain_22 := jU_eq hU g_chain_5 g_chain_22 (show (30 : Nat) ≠ 0 by decide) (show uq 0 = true by decide)
            subst e9
            have e9 : out_5 = out_22 := jU_eq hU g_out_5 g_out_22 (show (21 : Nat) ≠ 0 by decide) (show uq 203 = true by decide)
            subst e9
            refine iz_get (D := (dC, dI)) (ci := 6) (v := .ref chain_5) (C := RX6) (T := TX6) (N := 4) hx hb hts hinX6 hown hK co_22 rfl 0 (by decide) hL135 (fun _ h9 => h9) rfl dX11_joins_106 ?_
            obtain ⟨fs9, co_23, jo9⟩ := jv_o0 hI g_chain_22
            obtain ⟨forms_23, rules_23, size_23, rfl, g_forms_23, g_rules_23, ⟨size_23a, size_23b⟩, x_23_0⟩ := jo9
            have e9 : forms_6 = forms_23 := jU_eq hU g_forms_6 g_forms_23 (show (24 : Nat) ≠ 0 by decide) (show uq 210 = true by decide)
            subst e9
            have e9 : rules_6 = rules_23 := jU_eq hU g_rules_6 g_rules_23 (show (25 : Nat) ≠ 0 by decide) (show uq 211 = true by decide)
            subst e9
            refine iz_get (D := (dC, dI)) (ci := 0) (v := .int (kz size_23)) (C := RX0) (T := TX0) (N := 3) hx hb hts hinX0 hown hK co_23 rfl 2 (by decide) hL139 (fun _ h9 => h9) rfl dX11_joins_109 ?_
            exact W.iret (v := kz size_23) hx hb hr (fun t9 ht hW => ⟨⟨kz size_23, (X, st), rfl, ⟨hP, rfl⟩, jK_warm hW ⟨hK, hN⟩, by rw [ht]; exact ⟨hI, hO⟩⟩, hS.F ht⟩) hS.2.2 dX11_joins_112
          · obtain ⟨i_b_19, g_b_19⟩ := hw_17 b_19 rfl
            refine W.eq (g2 := F0 m 99 ls [.ref b_19, .ref b_4, .ref chain_5]) rfl ?_
            refine va_callv (va_runV (As := [.ref b_4, .ref b_19]) (rest := []) ⟨hx, hb, hml, hown, hts⟩ (c_appendR l dC dI ca A X hU H chain_5 b_4 b_19 16 i_b_19 forms_6 rules_6 size_6 g_chain_5 g_b_4 g_b_19 g_forms_6 g_rules_6 (by omega) (by omega)) (cwV 2 hts gX11_joins_X0_append rfl rfl rfl (by decide +kernel) ⟨Nat.le_of_ble_eq_true rfl, Nat.le_of_ble_eq_true rfl⟩) ⟨fun a U g mk q => by obtain ⟨q0, qH, ⟨qK, qN⟩, qI⟩ := q; exact ⟨q0, qH, ⟨va_K.moved (u := U) (U := U.calling g mk a) (Vm.Alike.refl U.vm) qK, jN_same (U := U.calling g mk a) rfl qN⟩, qI⟩, va_recv hK (at_P co_6) (ci := 0) (q0 := 0) rfl rfl, fun U hU hW => ⟨rfl, hU, jK_warm hW ⟨hK, hN⟩, by rw [hU]; exact ⟨hI, co_6⟩⟩⟩ rfl rfl hl.1 rfl (lv_room (Nat.le_of_ble_eq_true rfl)) dX11_joins_99 ⟨Nat.le_of_ble_eq_true rfl, Nat.le_of_ble_eq_true rfl⟩) hS (fun q _ h => h) (fun q h => h) (fun X t9 H locs ht hvm hw_24 hB hz1 hk1 hS => ?_)
            obtain ⟨-, hI, hf9⟩ := hB
            rw [ht] at hI hf9
            clear ht hvm hz1
            have hO := fk_at hf9 g_o (by simp [Lc]) hO
            have g_b_10 := up_t hw_24 g_b_10
            have g_b_4 := up_t hw_24 g_b_4
            have g_o := up_t hw_24 g_o
            have g_j_tape := up_t hw_24 g_j_tape
            have g_j_tongue := up_t hw_24 g_j_tongue
            have g_j_row := up_t hw_24 g_j_row
            have g_j_trees := up_t hw_24 g_j_trees
            have g_j_choices := up_t hw_24 g_j_choices
            have g_forms_1 := up_t hw_24 g_forms_1
            have g_rules_1 := up_t hw_24 g_rules_1
            have g_forbidden_1 := up_t hw_24 g_forbidden_1
            have g_chain_5 := up_t hw_24 g_chain_5
            have g_out_5 := up_t hw_24 g_out_5
            have g_forms_6 := up_t hw_24 g_forms_6
            have g_rules_6 := up_t hw_24 g_rules_6
            have hU := up_U hw_24 hU
            have hpv := fun b q => up_t hw_24 (hpv b q)
            have hP := prl_up hP hw_24
            clear hk1 hf9
            refine lv_aload_n hx hb dX11_joins_102 rfl (lv_at hl 2 rfl) ?_
            refine iz_get (D := (dC, dI)) (ci := 11) (v := .ref j_row) (C := RX11) (T := TX11) (N := 7) hx hb hts hinX11 hown hK hO rfl 2 (by decide) hL26 (fun _ h9 => h9) rfl dX11_joins_103 ?_
            obtain ⟨fs9, co_26, jo9⟩ := jv_o6 hI g_j_row
            obtain ⟨chain_26, out_26, day_26, outSize_26, rfl, g_chain_26, g_out_26, ⟨day_26a, day_26b⟩, ⟨outSize_26a, outSize_26b⟩⟩ := jo9
            have e9 : chain_5 = chain_26 := jU_eq hU g_chain_5 g_chain_26 (show (30 : Nat) ≠ 0 by decide) (show uq 0 = true by decide)
            subst e9
            have e9 : out_5 = out_26 := jU_eq hU g_out_5 g_out_26 (show (21 : Nat) ≠ 0 by decide) (show uq 203 = true by decide)
            subst e9
            refine iz_get (D := (dC, dI)) (ci := 6) (v := .ref chain_5) (C := RX6) (T := TX6) (N := 4) hx hb hts hinX6 hown hK co_26 rfl 0 (by decide) hL135 (fun _ h9 => h9) rfl dX11_joins_106 ?_
            obtain ⟨fs9, co_27, jo9⟩ := jv_o0 hI g_chain_26
            obtain ⟨forms_27, rules_27, size_27, rfl, g_forms_27, g_rules_27, ⟨size_27a, size_27b⟩, x_27_0⟩ := jo9
            have e9 : forms_6 = forms_27 := jU_eq hU g_forms_6 g_forms_27 (show (24 : Nat) ≠ 0 by decide) (show uq 210 = true by decide)
            subst e9
            have e9 : rules_6 = rules_27 := jU_eq hU g_rules_6 g_rules_27 (show (25 : Nat) ≠ 0 by decide) (show uq 211 = true by decide)
            subst e9
            refine iz_get (D := (dC, dI)) (ci := 0) (v := .int (kz size_27)) (C := RX0) (T := TX0) (N := 3) hx hb hts hinX0 hown hK co_27 rfl 2 (by decide) hL139 (fun _ h9 => h9) rfl dX11_joins_109 ?_
            exact W.iret (v := kz size_27) hx hb hr (fun t9 ht hW => ⟨⟨kz size_27, (X, st), rfl, ⟨hP, rfl⟩, jK_warm hW ⟨hK, hN⟩, by rw [ht]; exact ⟨hI, hO⟩⟩, hS.F ht⟩) hS.2.2 dX11_joins_112
        · refine iz_nez (tgt := 83) hx hb dX11_joins_78 (by decide) (by unfold rg2; omega) (fun q9 => absurd q9 (by decide)) (fun _ => ?_)
          refine lv_iconst (v := kz (-1)) hx hb dX11_joins_81 rfl ?_
          exact W.iret (v := kz (-1)) hx hb hr (fun t9 ht hW => ⟨⟨kz (-1), (X, st), rfl, ⟨hP, rfl⟩, jK_warm hW ⟨hK, hN⟩, by rw [ht]; exact ⟨hI, hO⟩⟩, hS.F ht⟩) hS.2.2 dX11_joins_82
    · refine lv_iconst (v := kz (-1)) hx hb dX11_joins_28 rfl ?_
      exact W.iret (v := kz (-1)) hx hb hr (fun t9 ht hW => ⟨⟨kz (-1), (X, st), rfl, ⟨hP, rfl⟩, jK_warm hW ⟨hK, hN⟩, by rw [ht]; exact ⟨hI, hO⟩⟩, hS.F ht⟩) hS.2.2 dX11_joins_29
