set_option maxHeartbeats 4000000 in
set_option maxRecDepth 100000 in
/-- X7_stands -/
theorem c_stands (l : Launch) (dC : Nat → ClassId) (dI : Nat → Nat → Nat) (ca : Nat → ClassId) (A : Nat → Prop) (X : jG) (hU : jU X) (a0 : Nat) (fr : Int) (ct : Int) (tx : Nat) (ts : Int) (pl1 : Int) (id : Nat) (tc : Nat) (tn : Nat) (ln_a0 : Nat) (letters_a0 : Nat) (endSize_a0 : Int) (beginningSize_a0 : Int) (comesFrom_a0 : Int) (comesSize_a0 : Int) (cost_a0 : Int) (firstDay_a0 : Int) (lastDay_a0 : Int) (number_a0 : Int) (g_a0 : X.1 a0 = (7, 30, id, 0, 0)) (g_tx : X.1 tx = (tc, 21, tn, 0, 0)) (g_letters_a0 : X.1 letters_a0 = (202, 21, ln_a0, 0, 0)) (endSize_a0i : 0 ≤ endSize_a0 ∧ endSize_a0 ≤ 3) (beginningSize_a0i : 0 ≤ beginningSize_a0 ∧ beginningSize_a0 ≤ 3) (comesFrom_a0i : 0 ≤ comesFrom_a0 ∧ comesFrom_a0 ≤ 6) (comesSize_a0i : 0 ≤ comesSize_a0 ∧ comesSize_a0 ≤ 4) (cost_a0i : -2147483648 ≤ cost_a0 ∧ cost_a0 ≤ 2147483647) (firstDay_a0i : -2147483648 ≤ firstDay_a0 ∧ firstDay_a0 ≤ 2147483647) (lastDay_a0i : -2147483648 ≤ lastDay_a0 ∧ lastDay_a0 ≤ 2147483647) (number_a0i : 0 ≤ number_a0 ∧ number_a0 ≤ 23) (x_a0_0 : comesFrom_a0 = endSize_a0 + beginningSize_a0) (x_a0_1 : (ln_a0 : Int) = comesFrom_a0 + comesSize_a0) (x_a0_2 : id < X.2.2.2) (x_a0_3 : X.2.2.1 id = beginningSize_a0) (x_a0_4 : number_a0 = (id : Int)) (x_a0_5 : X.2.2.1 (100 + id) = comesSize_a0 - endSize_a0) (h1 : 0 ≤ fr ∧ 0 ≤ ct ∧ fr + ct ≤ (ln_a0 : Int)) (h2 : 0 ≤ pl1 ∧ pl1 ≤ 100000) (h3 : 0 ≤ ts ∧ ts ≤ (tn : Int)) (h4 : tn ≤ 480) : Met l yX7_stands wsX7_stands ({ frames := 0, cells := 0, slots := 0, locals := 0 }) (va_Pc [.ref a0, .int (kz fr), .int (kz ct), .ref tx, .int (kz ts), .int (kz pl1)] (fun U => jK (dC, dI) ca U ∧ jv (dC, dI) ca A X U.heap ∧ va_at (dC, dI) vwCl (a0, .inr (7, [.ref letters_a0, .int (kz endSize_a0), .int (kz beginningSize_a0), .int (kz comesFrom_a0), .int (kz comesSize_a0), .int (kz cost_a0), .int (kz firstDay_a0), .int (kz lastDay_a0), .int (kz number_a0)])) U.heap)) (vp_Si (fun r => (r = kz 1 ∧ ct ≤ ts - pl1) ∨ r = kz 0)) 0 0 (fun _ => False) := by
  refine Met.ofW (cc := cX7_stands) (maxL := 7) (ret := (some .boolean)) (by decide) rfl ?_
  intro p e s m args below meth c s₁ B hml hv
  obtain ⟨rfl, ⟨hK, hN⟩, hI, co_a0⟩ := hv
  have hx := B.exec
  have hb := B.bytes
  have hr := B.returns
  have hts := atoms_spec (ws := wsX7_stands) B.pre
  have hown : s.vm.findClass RX7 = some m.cls := findClass_of_methodNamed B.named
  have hL30 := hts (.fieldLink RX7 30 "JoinBench$Rule" "letters" "[B") (by decide +kernel)
  have hinX7 : ∀ w ∈ u_ws RX7 TX7 9, w ∈ wsX7_stands := by decide +kernel
  have hl := lv_entry ([.ref a0, .int (kz fr), .int (kz ct), .ref tx, .int (kz ts), .int (kz pl1)]) (n := 7) (Nat.le_of_ble_eq_true rfl)
  rw [lg_entry_eq]
  generalize (lg_sl ([.ref a0, .int (kz fr), .int (kz ct), .ref tx, .int (kz ts), .int (kz pl1)]) ++ List.replicate (7 - (lg_sl ([.ref a0, .int (kz fr), .int (kz ct), .ref tx, .int (kz ts), .int (kz pl1)])).length) Slot.unset).toArray = ls at hl ⊢
  have hl : lv_has ls 7 [(0, .ref a0), (1, .int (kz fr)), (2, .int (kz ct)), (3, .ref tx), (4, .int (kz ts)), (5, .int (kz pl1))] := hl
  refine lv_iload_n hx hb dX7_stands_0 rfl (lv_at hl 2 rfl) ?_
  refine lv_iload hx hb dX7_stands_1 (lv_at hl 4 rfl) ?_
  refine lv_iload hx hb dX7_stands_3 (lv_at hl 5 rfl) ?_
  refine iz_isub hx hb dX7_stands_5 ?_
  refine iz_le (tgt := 11) hx hb dX7_stands_6 (by decide) (by unfold rg2; omega) (fun br_1 => ?_) (fun br_1 => ?_)
  · refine lv_iconst (v := kz 0) hx hb dX7_stands_11 rfl ?_
    refine lv_istore (lv' := [(6, .int (kz 0)), (0, .ref a0), (1, .int (kz fr)), (2, .int (kz ct)), (3, .ref tx), (4, .int (kz ts)), (5, .int (kz pl1))]) hx hb dX7_stands_12 hl (by decide) rfl (fun ls hl => ?_)
    refine iz_loopS1 (P := fun N9 k ls => (0 ≤ k) ∧ (k ≤ ct) ∧ ct - k ≤ (N9 : Int) ∧ lv_has ls 7 [(6, .int (kz k)), (0, .ref a0), (1, .int (kz fr)), (2, .int (kz ct)), (3, .ref tx), (4, .int (kz ts)), (5, .int (kz pl1))]) 100000 (x0 := 0) ?_ ⟨by omega, by omega, by omega, lv_sub hl [0, 1, 2, 3, 4, 5, 6] rfl⟩
    intro n_2 k ls ⟨n_2f0, n_2f1, n_2f2, hl⟩ ihn_2
    refine lv_iload hx hb dX7_stands_14 (lv_at hl 0 rfl) ?_
    refine lv_iload_n hx hb dX7_stands_16 rfl (lv_at hl 3 rfl) ?_
    refine iz_ge (tgt := 47) hx hb dX7_stands_17 (by decide) (by unfold rg2; omega) (fun br_3 => ?_) (fun br_3 => ?_)
    · refine lv_iconst (v := kz 1) hx hb dX7_stands_47 rfl ?_
      exact W.zret (v := kz 1) hx hb hr (by decide) (fun t9 ht hW => ⟨kz 1, rfl, Or.inl ⟨rfl, by omega⟩, ht⟩) (fun q h => absurd h List.not_mem_nil) dX7_stands_48
    · refine lv_aload_n hx hb dX7_stands_20 rfl (lv_at hl 1 rfl) ?_
      refine iz_get (D := (dC, dI)) (ci := 7) (v := .ref letters_a0) (C := RX7) (T := TX7) (N := 9) hx hb hts hinX7 hown hK co_a0 rfl 0 (by decide) hL30 (fun _ h9 => h9) rfl dX7_stands_21 ?_
      refine lv_iload_n hx hb dX7_stands_24 rfl (lv_at hl 2 rfl) ?_
      refine lv_iload hx hb dX7_stands_25 (lv_at hl 0 rfl) ?_
      refine iz_iadd hx hb dX7_stands_27 ?_
      obtain ⟨f_4, c_f_4⟩ := iv_o21 (jv_iv hI) g_letters_a0
      refine iz_bald hx hb hK 1 c_f_4 rfl (by omega) (by omega) dX7_stands_28 ?_
      have v_5a := kz_lo (f_4 (Int.toNat (fr + k)))
      have v_5b := kz_hi (f_4 (Int.toNat (fr + k)))
      change _ ≤ ge1 f_4 (fr + k) at v_5a
      change ge1 f_4 (fr + k) ≤ _ at v_5b
      obtain ⟨v_5, ev_5⟩ : ∃ z9 : Int, ge1 f_4 (fr + k) = z9 := ⟨_, rfl⟩
      rw [ev_5] at v_5a v_5b ⊢
      refine lv_aload_n hx hb dX7_stands_29 rfl (lv_at hl 4 rfl) ?_
      refine lv_iload hx hb dX7_stands_30 (lv_at hl 6 rfl) ?_
      refine lv_iload hx hb dX7_stands_32 (lv_at hl 0 rfl) ?_
      refine iz_iadd hx hb dX7_stands_34 ?_
      obtain ⟨f_6, c_f_6⟩ := iv_o21 (jv_iv hI) g_tx
      refine iz_bald hx hb hK 1 c_f_6 rfl (by omega) (by omega) dX7_stands_35 ?_
      have v_7a := kz_lo (f_6 (Int.toNat (pl1 + k)))
      have v_7b := kz_hi (f_6 (Int.toNat (pl1 + k)))
      change _ ≤ ge1 f_6 (pl1 + k) at v_7a
      change ge1 f_6 (pl1 + k) ≤ _ at v_7b
      obtain ⟨v_7, ev_7⟩ : ∃ z9 : Int, ge1 f_6 (pl1 + k) = z9 := ⟨_, rfl⟩
      rw [ev_7] at v_7a v_7b ⊢
      refine iz_eq (tgt := 41) hx hb dX7_stands_36 (by decide) (by unfold rg2; omega) (fun br_8 => ?_) (fun br_8 => ?_)
      · refine lv_iinc (v := kz (k + 1)) (lv' := [(6, .int (kz (k + 1))), (0, .ref a0), (1, .int (kz fr)), (2, .int (kz ct)), (3, .ref tx), (4, .int (kz ts)), (5, .int (kz pl1))]) hx hb dX7_stands_41 hl (k := 0) rfl (kz_add k 1) (by decide) rfl (fun ls hl => ?_)
        refine lv_goto (tgt := 14) hx hb dX7_stands_44 (by decide) ?_
        exact ihn_2 (n_2 - 1) (by omega) (k + 1) _ ⟨by omega, by omega, by omega, lv_sub hl [0, 1, 2, 3, 4, 5, 6] rfl⟩
      · refine lv_iconst (v := kz 0) hx hb dX7_stands_39 rfl ?_
        exact W.zret (v := kz 0) hx hb hr (by decide) (fun t9 ht hW => ⟨kz 0, rfl, Or.inr rfl, ht⟩) (fun q h => absurd h List.not_mem_nil) dX7_stands_40
  · refine lv_iconst (v := kz 0) hx hb dX7_stands_9 rfl ?_
    exact W.zret (v := kz 0) hx hb hr (by decide) (fun t9 ht hW => ⟨kz 0, rfl, Or.inr rfl, ht⟩) (fun q h => absurd h List.not_mem_nil) dX7_stands_10
set_option maxHeartbeats 4000000 in
set_option maxRecDepth 100000 in
/-- X7_isEndOf -/
theorem c_isEndOf (l : Launch) (dC : Nat → ClassId) (dI : Nat → Nat → Nat) (ca : Nat → ClassId) (A : Nat → Prop) (X : jG) (hU : jU X) (a0 : Nat) (fm : Nat) (id : Nat) (g_a0 : X.1 a0 = (7, 30, id, 0, 0)) (g_fm : X.1 fm = (2, 30, 0, 0, 0)) : Met l yX7_isEndOf wsX7_isEndOf ({ frames := 1, cells := 0, slots := 0, locals := 26 }) (va_Pc [.ref a0, .ref fm] (fun U => jK (dC, dI) ca U ∧ jv (dC, dI) ca A X U.heap)) (vp_Si (fun r => r = kz 1 ∨ r = kz 0)) 0 0 (fun _ => False) := by
  refine Met.ofW (cc := cX7_isEndOf) (maxL := 3) (ret := (some .boolean)) (by decide) rfl ?_
  intro p e s m args below meth c s₁ B hml hv
  obtain ⟨rfl, ⟨hK, hN⟩, hI⟩ := hv
  have hx := B.exec
  have hb := B.bytes
  have hr := B.returns
  have hts := atoms_spec (ws := wsX7_isEndOf) B.pre
  have hown : s.vm.findClass RX7 = some m.cls := findClass_of_methodNamed B.named
  have hL54 := hts (.fieldLink RX7 54 "JoinBench$Form" "letters" "[B") (by decide +kernel)
  have hL33 := hts (.fieldLink RX7 33 "JoinBench$Rule" "endSize" "I") (by decide +kernel)
  have hinX2 : ∀ w ∈ u_ws RX2 TX2 8, w ∈ wsX7_isEndOf := by decide +kernel
  have hinX7 : ∀ w ∈ u_ws RX7 TX7 9, w ∈ wsX7_isEndOf := by decide +kernel
  have hl := lv_entry ([.ref a0, .ref fm]) (n := 3) (Nat.le_of_ble_eq_true rfl)
  rw [lg_entry_eq]
  generalize (lg_sl ([.ref a0, .ref fm]) ++ List.replicate (3 - (lg_sl ([.ref a0, .ref fm])).length) Slot.unset).toArray = ls at hl ⊢
  have hl : lv_has ls 3 [(0, .ref a0), (1, .ref fm)] := hl
  refine lv_aload_n hx hb dX7_isEndOf_0 rfl (lv_at hl 1 rfl) ?_
  obtain ⟨fs9, co_1, jo9⟩ := jv_o2 hI g_fm
  obtain ⟨ln_1, letters_1, kind_1, stem_1, kept_1, cost_1, number_1, ends_1, begins_1, rfl, g_letters_1, ⟨kind_1a, kind_1b⟩, ⟨stem_1a, stem_1b⟩, ⟨kept_1a, kept_1b⟩, ⟨cost_1a, cost_1b⟩, ⟨number_1a, number_1b⟩, ⟨ends_1a, ends_1b⟩, ⟨begins_1a, begins_1b⟩, x_1_0, x_1_1, x_1_2, x_1_3⟩ := jo9
  refine iz_get (D := (dC, dI)) (ci := 2) (v := .ref letters_1) (C := RX2) (T := TX2) (N := 8) hx hb hts hinX2 hown hK co_1 rfl 0 (by decide) hL54 (fun _ h9 => h9) rfl dX7_isEndOf_1 ?_
  obtain ⟨f_2, c_f_2⟩ := iv_o21 (jv_iv hI) g_letters_1
  refine va_alen hx hb hK (at_P c_f_2) 0 1 rfl rfl (v := kz (ln_1 : Int)) rfl dX7_isEndOf_4 ?_
  refine lv_aload_n hx hb dX7_isEndOf_5 rfl (lv_at hl 0 rfl) ?_
  obtain ⟨fs9, co_3, jo9⟩ := jv_o7 hI g_a0
  obtain ⟨ln_3, letters_3, endSize_3, beginningSize_3, comesFrom_3, comesSize_3, cost_3, firstDay_3, lastDay_3, number_3, rfl, g_letters_3, ⟨endSize_3a, endSize_3b⟩, ⟨beginningSize_3a, beginningSize_3b⟩, ⟨comesFrom_3a, comesFrom_3b⟩, ⟨comesSize_3a, comesSize_3b⟩, ⟨cost_3a, cost_3b⟩, ⟨firstDay_3a, firstDay_3b⟩, ⟨lastDay_3a, lastDay_3b⟩, ⟨number_3a, number_3b⟩, x_3_0, x_3_1, x_3_2, x_3_3, x_3_4, x_3_5⟩ := jo9
  refine iz_get (D := (dC, dI)) (ci := 7) (v := .int (kz endSize_3)) (C := RX7) (T := TX7) (N := 9) hx hb hts hinX7 hown hK co_3 rfl 1 (by decide) hL33 (fun _ h9 => h9) rfl dX7_isEndOf_6 ?_
  refine iz_isub hx hb dX7_isEndOf_9 ?_
  obtain ⟨z_4, ez_4⟩ : ∃ z9 : Int, z9 = ((ln_1 : Int) - endSize_3) := ⟨_, rfl⟩
  rw [← ez_4]
  refine lv_istore_n (lv' := [(2, .int (kz z_4)), (0, .ref a0), (1, .ref fm)]) hx hb dX7_isEndOf_10 rfl hl (by decide) rfl (fun ls hl => ?_)
  refine lv_iload_n hx hb dX7_isEndOf_11 rfl (lv_at hl 0 rfl) ?_
  refine iz_ltz (tgt := 41) hx hb dX7_isEndOf_12 (by decide) (by unfold rg2; omega) (fun br_5 => ?_) (fun br_5 => ?_)
  · refine lv_iconst (v := kz 0) hx hb dX7_isEndOf_41 rfl ?_
    exact W.zret (v := kz 0) hx hb hr (by decide) (fun t9 ht hW => ⟨kz 0, rfl, Or.inr rfl, ht⟩) (fun q h => absurd h List.not_mem_nil) dX7_isEndOf_42
  · refine lv_aload_n hx hb dX7_isEndOf_15 rfl (lv_at hl 1 rfl) ?_
    refine lv_iconst (v := kz 0) hx hb dX7_isEndOf_16 rfl ?_
    refine lv_aload_n hx hb dX7_isEndOf_17 rfl (lv_at hl 1 rfl) ?_
    refine iz_get (D := (dC, dI)) (ci := 7) (v := .int (kz endSize_3)) (C := RX7) (T := TX7) (N := 9) hx hb hts hinX7 hown hK co_3 rfl 1 (by decide) hL33 (fun _ h9 => h9) rfl dX7_isEndOf_18 ?_
    refine lv_aload_n hx hb dX7_isEndOf_21 rfl (lv_at hl 2 rfl) ?_
    refine iz_get (D := (dC, dI)) (ci := 2) (v := .ref letters_1) (C := RX2) (T := TX2) (N := 8) hx hb hts hinX2 hown hK co_1 rfl 0 (by decide) hL54 (fun _ h9 => h9) rfl dX7_isEndOf_22 ?_
    refine lv_aload_n hx hb dX7_isEndOf_25 rfl (lv_at hl 2 rfl) ?_
    refine iz_get (D := (dC, dI)) (ci := 2) (v := .ref letters_1) (C := RX2) (T := TX2) (N := 8) hx hb hts hinX2 hown hK co_1 rfl 0 (by decide) hL54 (fun _ h9 => h9) rfl dX7_isEndOf_26 ?_
    refine va_alen hx hb hK (at_P c_f_2) 0 1 rfl rfl (v := kz (ln_1 : Int)) rfl dX7_isEndOf_29 ?_
    refine lv_iload_n hx hb dX7_isEndOf_30 rfl (lv_at hl 0 rfl) ?_
    refine vp_callSi (va_Run.run (va_runV (As := [.int (kz 0), .int (kz endSize_3), .ref letters_1, .int (kz (ln_1 : Int)), .int (kz z_4)]) (rest := []) ⟨hx, hb, hml, hown, hts⟩ (c_stands l dC dI ca A X hU a0 0 endSize_3 letters_1 (ln_1 : Int) z_4 id 201 ln_1 ln_3 letters_3 endSize_3 beginningSize_3 comesFrom_3 comesSize_3 cost_3 firstDay_3 lastDay_3 number_3 g_a0 g_letters_1 g_letters_3 (by omega) (by omega) (by omega) (by omega) (by omega) (by omega) (by omega) (by omega) (by omega) (by omega) x_3_2 x_3_3 (by omega) x_3_5 (by omega) (by omega) (by omega) (by omega)) (cwV 5 hts gX7_isEndOf_X7_stands rfl rfl rfl (by decide +kernel) ⟨Nat.le_of_ble_eq_true rfl, Nat.le_of_ble_eq_true rfl⟩) ⟨fun a U g mk q => by obtain ⟨q0, ⟨qK, qN⟩, qI⟩ := q; exact ⟨q0, ⟨va_K.moved (u := U) (U := U.calling g mk a) (Vm.Alike.refl U.vm) qK, jN_same (U := U.calling g mk a) rfl qN⟩, qI⟩, va_recv hK (at_P co_3) (ci := 7) (q0 := 0) rfl rfl, fun U hU hW => ⟨rfl, jK_warm hW ⟨hK, hN⟩, by rw [hU]; exact ⟨hI, co_3⟩⟩⟩ rfl rfl hl.1 rfl (lv_room (Nat.le_of_ble_eq_true rfl)) dX7_isEndOf_31 ⟨Nat.le_of_ble_eq_true rfl, Nat.le_of_ble_eq_true rfl⟩)) (fun r_7 hw_6 => ?_)
    rcases hw_6 with ⟨rfl, hw_6⟩ | rfl
    · refine iz_eqz (tgt := 41) hx hb dX7_isEndOf_34 (by decide) (by unfold rg2; omega) (fun q9 => absurd q9 (by decide)) (fun _ => ?_)
      refine lv_iconst (v := kz 1) hx hb dX7_isEndOf_37 rfl ?_
      refine lv_goto (tgt := 42) hx hb dX7_isEndOf_38 (by decide) ?_
      exact W.zret (v := kz 1) hx hb hr (by decide) (fun t9 ht hW => ⟨kz 1, rfl, Or.inl rfl, ht⟩) (fun q h => absurd h List.not_mem_nil) dX7_isEndOf_42
    · refine iz_eqz (tgt := 41) hx hb dX7_isEndOf_34 (by decide) (by unfold rg2; omega) (fun _ => ?_) (fun q9 => absurd q9 (by decide))
      refine lv_iconst (v := kz 0) hx hb dX7_isEndOf_41 rfl ?_
      exact W.zret (v := kz 0) hx hb hr (by decide) (fun t9 ht hW => ⟨kz 0, rfl, Or.inr rfl, ht⟩) (fun q h => absurd h List.not_mem_nil) dX7_isEndOf_42
set_option maxHeartbeats 4000000 in
set_option maxRecDepth 100000 in
/-- X7_isBeginningOf -/
theorem c_isBeginningOf (l : Launch) (dC : Nat → ClassId) (dI : Nat → Nat → Nat) (ca : Nat → ClassId) (A : Nat → Prop) (X : jG) (hU : jU X) (a0 : Nat) (fm : Nat) (id : Nat) (ln_a0 : Nat) (letters_a0 : Nat) (endSize_a0 : Int) (beginningSize_a0 : Int) (comesFrom_a0 : Int) (comesSize_a0 : Int) (cost_a0 : Int) (firstDay_a0 : Int) (lastDay_a0 : Int) (number_a0 : Int) (ln_fm : Nat) (letters_fm : Nat) (kind_fm : Int) (stem_fm : Int) (kept_fm : Int) (cost_fm : Int) (number_fm : Int) (ends_fm : Int) (begins_fm : Int) (g_a0 : X.1 a0 = (7, 30, id, 0, 0)) (g_fm : X.1 fm = (2, 30, 0, 0, 0)) (g_letters_a0 : X.1 letters_a0 = (202, 21, ln_a0, 0, 0)) (endSize_a0i : 0 ≤ endSize_a0 ∧ endSize_a0 ≤ 3) (beginningSize_a0i : 0 ≤ beginningSize_a0 ∧ beginningSize_a0 ≤ 3) (comesFrom_a0i : 0 ≤ comesFrom_a0 ∧ comesFrom_a0 ≤ 6) (comesSize_a0i : 0 ≤ comesSize_a0 ∧ comesSize_a0 ≤ 4) (cost_a0i : -2147483648 ≤ cost_a0 ∧ cost_a0 ≤ 2147483647) (firstDay_a0i : -2147483648 ≤ firstDay_a0 ∧ firstDay_a0 ≤ 2147483647) (lastDay_a0i : -2147483648 ≤ lastDay_a0 ∧ lastDay_a0 ≤ 2147483647) (number_a0i : 0 ≤ number_a0 ∧ number_a0 ≤ 23) (x_a0_0 : comesFrom_a0 = endSize_a0 + beginningSize_a0) (x_a0_1 : (ln_a0 : Int) = comesFrom_a0 + comesSize_a0) (x_a0_2 : id < X.2.2.2) (x_a0_3 : X.2.2.1 id = beginningSize_a0) (x_a0_4 : number_a0 = (id : Int)) (x_a0_5 : X.2.2.1 (100 + id) = comesSize_a0 - endSize_a0) (g_letters_fm : X.1 letters_fm = (201, 21, ln_fm, 0, 0)) (kind_fmi : 0 ≤ kind_fm ∧ kind_fm ≤ 5) (stem_fmi : 0 ≤ stem_fm ∧ stem_fm ≤ 19) (kept_fmi : -2147483648 ≤ kept_fm ∧ kept_fm ≤ 2147483647) (cost_fmi : -2147483648 ≤ cost_fm ∧ cost_fm ≤ 2147483647) (number_fmi : 0 ≤ number_fm ∧ number_fm ≤ 39) (ends_fmi : -2147483648 ≤ ends_fm ∧ ends_fm ≤ 2147483647) (begins_fmi : -2147483648 ≤ begins_fm ∧ begins_fm ≤ 2147483647) (x_fm_0 : 1 ≤ ln_fm) (x_fm_1 : ln_fm ≤ 8) (x_fm_2 : jb X begins_fm ln_fm) (x_fm_3 : ln_fm = X.2.1 fm) : Met l yX7_isBeginningOf wsX7_isBeginningOf ({ frames := 1, cells := 0, slots := 0, locals := 26 }) (va_Pc [.ref a0, .ref fm] (fun U => jK (dC, dI) ca U ∧ jv (dC, dI) ca A X U.heap ∧ va_at (dC, dI) vwCl (a0, .inr (7, [.ref letters_a0, .int (kz endSize_a0), .int (kz beginningSize_a0), .int (kz comesFrom_a0), .int (kz comesSize_a0), .int (kz cost_a0), .int (kz firstDay_a0), .int (kz lastDay_a0), .int (kz number_a0)])) U.heap ∧ va_at (dC, dI) vwCl (fm, .inr (2, [.ref letters_fm, .int (kz kind_fm), .int (kz stem_fm), .int (kz kept_fm), .int (kz cost_fm), .int (kz number_fm), .int (kz ends_fm), .int (kz begins_fm)])) U.heap)) (vp_Si (fun r => (r = kz 1 ∧ beginningSize_a0 ≤ (ln_fm : Int)) ∨ r = kz 0)) 0 0 (fun _ => False) := by
  refine Met.ofW (cc := cX7_isBeginningOf) (maxL := 2) (ret := (some .boolean)) (by decide) rfl ?_
  intro p e s m args below meth c s₁ B hml hv
  obtain ⟨rfl, ⟨hK, hN⟩, hI, co_a0, co_fm⟩ := hv
  have hx := B.exec
  have hb := B.bytes
  have hr := B.returns
  have hts := atoms_spec (ws := wsX7_isBeginningOf) B.pre
  have hown : s.vm.findClass RX7 = some m.cls := findClass_of_methodNamed B.named
  have hL33 := hts (.fieldLink RX7 33 "JoinBench$Rule" "endSize" "I") (by decide +kernel)
  have hL36 := hts (.fieldLink RX7 36 "JoinBench$Rule" "beginningSize" "I") (by decide +kernel)
  have hL54 := hts (.fieldLink RX7 54 "JoinBench$Form" "letters" "[B") (by decide +kernel)
  have hinX2 : ∀ w ∈ u_ws RX2 TX2 8, w ∈ wsX7_isBeginningOf := by decide +kernel
  have hinX7 : ∀ w ∈ u_ws RX7 TX7 9, w ∈ wsX7_isBeginningOf := by decide +kernel
  have hl := lv_entry ([.ref a0, .ref fm]) (n := 2) (Nat.le_of_ble_eq_true rfl)
  rw [lg_entry_eq]
  generalize (lg_sl ([.ref a0, .ref fm]) ++ List.replicate (2 - (lg_sl ([.ref a0, .ref fm])).length) Slot.unset).toArray = ls at hl ⊢
  have hl : lv_has ls 2 [(0, .ref a0), (1, .ref fm)] := hl
  refine lv_aload_n hx hb dX7_isBeginningOf_0 rfl (lv_at hl 0 rfl) ?_
  refine lv_aload_n hx hb dX7_isBeginningOf_1 rfl (lv_at hl 0 rfl) ?_
  refine iz_get (D := (dC, dI)) (ci := 7) (v := .int (kz endSize_a0)) (C := RX7) (T := TX7) (N := 9) hx hb hts hinX7 hown hK co_a0 rfl 1 (by decide) hL33 (fun _ h9 => h9) rfl dX7_isBeginningOf_2 ?_
  refine lv_aload_n hx hb dX7_isBeginningOf_5 rfl (lv_at hl 0 rfl) ?_
  refine iz_get (D := (dC, dI)) (ci := 7) (v := .int (kz beginningSize_a0)) (C := RX7) (T := TX7) (N := 9) hx hb hts hinX7 hown hK co_a0 rfl 2 (by decide) hL36 (fun _ h9 => h9) rfl dX7_isBeginningOf_6 ?_
  refine lv_aload_n hx hb dX7_isBeginningOf_9 rfl (lv_at hl 1 rfl) ?_
  refine iz_get (D := (dC, dI)) (ci := 2) (v := .ref letters_fm) (C := RX2) (T := TX2) (N := 8) hx hb hts hinX2 hown hK co_fm rfl 0 (by decide) hL54 (fun _ h9 => h9) rfl dX7_isBeginningOf_10 ?_
  refine lv_aload_n hx hb dX7_isBeginningOf_13 rfl (lv_at hl 1 rfl) ?_
  refine iz_get (D := (dC, dI)) (ci := 2) (v := .ref letters_fm) (C := RX2) (T := TX2) (N := 8) hx hb hts hinX2 hown hK co_fm rfl 0 (by decide) hL54 (fun _ h9 => h9) rfl dX7_isBeginningOf_14 ?_
  obtain ⟨f_1, c_f_1⟩ := iv_o21 (jv_iv hI) g_letters_fm
  refine va_alen hx hb hK (at_P c_f_1) 0 1 rfl rfl (v := kz (ln_fm : Int)) rfl dX7_isBeginningOf_17 ?_
  refine lv_iconst (v := kz 0) hx hb dX7_isBeginningOf_18 rfl ?_
  refine vp_callSi (va_Run.run (va_runV (As := [.int (kz endSize_a0), .int (kz beginningSize_a0), .ref letters_fm, .int (kz (ln_fm : Int)), .int (kz 0)]) (rest := []) ⟨hx, hb, hml, hown, hts⟩ (c_stands l dC dI ca A X hU a0 endSize_a0 beginningSize_a0 letters_fm (ln_fm : Int) 0 id 201 ln_fm ln_a0 letters_a0 endSize_a0 beginningSize_a0 comesFrom_a0 comesSize_a0 cost_a0 firstDay_a0 lastDay_a0 number_a0 g_a0 g_letters_fm g_letters_a0 (by omega) (by omega) (by omega) (by omega) (by omega) (by omega) (by omega) (by omega) (by omega) (by omega) x_a0_2 x_a0_3 (by omega) x_a0_5 (by omega) (by omega) (by omega) (by omega)) (cwV 5 hts gX7_isBeginningOf_X7_stands rfl rfl rfl (by decide +kernel) ⟨Nat.le_of_ble_eq_true rfl, Nat.le_of_ble_eq_true rfl⟩) ⟨fun a U g mk q => by obtain ⟨q0, ⟨qK, qN⟩, qI⟩ := q; exact ⟨q0, ⟨va_K.moved (u := U) (U := U.calling g mk a) (Vm.Alike.refl U.vm) qK, jN_same (U := U.calling g mk a) rfl qN⟩, qI⟩, va_recv hK (at_P co_a0) (ci := 7) (q0 := 0) rfl rfl, fun U hU hW => ⟨rfl, jK_warm hW ⟨hK, hN⟩, by rw [hU]; exact ⟨hI, co_a0⟩⟩⟩ rfl rfl hl.1 rfl (lv_room (Nat.le_of_ble_eq_true rfl)) dX7_isBeginningOf_19 ⟨Nat.le_of_ble_eq_true rfl, Nat.le_of_ble_eq_true rfl⟩)) (fun r_3 hw_2 => ?_)
  rcases hw_2 with ⟨rfl, hw_2⟩ | rfl
  · exact W.zret (v := kz 1) hx hb hr (by decide) (fun t9 ht hW => ⟨kz 1, rfl, Or.inl ⟨rfl, by omega⟩, ht⟩) (fun q h => absurd h List.not_mem_nil) dX7_isBeginningOf_22
  · exact W.zret (v := kz 0) hx hb hr (by decide) (fun t9 ht hW => ⟨kz 0, rfl, Or.inr rfl, ht⟩) (fun q h => absurd h List.not_mem_nil) dX7_isBeginningOf_22
set_option maxHeartbeats 4000000 in
set_option maxRecDepth 100000 in
/-- X9_markFit -/
theorem c_markFit (l : Launch) (dC : Nat → ClassId) (dI : Nat → Nat → Nat) (ca : Nat → ClassId) (A : Nat → Prop) (X : jG) (hU : jU X) (Hp : Heap) (a0 : Nat) (fm : Nat) (ru : Nat) (id : Nat) (g_a0 : X.1 a0 = (9, 30, 0, 0, 0)) (g_fm : X.1 fm = (2, 30, 0, 0, 0)) (g_ru : X.1 ru = (7, 30, id, 0, 0)) : Met l yX9_markFit wsX9_markFit ({ frames := 2, cells := 0, slots := 0, locals := 48 }) (va_Pc [.ref a0, .ref fm, .ref ru] (fun U => U.heap = Hp ∧ jK (dC, dI) ca U ∧ jv (dC, dI) ca A X U.heap)) (va_Qv (fun (u : Unit) => True) (fun u U => jK (dC, dI) ca U ∧ jv (dC, dI) ca A X U.heap ∧ kfm X [2] Hp U.heap) A) 0 0 A := by
  refine Met.ofW (cc := cX9_markFit) (maxL := 3) (ret := none) (by decide) rfl ?_
  intro p e s m args below meth c s₁ B hml hv
  obtain ⟨rfl, hHp, ⟨hK, hN⟩, hI⟩ := hv
  have hx := B.exec
  have hb := B.bytes
  have hr := B.returns
  have hts := atoms_spec (ws := wsX9_markFit) B.pre
  have hown : s.vm.findClass RX9 = some m.cls := findClass_of_methodNamed B.named
  have hL42 := hts (.fieldLink RX9 42 "JoinBench$Form" "kept" "Z") (by decide +kernel)
  have hL50 := hts (.fieldLink RX9 50 "JoinBench$Form" "ends" "I") (by decide +kernel)
  have hL41 := hts (.fieldLink RX9 41 "JoinBench$Rule" "number" "I") (by decide +kernel)
  have hL56 := hts (.fieldLink RX9 56 "JoinBench$Form" "begins" "I") (by decide +kernel)
  have hinX2 : ∀ w ∈ u_ws RX2 TX2 8, w ∈ wsX9_markFit := by decide +kernel
  have hinX7 : ∀ w ∈ u_ws RX7 TX7 9, w ∈ wsX9_markFit := by decide +kernel
  obtain ⟨H, hH⟩ : ∃ H : Heap, H = s.heap := ⟨_, rfl⟩
  have hS : va_S A s.heap H [] := by rw [hH]; exact va_S.rf
  have hF : kfm X [2] Hp H := by rw [hH, hHp]; exact fm_rf _ _ _
  rw [← hH] at hI ⊢
  clear hH
  have hl := lv_entry ([.ref a0, .ref fm, .ref ru]) (n := 3) (Nat.le_of_ble_eq_true rfl)
  rw [lg_entry_eq]
  generalize (lg_sl ([.ref a0, .ref fm, .ref ru]) ++ List.replicate (3 - (lg_sl ([.ref a0, .ref fm, .ref ru])).length) Slot.unset).toArray = ls at hl ⊢
  have hl : lv_has ls 3 [(0, .ref a0), (1, .ref fm), (2, .ref ru)] := hl
  refine lv_aload_n hx hb dX9_markFit_0 rfl (lv_at hl 1 rfl) ?_
  obtain ⟨fs9, co_1, jo9⟩ := jv_o2 hI g_fm
  obtain ⟨ln_1, letters_1, kind_1, stem_1, kept_1, cost_1, number_1, ends_1, begins_1, rfl, g_letters_1, ⟨kind_1a, kind_1b⟩, ⟨stem_1a, stem_1b⟩, ⟨kept_1a, kept_1b⟩, ⟨cost_1a, cost_1b⟩, ⟨number_1a, number_1b⟩, ⟨ends_1a, ends_1b⟩, ⟨begins_1a, begins_1b⟩, x_1_0, x_1_1, x_1_2, x_1_3⟩ := jo9
  refine iz_get (D := (dC, dI)) (ci := 2) (v := .int (kz kept_1)) (C := RX2) (T := TX2) (N := 8) hx hb hts hinX2 hown hK co_1 rfl 3 (by decide) hL42 (fun _ h9 => h9) rfl dX9_markFit_1 ?_
  refine iz_eqz (tgt := 8) hx hb dX9_markFit_4 (by decide) (by unfold rg2; omega) (fun br_2 => ?_) (fun br_2 => ?_)
  · refine lv_aload_n hx hb dX9_markFit_8 rfl (lv_at hl 2 rfl) ?_
    refine lv_aload_n hx hb dX9_markFit_9 rfl (lv_at hl 1 rfl) ?_
    obtain ⟨fs9, co_3, jo9⟩ := jv_o7 hI g_ru
    obtain ⟨ln_3, letters_3, endSize_3, beginningSize_3, comesFrom_3, comesSize_3, cost_3, firstDay_3, lastDay_3, number_3, rfl, g_letters_3, ⟨endSize_3a, endSize_3b⟩, ⟨beginningSize_3a, beginningSize_3b⟩, ⟨comesFrom_3a, comesFrom_3b⟩, ⟨comesSize_3a, comesSize_3b⟩, ⟨cost_3a, cost_3b⟩, ⟨firstDay_3a, firstDay_3b⟩, ⟨lastDay_3a, lastDay_3b⟩, ⟨number_3a, number_3b⟩, x_3_0, x_3_1, x_3_2, x_3_3, x_3_4, x_3_5⟩ := jo9
    refine vp_callSi (va_Run.run (va_runV (As := [.ref fm]) (rest := []) ⟨hx, hb, hml, hown, hts⟩ (c_isEndOf l dC dI ca A X hU ru fm id g_ru g_fm) (cwV 1 hts gX9_markFit_X7_isEndOf rfl rfl rfl (by decide +kernel) ⟨Nat.le_of_ble_eq_true rfl, Nat.le_of_ble_eq_true rfl⟩) ⟨fun a U g mk q => by obtain ⟨q0, ⟨qK, qN⟩, qI⟩ := q; exact ⟨q0, ⟨va_K.moved (u := U) (U := U.calling g mk a) (Vm.Alike.refl U.vm) qK, jN_same (U := U.calling g mk a) rfl qN⟩, qI⟩, va_recv hK (at_P co_3) (ci := 7) (q0 := 0) rfl rfl, fun U hU hW => ⟨rfl, jK_warm hW ⟨hK, hN⟩, by rw [hU]; exact hI⟩⟩ rfl rfl hl.1 rfl (lv_room (Nat.le_of_ble_eq_true rfl)) dX9_markFit_10 ⟨Nat.le_of_ble_eq_true rfl, Nat.le_of_ble_eq_true rfl⟩)) (fun r_5 hw_4 => ?_)
    rcases hw_4 with rfl | rfl
    · refine iz_eqz (tgt := 31) hx hb dX9_markFit_13 (by decide) (by unfold rg2; omega) (fun q9 => absurd q9 (by decide)) (fun _ => ?_)
      refine lv_aload_n hx hb dX9_markFit_16 rfl (lv_at hl 1 rfl) ?_
      refine lv_dup hx hb dX9_markFit_17 rfl ?_
      refine iz_get (D := (dC, dI)) (ci := 2) (v := .int (kz ends_1)) (C := RX2) (T := TX2) (N := 8) hx hb hts hinX2 hown hK co_1 rfl 6 (by decide) hL50 (fun _ h9 => h9) rfl dX9_markFit_18 ?_
      refine lv_iconst (v := kz 1) hx hb dX9_markFit_21 rfl ?_
      refine lv_aload_n hx hb dX9_markFit_22 rfl (lv_at hl 2 rfl) ?_
      refine iz_get (D := (dC, dI)) (ci := 7) (v := .int (kz number_3)) (C := RX7) (T := TX7) (N := 9) hx hb hts hinX7 hown hK co_3 rfl 8 (by decide) hL41 (fun _ h9 => h9) rfl dX9_markFit_23 ?_
      refine lv_ishl hx hb dX9_markFit_26 ?_
      refine iz_any (fun z_6 z_6a z_6b z_6e => ?_)
      refine lv_ior hx hb dX9_markFit_27 ?_
      refine iz_any (fun z_7 z_7a z_7b z_7e => ?_)
      refine iz_put (D := (dC, dI)) (ci := 2) (v := .int (kz z_7)) (ty := .int) (C := RX2) (T := TX2) (N := 8) hx hb hts hinX2 tyX2 tyX2_ok nmX2 hown hK co_1 hS (jv_A hI g_fm (show (30 : Nat) ≠ 0 by decide)) rfl 6 (by decide) hL50 (fun _ h9 => h9) rfl (by decide +kernel) rfl rfl (Nat.le_of_ble_eq_true rfl) dX9_markFit_28 (fun H locs c9 oq hS => ?_)
      have hI := jv_set hI c9 oq (by rw [g_fm]; exact jv_c2 ⟨ln_1, letters_1, kind_1, stem_1, kept_1, cost_1, number_1, z_7, begins_1, rfl, g_letters_1, ⟨by omega, by omega⟩, ⟨by omega, by omega⟩, ⟨by omega, by omega⟩, ⟨by omega, by omega⟩, ⟨by omega, by omega⟩, ⟨by omega, by omega⟩, ⟨by omega, by omega⟩, by omega, by omega, x_1_2, by omega⟩)
      have hF := fm_put hF g_fm (show (2 : Nat) ∈ [2] by decide) oq
      have co_3 := co_3.kept (oq _ (kn_ne g_ru g_fm (show (7 : Nat) ≠ 2 by decide)))
      have co_1 := c9
      clear oq c9
      refine lv_aload_n hx hb dX9_markFit_31 rfl (lv_at hl 2 rfl) ?_
      refine lv_aload_n hx hb dX9_markFit_32 rfl (lv_at hl 1 rfl) ?_
      refine vp_callSi (va_Run.run (va_runV (As := [.ref fm]) (rest := []) ⟨hx, hb, hml, hown, hts⟩ (c_isBeginningOf l dC dI ca A X hU ru fm id ln_3 letters_3 endSize_3 beginningSize_3 comesFrom_3 comesSize_3 cost_3 firstDay_3 lastDay_3 number_3 ln_1 letters_1 kind_1 stem_1 kept_1 cost_1 number_1 z_7 begins_1 g_ru g_fm g_letters_3 (by omega) (by omega) (by omega) (by omega) (by omega) (by omega) (by omega) (by omega) (by omega) (by omega) x_3_2 x_3_3 (by omega) x_3_5 g_letters_1 (by omega) (by omega) (by omega) (by omega) (by omega) (by omega) (by omega) (by omega) (by omega) x_1_2 (by omega)) (cwV 1 hts gX9_markFit_X7_isBeginningOf rfl rfl rfl (by decide +kernel) ⟨Nat.le_of_ble_eq_true rfl, Nat.le_of_ble_eq_true rfl⟩) ⟨fun a U g mk q => by obtain ⟨q0, ⟨qK, qN⟩, qI⟩ := q; exact ⟨q0, ⟨va_K.moved (u := U) (U := U.calling g mk a) (Vm.Alike.refl U.vm) qK, jN_same (U := U.calling g mk a) rfl qN⟩, qI⟩, va_recv hK (at_P co_3) (ci := 7) (q0 := 0) rfl rfl, fun U hU hW => ⟨rfl, jK_warm hW ⟨hK, hN⟩, by rw [hU]; exact ⟨hI, co_3, co_1⟩⟩⟩ rfl rfl hl.1 rfl (lv_room (Nat.le_of_ble_eq_true rfl)) dX9_markFit_33 ⟨Nat.le_of_ble_eq_true rfl, Nat.le_of_ble_eq_true rfl⟩)) (fun r_9 hw_8 => ?_)
      rcases hw_8 with ⟨rfl, hw_8⟩ | rfl
      · refine iz_eqz (tgt := 54) hx hb dX9_markFit_36 (by decide) (by unfold rg2; omega) (fun q9 => absurd q9 (by decide)) (fun _ => ?_)
        refine lv_aload_n hx hb dX9_markFit_39 rfl (lv_at hl 1 rfl) ?_
        refine lv_dup hx hb dX9_markFit_40 rfl ?_
        refine iz_get (D := (dC, dI)) (ci := 2) (v := .int (kz begins_1)) (C := RX2) (T := TX2) (N := 8) hx hb hts hinX2 hown hK co_1 rfl 7 (by decide) hL56 (fun _ h9 => h9) rfl dX9_markFit_41 ?_
        refine lv_iconst (v := kz 1) hx hb dX9_markFit_44 rfl ?_
        refine lv_aload_n hx hb dX9_markFit_45 rfl (lv_at hl 2 rfl) ?_
        refine iz_get (D := (dC, dI)) (ci := 7) (v := .int (kz number_3)) (C := RX7) (T := TX7) (N := 9) hx hb hts hinX7 hown hK co_3 rfl 8 (by decide) hL41 (fun _ h9 => h9) rfl dX9_markFit_46 ?_
        refine lv_ishl hx hb dX9_markFit_49 ?_
        refine iz_any (fun z_10 z_10a z_10b z_10e => ?_)
        refine lv_ior hx hb dX9_markFit_50 ?_
        refine iz_any (fun z_11 z_11a z_11b z_11e => ?_)
        refine iz_put (D := (dC, dI)) (ci := 2) (v := .int (kz z_11)) (ty := .int) (C := RX2) (T := TX2) (N := 8) hx hb hts hinX2 tyX2 tyX2_ok nmX2 hown hK co_1 hS (jv_A hI g_fm (show (30 : Nat) ≠ 0 by decide)) rfl 7 (by decide) hL56 (fun _ h9 => h9) rfl (by decide +kernel) rfl rfl (Nat.le_of_ble_eq_true rfl) dX9_markFit_51 (fun H locs c9 oq hS => ?_)
        have hI := jv_set hI c9 oq (by rw [g_fm]; exact jv_c2 ⟨ln_1, letters_1, kind_1, stem_1, kept_1, cost_1, number_1, z_7, z_11, rfl, g_letters_1, ⟨by omega, by omega⟩, ⟨by omega, by omega⟩, ⟨by omega, by omega⟩, ⟨by omega, by omega⟩, ⟨by omega, by omega⟩, ⟨by omega, by omega⟩, ⟨by omega, by omega⟩, by omega, by omega, (jb_or (j := id) x_1_2 x_3_2 (by omega) (by rw [x_3_3]; omega) (by rw [← x_3_4]; exact z_10e) z_11e), by omega⟩)
        have hF := fm_put hF g_fm (show (2 : Nat) ∈ [2] by decide) oq
        have co_3 := co_3.kept (oq _ (kn_ne g_ru g_fm (show (7 : Nat) ≠ 2 by decide)))
        have co_1 := c9
        clear oq c9
        exact W.vret hx hb hr (fun t9 ht hW => ⟨⟨(), rfl, trivial, jK_warm hW ⟨hK, hN⟩, by rw [ht]; exact ⟨hI, hF⟩⟩, hS.F ht⟩) hS.2.2 dX9_markFit_54
      · refine iz_eqz (tgt := 54) hx hb dX9_markFit_36 (by decide) (by unfold rg2; omega) (fun _ => ?_) (fun q9 => absurd q9 (by decide))
        exact W.vret hx hb hr (fun t9 ht hW => ⟨⟨(), rfl, trivial, jK_warm hW ⟨hK, hN⟩, by rw [ht]; exact ⟨hI, hF⟩⟩, hS.F ht⟩) hS.2.2 dX9_markFit_54
    · refine iz_eqz (tgt := 31) hx hb dX9_markFit_13 (by decide) (by unfold rg2; omega) (fun _ => ?_) (fun q9 => absurd q9 (by decide))
      refine lv_aload_n hx hb dX9_markFit_31 rfl (lv_at hl 2 rfl) ?_
      refine lv_aload_n hx hb dX9_markFit_32 rfl (lv_at hl 1 rfl) ?_
      refine vp_callSi (va_Run.run (va_runV (As := [.ref fm]) (rest := []) ⟨hx, hb, hml, hown, hts⟩ (c_isBeginningOf l dC dI ca A X hU ru fm id ln_3 letters_3 endSize_3 beginningSize_3 comesFrom_3 comesSize_3 cost_3 firstDay_3 lastDay_3 number_3 ln_1 letters_1 kind_1 stem_1 kept_1 cost_1 number_1 ends_1 begins_1 g_ru g_fm g_letters_3 (by omega) (by omega) (by omega) (by omega) (by omega) (by omega) (by omega) (by omega) (by omega) (by omega) x_3_2 x_3_3 (by omega) x_3_5 g_letters_1 (by omega) (by omega) (by omega) (by omega) (by omega) (by omega) (by omega) (by omega) (by omega) x_1_2 (by omega)) (cwV 1 hts gX9_markFit_X7_isBeginningOf rfl rfl rfl (by decide +kernel) ⟨Nat.le_of_ble_eq_true rfl, Nat.le_of_ble_eq_true rfl⟩) ⟨fun a U g mk q => by obtain ⟨q0, ⟨qK, qN⟩, qI⟩ := q; exact ⟨q0, ⟨va_K.moved (u := U) (U := U.calling g mk a) (Vm.Alike.refl U.vm) qK, jN_same (U := U.calling g mk a) rfl qN⟩, qI⟩, va_recv hK (at_P co_3) (ci := 7) (q0 := 0) rfl rfl, fun U hU hW => ⟨rfl, jK_warm hW ⟨hK, hN⟩, by rw [hU]; exact ⟨hI, co_3, co_1⟩⟩⟩ rfl rfl hl.1 rfl (lv_room (Nat.le_of_ble_eq_true rfl)) dX9_markFit_33 ⟨Nat.le_of_ble_eq_true rfl, Nat.le_of_ble_eq_true rfl⟩)) (fun r_13 hw_12 => ?_)
      rcases hw_12 with ⟨rfl, hw_12⟩ | rfl
      · refine iz_eqz (tgt := 54) hx hb dX9_markFit_36 (by decide) (by unfold rg2; omega) (fun q9 => absurd q9 (by decide)) (fun _ => ?_)
        refine lv_aload_n hx hb dX9_markFit_39 rfl (lv_at hl 1 rfl) ?_
        refine lv_dup hx hb dX9_markFit_40 rfl ?_
        refine iz_get (D := (dC, dI)) (ci := 2) (v := .int (kz begins_1)) (C := RX2) (T := TX2) (N := 8) hx hb hts hinX2 hown hK co_1 rfl 7 (by decide) hL56 (fun _ h9 => h9) rfl dX9_markFit_41 ?_
        refine lv_iconst (v := kz 1) hx hb dX9_markFit_44 rfl ?_
        refine lv_aload_n hx hb dX9_markFit_45 rfl (lv_at hl 2 rfl) ?_
        refine iz_get (D := (dC, dI)) (ci := 7) (v := .int (kz number_3)) (C := RX7) (T := TX7) (N := 9) hx hb hts hinX7 hown hK co_3 rfl 8 (by decide) hL41 (fun _ h9 => h9) rfl dX9_markFit_46 ?_
        refine lv_ishl hx hb dX9_markFit_49 ?_
        refine iz_any (fun z_14 z_14a z_14b z_14e => ?_)
        refine lv_ior hx hb dX9_markFit_50 ?_
        refine iz_any (fun z_15 z_15a z_15b z_15e => ?_)
        refine iz_put (D := (dC, dI)) (ci := 2) (v := .int (kz z_15)) (ty := .int) (C := RX2) (T := TX2) (N := 8) hx hb hts hinX2 tyX2 tyX2_ok nmX2 hown hK co_1 hS (jv_A hI g_fm (show (30 : Nat) ≠ 0 by decide)) rfl 7 (by decide) hL56 (fun _ h9 => h9) rfl (by decide +kernel) rfl rfl (Nat.le_of_ble_eq_true rfl) dX9_markFit_51 (fun H locs c9 oq hS => ?_)
        have hI := jv_set hI c9 oq (by rw [g_fm]; exact jv_c2 ⟨ln_1, letters_1, kind_1, stem_1, kept_1, cost_1, number_1, ends_1, z_15, rfl, g_letters_1, ⟨by omega, by omega⟩, ⟨by omega, by omega⟩, ⟨by omega, by omega⟩, ⟨by omega, by omega⟩, ⟨by omega, by omega⟩, ⟨by omega, by omega⟩, ⟨by omega, by omega⟩, by omega, by omega, (jb_or (j := id) x_1_2 x_3_2 (by omega) (by rw [x_3_3]; omega) (by rw [← x_3_4]; exact z_14e) z_15e), by omega⟩)
        have hF := fm_put hF g_fm (show (2 : Nat) ∈ [2] by decide) oq
        have co_3 := co_3.kept (oq _ (kn_ne g_ru g_fm (show (7 : Nat) ≠ 2 by decide)))
        have co_1 := c9
        clear oq c9
        exact W.vret hx hb hr (fun t9 ht hW => ⟨⟨(), rfl, trivial, jK_warm hW ⟨hK, hN⟩, by rw [ht]; exact ⟨hI, hF⟩⟩, hS.F ht⟩) hS.2.2 dX9_markFit_54
      · refine iz_eqz (tgt := 54) hx hb dX9_markFit_36 (by decide) (by unfold rg2; omega) (fun _ => ?_) (fun q9 => absurd q9 (by decide))
        exact W.vret hx hb hr (fun t9 ht hW => ⟨⟨(), rfl, trivial, jK_warm hW ⟨hK, hN⟩, by rw [ht]; exact ⟨hI, hF⟩⟩, hS.F ht⟩) hS.2.2 dX9_markFit_54
  · exact W.vret hx hb hr (fun t9 ht hW => ⟨⟨(), rfl, trivial, jK_warm hW ⟨hK, hN⟩, by rw [ht]; exact ⟨hI, hF⟩⟩, hS.F ht⟩) hS.2.2 dX9_markFit_7
set_option maxHeartbeats 4000000 in
set_option maxRecDepth 100000 in
/-- X3_canMeetPlain -/
theorem c_canMeetPlain (l : Launch) (dC : Nat → ClassId) (dI : Nat → Nat → Nat) (ca : Nat → ClassId) (A : Nat → Prop) (X : jG) (hU : jU X) (a0 : Nat) (f1 : Nat) (f2 : Nat) (g_a0 : X.1 a0 = (3, 30, 0, 0, 0)) (g_f1 : X.1 f1 = (2, 30, 0, 0, 0)) (g_f2 : X.1 f2 = (2, 30, 0, 0, 0)) : Met l yX3_canMeetPlain wsX3_canMeetPlain ({ frames := 0, cells := 0, slots := 0, locals := 0 }) (va_Pc [.ref a0, .ref f1, .ref f2] (fun U => jK (dC, dI) ca U ∧ jv (dC, dI) ca A X U.heap)) (vp_Si (fun r => r = kz 1 ∨ r = kz 0)) 0 0 (fun _ => False) := by
  refine Met.ofW (cc := cX3_canMeetPlain) (maxL := 3) (ret := (some .boolean)) (by decide) rfl ?_
  intro p e s m args below meth c s₁ B hml hv
  obtain ⟨rfl, ⟨hK, hN⟩, hI⟩ := hv
  have hx := B.exec
  have hb := B.bytes
  have hr := B.returns
  have hts := atoms_spec (ws := wsX3_canMeetPlain) B.pre
  have hown : s.vm.findClass RX3 = some m.cls := findClass_of_methodNamed B.named
  have hL119 := hts (.fieldLink RX3 119 "JoinBench$Form" "ends" "I") (by decide +kernel)
  have hL157 := hts (.fieldLink RX3 157 "JoinBench$Form" "begins" "I") (by decide +kernel)
  have hL42 := hts (.fieldLink RX3 42 "JoinBench$Lattice" "inForce" "I") (by decide +kernel)
  have hL45 := hts (.fieldLink RX3 45 "JoinBench$Lattice" "barred" "[Z") (by decide +kernel)
  have hL137 := hts (.fieldLink RX3 137 "JoinBench$Form" "kind" "I") (by decide +kernel)
  have hinX2 : ∀ w ∈ u_ws RX2 TX2 8, w ∈ wsX3_canMeetPlain := by decide +kernel
  have hinX3 : ∀ w ∈ u_ws RX3 TX3 11, w ∈ wsX3_canMeetPlain := by decide +kernel
  have hl := lv_entry ([.ref a0, .ref f1, .ref f2]) (n := 3) (Nat.le_of_ble_eq_true rfl)
  rw [lg_entry_eq]
  generalize (lg_sl ([.ref a0, .ref f1, .ref f2]) ++ List.replicate (3 - (lg_sl ([.ref a0, .ref f1, .ref f2])).length) Slot.unset).toArray = ls at hl ⊢
  have hl : lv_has ls 3 [(0, .ref a0), (1, .ref f1), (2, .ref f2)] := hl
  refine lv_aload_n hx hb dX3_canMeetPlain_0 rfl (lv_at hl 1 rfl) ?_
  obtain ⟨fs9, co_1, jo9⟩ := jv_o2 hI g_f1
  obtain ⟨ln_1, letters_1, kind_1, stem_1, kept_1, cost_1, number_1, ends_1, begins_1, rfl, g_letters_1, ⟨kind_1a, kind_1b⟩, ⟨stem_1a, stem_1b⟩, ⟨kept_1a, kept_1b⟩, ⟨cost_1a, cost_1b⟩, ⟨number_1a, number_1b⟩, ⟨ends_1a, ends_1b⟩, ⟨begins_1a, begins_1b⟩, x_1_0, x_1_1, x_1_2, x_1_3⟩ := jo9
  refine iz_get (D := (dC, dI)) (ci := 2) (v := .int (kz ends_1)) (C := RX2) (T := TX2) (N := 8) hx hb hts hinX2 hown hK co_1 rfl 6 (by decide) hL119 (fun _ h9 => h9) rfl dX3_canMeetPlain_1 ?_
  refine lv_aload_n hx hb dX3_canMeetPlain_4 rfl (lv_at hl 2 rfl) ?_
  obtain ⟨fs9, co_2, jo9⟩ := jv_o2 hI g_f2
  obtain ⟨ln_2, letters_2, kind_2, stem_2, kept_2, cost_2, number_2, ends_2, begins_2, rfl, g_letters_2, ⟨kind_2a, kind_2b⟩, ⟨stem_2a, stem_2b⟩, ⟨kept_2a, kept_2b⟩, ⟨cost_2a, cost_2b⟩, ⟨number_2a, number_2b⟩, ⟨ends_2a, ends_2b⟩, ⟨begins_2a, begins_2b⟩, x_2_0, x_2_1, x_2_2, x_2_3⟩ := jo9
  refine iz_get (D := (dC, dI)) (ci := 2) (v := .int (kz begins_2)) (C := RX2) (T := TX2) (N := 8) hx hb hts hinX2 hown hK co_2 rfl 7 (by decide) hL157 (fun _ h9 => h9) rfl dX3_canMeetPlain_5 ?_
  refine lv_iand hx hb dX3_canMeetPlain_8 ?_
  refine iz_any (fun z_3 z_3a z_3b z_3e => ?_)
  refine lv_aload_n hx hb dX3_canMeetPlain_9 rfl (lv_at hl 0 rfl) ?_
  obtain ⟨fs9, co_4, jo9⟩ := jv_o3 hI g_a0
  obtain ⟨cheapest_4, size_4, tongue_4, line_4, ways_4, plainWays_4, plainCheapest_4, ruledWays_4, ruledCheapest_4, inForce_4, barred_4, rfl, g_cheapest_4, ⟨size_4a, size_4b⟩, g_tongue_4, g_line_4, g_ways_4, g_plainWays_4, g_plainCheapest_4, g_ruledWays_4, g_ruledCheapest_4, ⟨inForce_4a, inForce_4b⟩, g_barred_4⟩ := jo9
  refine iz_get (D := (dC, dI)) (ci := 3) (v := .int (kz inForce_4)) (C := RX3) (T := TX3) (N := 11) hx hb hts hinX3 hown hK co_4 rfl 9 (by decide) hL42 (fun _ h9 => h9) rfl dX3_canMeetPlain_10 ?_
  refine lv_iand hx hb dX3_canMeetPlain_13 ?_
  refine iz_any (fun z_5 z_5a z_5b z_5e => ?_)
  refine iz_nez (tgt := 41) hx hb dX3_canMeetPlain_14 (by decide) (by unfold rg2; omega) (fun br_6 => ?_) (fun br_6 => ?_)
  · refine lv_iconst (v := kz 0) hx hb dX3_canMeetPlain_41 rfl ?_
    exact W.zret (v := kz 0) hx hb hr (by decide) (fun t9 ht hW => ⟨kz 0, rfl, Or.inr rfl, ht⟩) (fun q h => absurd h List.not_mem_nil) dX3_canMeetPlain_42
  · refine lv_aload_n hx hb dX3_canMeetPlain_17 rfl (lv_at hl 0 rfl) ?_
    refine iz_get (D := (dC, dI)) (ci := 3) (v := .ref barred_4) (C := RX3) (T := TX3) (N := 11) hx hb hts hinX3 hown hK co_4 rfl 10 (by decide) hL45 (fun _ h9 => h9) rfl dX3_canMeetPlain_18 ?_
    refine lv_aload_n hx hb dX3_canMeetPlain_21 rfl (lv_at hl 1 rfl) ?_
    refine iz_get (D := (dC, dI)) (ci := 2) (v := .int (kz kind_1)) (C := RX2) (T := TX2) (N := 8) hx hb hts hinX2 hown hK co_1 rfl 1 (by decide) hL137 (fun _ h9 => h9) rfl dX3_canMeetPlain_22 ?_
    refine lv_bipush (v := kz 6) hx hb dX3_canMeetPlain_25 (by decide) ?_
    refine iz_imul hx hb dX3_canMeetPlain_27 ?_
    refine lv_aload_n hx hb dX3_canMeetPlain_28 rfl (lv_at hl 2 rfl) ?_
    refine iz_get (D := (dC, dI)) (ci := 2) (v := .int (kz kind_2)) (C := RX2) (T := TX2) (N := 8) hx hb hts hinX2 hown hK co_2 rfl 1 (by decide) hL137 (fun _ h9 => h9) rfl dX3_canMeetPlain_29 ?_
    refine iz_iadd hx hb dX3_canMeetPlain_32 ?_
    obtain ⟨f_7, c_f_7⟩ := iv_o22 (jv_iv hI) g_barred_4
    refine iz_zald hx hb hK 2 c_f_7 rfl (by omega) (by decide) dX3_canMeetPlain_33 ?_
    have v_8a := kz_lo (f_7 (Int.toNat ((kind_1 * 6) + kind_2)))
    have v_8b := kz_hi (f_7 (Int.toNat ((kind_1 * 6) + kind_2)))
    change _ ≤ ge1 f_7 ((kind_1 * 6) + kind_2) at v_8a
    change ge1 f_7 ((kind_1 * 6) + kind_2) ≤ _ at v_8b
    obtain ⟨v_8, ev_8⟩ : ∃ z9 : Int, ge1 f_7 ((kind_1 * 6) + kind_2) = z9 := ⟨_, rfl⟩
    rw [ev_8] at v_8a v_8b ⊢
    refine iz_nez (tgt := 41) hx hb dX3_canMeetPlain_34 (by decide) (by unfold rg2; omega) (fun br_9 => ?_) (fun br_9 => ?_)
    · refine lv_iconst (v := kz 0) hx hb dX3_canMeetPlain_41 rfl ?_
      exact W.zret (v := kz 0) hx hb hr (by decide) (fun t9 ht hW => ⟨kz 0, rfl, Or.inr rfl, ht⟩) (fun q h => absurd h List.not_mem_nil) dX3_canMeetPlain_42
    · refine lv_iconst (v := kz 1) hx hb dX3_canMeetPlain_37 rfl ?_
      refine lv_goto (tgt := 42) hx hb dX3_canMeetPlain_38 (by decide) ?_
      exact W.zret (v := kz 1) hx hb hr (by decide) (fun t9 ht hW => ⟨kz 1, rfl, Or.inl rfl, ht⟩) (fun q h => absurd h List.not_mem_nil) dX3_canMeetPlain_42
set_option maxHeartbeats 4000000 in
set_option maxRecDepth 100000 in
/-- X3_canMeetBy -/
theorem c_canMeetBy (l : Launch) (dC : Nat → ClassId) (dI : Nat → Nat → Nat) (ca : Nat → ClassId) (A : Nat → Prop) (X : jG) (hU : jU X) (a0 : Nat) (k : Int) (f1 : Nat) (f2 : Nat) (g_a0 : X.1 a0 = (3, 30, 0, 0, 0)) (g_f1 : X.1 f1 = (2, 30, 0, 0, 0)) (g_f2 : X.1 f2 = (2, 30, 0, 0, 0)) (ki : 0 ≤ k ∧ k ≤ 23) : Met l yX3_canMeetBy wsX3_canMeetBy ({ frames := 1, cells := 0, slots := 0, locals := 21 }) (va_Pc [.ref a0, .int (kz k), .ref f1, .ref f2] (fun U => jK (dC, dI) ca U ∧ jv (dC, dI) ca A X U.heap)) (vp_Si (fun r => r = kz 1 ∨ r = kz 0)) 0 0 (fun _ => False) := by
  refine Met.ofW (cc := cX3_canMeetBy) (maxL := 4) (ret := (some .boolean)) (by decide) rfl ?_
  intro p e s m args below meth c s₁ B hml hv
  obtain ⟨rfl, ⟨hK, hN⟩, hI⟩ := hv
  have hx := B.exec
  have hb := B.bytes
  have hr := B.returns
  have hts := atoms_spec (ws := wsX3_canMeetBy) B.pre
  have hown : s.vm.findClass RX3 = some m.cls := findClass_of_methodNamed B.named
  have hL119 := hts (.fieldLink RX3 119 "JoinBench$Form" "ends" "I") (by decide +kernel)
  have hL157 := hts (.fieldLink RX3 157 "JoinBench$Form" "begins" "I") (by decide +kernel)
  have hL42 := hts (.fieldLink RX3 42 "JoinBench$Lattice" "inForce" "I") (by decide +kernel)
  have hL45 := hts (.fieldLink RX3 45 "JoinBench$Lattice" "barred" "[Z") (by decide +kernel)
  have hL137 := hts (.fieldLink RX3 137 "JoinBench$Form" "kind" "I") (by decide +kernel)
  have hinX2 : ∀ w ∈ u_ws RX2 TX2 8, w ∈ wsX3_canMeetBy := by decide +kernel
  have hinX3 : ∀ w ∈ u_ws RX3 TX3 11, w ∈ wsX3_canMeetBy := by decide +kernel
  have hl := lv_entry ([.ref a0, .int (kz k), .ref f1, .ref f2]) (n := 4) (Nat.le_of_ble_eq_true rfl)
  rw [lg_entry_eq]
  generalize (lg_sl ([.ref a0, .int (kz k), .ref f1, .ref f2]) ++ List.replicate (4 - (lg_sl ([.ref a0, .int (kz k), .ref f1, .ref f2])).length) Slot.unset).toArray = ls at hl ⊢
  have hl : lv_has ls 4 [(0, .ref a0), (1, .int (kz k)), (2, .ref f1), (3, .ref f2)] := hl
  refine lv_aload_n hx hb dX3_canMeetBy_0 rfl (lv_at hl 2 rfl) ?_
  obtain ⟨fs9, co_1, jo9⟩ := jv_o2 hI g_f1
  obtain ⟨ln_1, letters_1, kind_1, stem_1, kept_1, cost_1, number_1, ends_1, begins_1, rfl, g_letters_1, ⟨kind_1a, kind_1b⟩, ⟨stem_1a, stem_1b⟩, ⟨kept_1a, kept_1b⟩, ⟨cost_1a, cost_1b⟩, ⟨number_1a, number_1b⟩, ⟨ends_1a, ends_1b⟩, ⟨begins_1a, begins_1b⟩, x_1_0, x_1_1, x_1_2, x_1_3⟩ := jo9
  refine iz_get (D := (dC, dI)) (ci := 2) (v := .int (kz ends_1)) (C := RX2) (T := TX2) (N := 8) hx hb hts hinX2 hown hK co_1 rfl 6 (by decide) hL119 (fun _ h9 => h9) rfl dX3_canMeetBy_1 ?_
  refine lv_aload_n hx hb dX3_canMeetBy_4 rfl (lv_at hl 3 rfl) ?_
  obtain ⟨fs9, co_2, jo9⟩ := jv_o2 hI g_f2
  obtain ⟨ln_2, letters_2, kind_2, stem_2, kept_2, cost_2, number_2, ends_2, begins_2, rfl, g_letters_2, ⟨kind_2a, kind_2b⟩, ⟨stem_2a, stem_2b⟩, ⟨kept_2a, kept_2b⟩, ⟨cost_2a, cost_2b⟩, ⟨number_2a, number_2b⟩, ⟨ends_2a, ends_2b⟩, ⟨begins_2a, begins_2b⟩, x_2_0, x_2_1, x_2_2, x_2_3⟩ := jo9
  refine iz_get (D := (dC, dI)) (ci := 2) (v := .int (kz begins_2)) (C := RX2) (T := TX2) (N := 8) hx hb hts hinX2 hown hK co_2 rfl 7 (by decide) hL157 (fun _ h9 => h9) rfl dX3_canMeetBy_5 ?_
  refine lv_iand hx hb dX3_canMeetBy_8 ?_
  refine iz_any (fun z_3 z_3a z_3b z_3e => ?_)
  refine lv_aload_n hx hb dX3_canMeetBy_9 rfl (lv_at hl 0 rfl) ?_
  obtain ⟨fs9, co_4, jo9⟩ := jv_o3 hI g_a0
  obtain ⟨cheapest_4, size_4, tongue_4, line_4, ways_4, plainWays_4, plainCheapest_4, ruledWays_4, ruledCheapest_4, inForce_4, barred_4, rfl, g_cheapest_4, ⟨size_4a, size_4b⟩, g_tongue_4, g_line_4, g_ways_4, g_plainWays_4, g_plainCheapest_4, g_ruledWays_4, g_ruledCheapest_4, ⟨inForce_4a, inForce_4b⟩, g_barred_4⟩ := jo9
  refine iz_get (D := (dC, dI)) (ci := 3) (v := .int (kz inForce_4)) (C := RX3) (T := TX3) (N := 11) hx hb hts hinX3 hown hK co_4 rfl 9 (by decide) hL42 (fun _ h9 => h9) rfl dX3_canMeetBy_10 ?_
  refine lv_iand hx hb dX3_canMeetBy_13 ?_
  refine iz_any (fun z_5 z_5a z_5b z_5e => ?_)
  refine lv_iload_n hx hb dX3_canMeetBy_14 rfl (lv_at hl 1 rfl) ?_
  refine vp_callSi (va_Run.run (va_runSN (As := [.int (kz z_5), .int (kz k)]) (rest := []) ⟨hx, hb, hml, hown, hts⟩ (c_hasRule l z_5 k (by omega) (by omega)) ⟨va_cnB 2 hts gX3_canMeetBy_X11_hasRule_n125 rfl rfl rfl (jN_X3_125 hN) (hts (.initialized RX11) (by decide +kernel)) (by decide +kernel) ⟨Nat.le_of_ble_eq_true rfl, Nat.le_of_ble_eq_true rfl⟩, hts (.static yX11_hasRule) (by decide +kernel), trivial⟩ ⟨fun a U g mk q => q, fun U hU hW => ⟨rfl, trivial⟩⟩ rfl rfl hl.1 rfl (lv_room (Nat.le_of_ble_eq_true rfl)) dX3_canMeetBy_15 ⟨Nat.le_of_ble_eq_true rfl, Nat.le_of_ble_eq_true rfl⟩)) (fun r_7 hw_6 => ?_)
  rcases hw_6 with rfl | rfl
  · refine iz_eqz (tgt := 45) hx hb dX3_canMeetBy_18 (by decide) (by unfold rg2; omega) (fun q9 => absurd q9 (by decide)) (fun _ => ?_)
    refine lv_aload_n hx hb dX3_canMeetBy_21 rfl (lv_at hl 0 rfl) ?_
    refine iz_get (D := (dC, dI)) (ci := 3) (v := .ref barred_4) (C := RX3) (T := TX3) (N := 11) hx hb hts hinX3 hown hK co_4 rfl 10 (by decide) hL45 (fun _ h9 => h9) rfl dX3_canMeetBy_22 ?_
    refine lv_aload_n hx hb dX3_canMeetBy_25 rfl (lv_at hl 2 rfl) ?_
    refine iz_get (D := (dC, dI)) (ci := 2) (v := .int (kz kind_1)) (C := RX2) (T := TX2) (N := 8) hx hb hts hinX2 hown hK co_1 rfl 1 (by decide) hL137 (fun _ h9 => h9) rfl dX3_canMeetBy_26 ?_
    refine lv_bipush (v := kz 6) hx hb dX3_canMeetBy_29 (by decide) ?_
    refine iz_imul hx hb dX3_canMeetBy_31 ?_
    refine lv_aload_n hx hb dX3_canMeetBy_32 rfl (lv_at hl 3 rfl) ?_
    refine iz_get (D := (dC, dI)) (ci := 2) (v := .int (kz kind_2)) (C := RX2) (T := TX2) (N := 8) hx hb hts hinX2 hown hK co_2 rfl 1 (by decide) hL137 (fun _ h9 => h9) rfl dX3_canMeetBy_33 ?_
    refine iz_iadd hx hb dX3_canMeetBy_36 ?_
    obtain ⟨f_8, c_f_8⟩ := iv_o22 (jv_iv hI) g_barred_4
    refine iz_zald hx hb hK 2 c_f_8 rfl (by omega) (by decide) dX3_canMeetBy_37 ?_
    have v_9a := kz_lo (f_8 (Int.toNat ((kind_1 * 6) + kind_2)))
    have v_9b := kz_hi (f_8 (Int.toNat ((kind_1 * 6) + kind_2)))
    change _ ≤ ge1 f_8 ((kind_1 * 6) + kind_2) at v_9a
    change ge1 f_8 ((kind_1 * 6) + kind_2) ≤ _ at v_9b
    obtain ⟨v_9, ev_9⟩ : ∃ z9 : Int, ge1 f_8 ((kind_1 * 6) + kind_2) = z9 := ⟨_, rfl⟩
    rw [ev_9] at v_9a v_9b ⊢
    refine iz_nez (tgt := 45) hx hb dX3_canMeetBy_38 (by decide) (by unfold rg2; omega) (fun br_10 => ?_) (fun br_10 => ?_)
    · refine lv_iconst (v := kz 0) hx hb dX3_canMeetBy_45 rfl ?_
      exact W.zret (v := kz 0) hx hb hr (by decide) (fun t9 ht hW => ⟨kz 0, rfl, Or.inr rfl, ht⟩) (fun q h => absurd h List.not_mem_nil) dX3_canMeetBy_46
    · refine lv_iconst (v := kz 1) hx hb dX3_canMeetBy_41 rfl ?_
      refine lv_goto (tgt := 46) hx hb dX3_canMeetBy_42 (by decide) ?_
      exact W.zret (v := kz 1) hx hb hr (by decide) (fun t9 ht hW => ⟨kz 1, rfl, Or.inl rfl, ht⟩) (fun q h => absurd h List.not_mem_nil) dX3_canMeetBy_46
  · refine iz_eqz (tgt := 45) hx hb dX3_canMeetBy_18 (by decide) (by unfold rg2; omega) (fun _ => ?_) (fun q9 => absurd q9 (by decide))
    refine lv_iconst (v := kz 0) hx hb dX3_canMeetBy_45 rfl ?_
    exact W.zret (v := kz 0) hx hb hr (by decide) (fun t9 ht hW => ⟨kz 0, rfl, Or.inr rfl, ht⟩) (fun q h => absurd h List.not_mem_nil) dX3_canMeetBy_46
set_option maxHeartbeats 4000000 in
set_option maxRecDepth 100000 in
/-- X3_sharedLetters -/
theorem c_sharedLetters (l : Launch) (dC : Nat → ClassId) (dI : Nat → Nat → Nat) (ca : Nat → ClassId) (A : Nat → Prop) (X : jG) (hU : jU X) (a0 : Nat) (pl1 : Int) (fm : Nat) (ct : Int) (g_a0 : X.1 a0 = (3, 30, 0, 0, 0)) (g_fm : X.1 fm = (2, 30, 0, 0, 0)) (pl1i : 0 ≤ pl1 ∧ pl1 ≤ 1000) (cti : 0 ≤ ct ∧ ct ≤ 3) : Met l yX3_sharedLetters wsX3_sharedLetters ({ frames := 1, cells := 0, slots := 0, locals := 13 }) (va_Pc [.ref a0, .int (kz pl1), .ref fm, .int (kz ct)] (fun U => jK (dC, dI) ca U ∧ jv (dC, dI) ca A X U.heap)) (vp_Si (fun r => ∃ z : Int, r = kz z ∧ 0 ≤ z ∧ z ≤ 8)) 0 0 (fun _ => False) := by
  refine Met.ofW (cc := cX3_sharedLetters) (maxL := 6) (ret := (some .int)) (by decide) rfl ?_
  intro p e s m args below meth c s₁ B hml hv
  obtain ⟨rfl, ⟨hK, hN⟩, hI⟩ := hv
  have hx := B.exec
  have hb := B.bytes
  have hr := B.returns
  have hts := atoms_spec (ws := wsX3_sharedLetters) B.pre
  have hown : s.vm.findClass RX3 = some m.cls := findClass_of_methodNamed B.named
  have hL112 := hts (.fieldLink RX3 112 "JoinBench$Form" "letters" "[B") (by decide +kernel)
  have hL16 := hts (.fieldLink RX3 16 "JoinBench$Lattice" "size" "I") (by decide +kernel)
  have hL20 := hts (.fieldLink RX3 20 "JoinBench$Lattice" "line" "[B") (by decide +kernel)
  have hinX2 : ∀ w ∈ u_ws RX2 TX2 8, w ∈ wsX3_sharedLetters := by decide +kernel
  have hinX3 : ∀ w ∈ u_ws RX3 TX3 11, w ∈ wsX3_sharedLetters := by decide +kernel
  have hl := lv_entry ([.ref a0, .int (kz pl1), .ref fm, .int (kz ct)]) (n := 6) (Nat.le_of_ble_eq_true rfl)
  rw [lg_entry_eq]
  generalize (lg_sl ([.ref a0, .int (kz pl1), .ref fm, .int (kz ct)]) ++ List.replicate (6 - (lg_sl ([.ref a0, .int (kz pl1), .ref fm, .int (kz ct)])).length) Slot.unset).toArray = ls at hl ⊢
  have hl : lv_has ls 6 [(0, .ref a0), (1, .int (kz pl1)), (2, .ref fm), (3, .int (kz ct))] := hl
  refine lv_aload_n hx hb dX3_sharedLetters_0 rfl (lv_at hl 2 rfl) ?_
  obtain ⟨fs9, co_1, jo9⟩ := jv_o2 hI g_fm
  obtain ⟨ln_1, letters_1, kind_1, stem_1, kept_1, cost_1, number_1, ends_1, begins_1, rfl, g_letters_1, ⟨kind_1a, kind_1b⟩, ⟨stem_1a, stem_1b⟩, ⟨kept_1a, kept_1b⟩, ⟨cost_1a, cost_1b⟩, ⟨number_1a, number_1b⟩, ⟨ends_1a, ends_1b⟩, ⟨begins_1a, begins_1b⟩, x_1_0, x_1_1, x_1_2, x_1_3⟩ := jo9
  refine iz_get (D := (dC, dI)) (ci := 2) (v := .ref letters_1) (C := RX2) (T := TX2) (N := 8) hx hb hts hinX2 hown hK co_1 rfl 0 (by decide) hL112 (fun _ h9 => h9) rfl dX3_sharedLetters_1 ?_
  obtain ⟨f_2, c_f_2⟩ := iv_o21 (jv_iv hI) g_letters_1
  refine va_alen hx hb hK (at_P c_f_2) 0 1 rfl rfl (v := kz (ln_1 : Int)) rfl dX3_sharedLetters_4 ?_
  refine lv_iload_n hx hb dX3_sharedLetters_5 rfl (lv_at hl 3 rfl) ?_
  refine iz_isub hx hb dX3_sharedLetters_6 ?_
  refine lv_aload_n hx hb dX3_sharedLetters_7 rfl (lv_at hl 0 rfl) ?_
  obtain ⟨fs9, co_3, jo9⟩ := jv_o3 hI g_a0
  obtain ⟨cheapest_3, size_3, tongue_3, line_3, ways_3, plainWays_3, plainCheapest_3, ruledWays_3, ruledCheapest_3, inForce_3, barred_3, rfl, g_cheapest_3, ⟨size_3a, size_3b⟩, g_tongue_3, g_line_3, g_ways_3, g_plainWays_3, g_plainCheapest_3, g_ruledWays_3, g_ruledCheapest_3, ⟨inForce_3a, inForce_3b⟩, g_barred_3⟩ := jo9
  refine iz_get (D := (dC, dI)) (ci := 3) (v := .int (kz size_3)) (C := RX3) (T := TX3) (N := 11) hx hb hts hinX3 hown hK co_3 rfl 1 (by decide) hL16 (fun _ h9 => h9) rfl dX3_sharedLetters_8 ?_
  refine lv_iload_n hx hb dX3_sharedLetters_11 rfl (lv_at hl 1 rfl) ?_
  refine iz_isub hx hb dX3_sharedLetters_12 ?_
  refine va_mmin hx hb (by rw [hml]; exact hl.1.symm) hown (hts (.methodLink RX3 53 Lib.Math.min.name) (by decide +kernel)) (hts (.static Lib.Math.min.name) (by decide +kernel)) (hts (.initialized "java/lang/Math") (by decide +kernel)) (hts (.code Lib.Math.min.name Lib.Math.min.code 2 (some .int)) (by decide +kernel)) (Nat.le_of_ble_eq_true rfl) (Nat.le_of_ble_eq_true rfl) (Nat.zero_le _) (Nat.zero_le _) dX3_sharedLetters_13 ?_
  refine iz_any (fun z_4 z_4a z_4b z_4e => ?_)
  have z_4m := kz_min (x := ((ln_1 : Int) - ct)) (y := (size_3 - pl1)) z_4e (by unfold rg2; omega) (by omega)
  refine lv_istore (lv' := [(4, .int (kz z_4)), (0, .ref a0), (1, .int (kz pl1)), (2, .ref fm), (3, .int (kz ct))]) hx hb dX3_sharedLetters_16 hl (by decide) rfl (fun ls hl => ?_)
  refine lv_iconst (v := kz 0) hx hb dX3_sharedLetters_18 rfl ?_
  refine lv_istore (lv' := [(5, .int (kz 0)), (4, .int (kz z_4)), (0, .ref a0), (1, .int (kz pl1)), (2, .ref fm), (3, .int (kz ct))]) hx hb dX3_sharedLetters_19 hl (by decide) rfl (fun ls hl => ?_)
  refine iz_loopS1 (P := fun N9 k ls => (0 ≤ k) ∧ (k ≤ 8) ∧ 8 - k ≤ (N9 : Int) ∧ lv_has ls 6 [(5, .int (kz k)), (4, .int (kz z_4)), (0, .ref a0), (1, .int (kz pl1)), (2, .ref fm), (3, .int (kz ct))]) 100000 (x0 := 0) ?_ ⟨by omega, by omega, by omega, lv_sub hl [0, 1, 2, 3, 4, 5] rfl⟩
  intro n_5 k ls ⟨n_5f0, n_5f1, n_5f2, hl⟩ ihn_5
  refine lv_iload hx hb dX3_sharedLetters_21 (lv_at hl 0 rfl) ?_
  refine lv_iload hx hb dX3_sharedLetters_23 (lv_at hl 1 rfl) ?_
  refine iz_ge (tgt := 55) hx hb dX3_sharedLetters_25 (by decide) (by unfold rg2; omega) (fun br_6 => ?_) (fun br_6 => ?_)
  · refine lv_iload hx hb dX3_sharedLetters_55 (lv_at hl 0 rfl) ?_
    exact W.iret (v := kz k) hx hb hr (fun t9 ht hW => ⟨kz k, rfl, ⟨k, rfl, by omega⟩, ht⟩) (fun q h => absurd h List.not_mem_nil) dX3_sharedLetters_57
  · refine lv_aload_n hx hb dX3_sharedLetters_28 rfl (lv_at hl 4 rfl) ?_
    refine iz_get (D := (dC, dI)) (ci := 2) (v := .ref letters_1) (C := RX2) (T := TX2) (N := 8) hx hb hts hinX2 hown hK co_1 rfl 0 (by decide) hL112 (fun _ h9 => h9) rfl dX3_sharedLetters_29 ?_
    refine lv_iload_n hx hb dX3_sharedLetters_32 rfl (lv_at hl 5 rfl) ?_
    refine lv_iload hx hb dX3_sharedLetters_33 (lv_at hl 0 rfl) ?_
    refine iz_iadd hx hb dX3_sharedLetters_35 ?_
    refine iz_bald hx hb hK 1 c_f_2 rfl (by omega) (by omega) dX3_sharedLetters_36 ?_
    have v_7a := kz_lo (f_2 (Int.toNat (ct + k)))
    have v_7b := kz_hi (f_2 (Int.toNat (ct + k)))
    change _ ≤ ge1 f_2 (ct + k) at v_7a
    change ge1 f_2 (ct + k) ≤ _ at v_7b
    obtain ⟨v_7, ev_7⟩ : ∃ z9 : Int, ge1 f_2 (ct + k) = z9 := ⟨_, rfl⟩
    rw [ev_7] at v_7a v_7b ⊢
    refine lv_aload_n hx hb dX3_sharedLetters_37 rfl (lv_at hl 2 rfl) ?_
    refine iz_get (D := (dC, dI)) (ci := 3) (v := .ref line_3) (C := RX3) (T := TX3) (N := 11) hx hb hts hinX3 hown hK co_3 rfl 3 (by decide) hL20 (fun _ h9 => h9) rfl dX3_sharedLetters_38 ?_
    refine lv_iload_n hx hb dX3_sharedLetters_41 rfl (lv_at hl 3 rfl) ?_
    refine lv_iload hx hb dX3_sharedLetters_42 (lv_at hl 0 rfl) ?_
    refine iz_iadd hx hb dX3_sharedLetters_44 ?_
    obtain ⟨f_8, c_f_8⟩ := iv_o21 (jv_iv hI) g_line_3
    refine iz_bald hx hb hK 1 c_f_8 rfl (by omega) (by decide) dX3_sharedLetters_45 ?_
    have v_9a := kz_lo (f_8 (Int.toNat (pl1 + k)))
    have v_9b := kz_hi (f_8 (Int.toNat (pl1 + k)))
    change _ ≤ ge1 f_8 (pl1 + k) at v_9a
    change ge1 f_8 (pl1 + k) ≤ _ at v_9b
    obtain ⟨v_9, ev_9⟩ : ∃ z9 : Int, ge1 f_8 (pl1 + k) = z9 := ⟨_, rfl⟩
    rw [ev_9] at v_9a v_9b ⊢
    refine iz_ne (tgt := 55) hx hb dX3_sharedLetters_46 (by decide) (by unfold rg2; omega) (fun br_10 => ?_) (fun br_10 => ?_)
    · refine lv_iload hx hb dX3_sharedLetters_55 (lv_at hl 0 rfl) ?_
      exact W.iret (v := kz k) hx hb hr (fun t9 ht hW => ⟨kz k, rfl, ⟨k, rfl, by omega⟩, ht⟩) (fun q h => absurd h List.not_mem_nil) dX3_sharedLetters_57
    · refine lv_iinc (v := kz (k + 1)) (lv' := [(5, .int (kz (k + 1))), (4, .int (kz z_4)), (0, .ref a0), (1, .int (kz pl1)), (2, .ref fm), (3, .int (kz ct))]) hx hb dX3_sharedLetters_49 hl (k := 0) rfl (kz_add k 1) (by decide) rfl (fun ls hl => ?_)
      refine lv_goto (tgt := 21) hx hb dX3_sharedLetters_52 (by decide) ?_
      exact ihn_5 (n_5 - 1) (by omega) (k + 1) _ ⟨by omega, by omega, by omega, lv_sub hl [0, 1, 2, 3, 4, 5] rfl⟩
set_option maxHeartbeats 4000000 in
set_option maxRecDepth 100000 in
/-- X3_placeBehind -/
theorem c_placeBehind (l : Launch) (dC : Nat → ClassId) (dI : Nat → Nat → Nat) (ca : Nat → ClassId) (A : Nat → Prop) (X : jG) (hU : jU X) (a0 : Nat) (pl1 : Int) (le : Int) (sh : Int) (ru : Nat) (id : Nat) (cheapest_a0 : Nat) (size_a0 : Int) (tongue_a0 : Nat) (line_a0 : Nat) (ways_a0 : Nat) (plainWays_a0 : Nat) (plainCheapest_a0 : Nat) (ruledWays_a0 : Nat) (ruledCheapest_a0 : Nat) (inForce_a0 : Int) (barred_a0 : Nat) (ln_ru : Nat) (letters_ru : Nat) (endSize_ru : Int) (beginningSize_ru : Int) (comesFrom_ru : Int) (comesSize_ru : Int) (cost_ru : Int) (firstDay_ru : Int) (lastDay_ru : Int) (number_ru : Int) (g_a0 : X.1 a0 = (3, 30, 0, 0, 0)) (g_ru : X.1 ru = (7, 30, id, 0, 0)) (g_cheapest_a0 : X.1 cheapest_a0 = (219, 27, 40, 232, 160)) (size_a0i : 0 ≤ size_a0 ∧ size_a0 ≤ 40) (g_tongue_a0 : X.1 tongue_a0 = (9, 30, 0, 0, 0)) (g_line_a0 : X.1 line_a0 = (204, 21, 40, 0, 0)) (g_ways_a0 : X.1 ways_a0 = (220, 23, 160, 0, 0)) (g_plainWays_a0 : X.1 plainWays_a0 = (221, 28, 40, 233, 40)) (g_plainCheapest_a0 : X.1 plainCheapest_a0 = (222, 27, 40, 234, 40)) (g_ruledWays_a0 : X.1 ruledWays_a0 = (223, 28, 40, 235, 144)) (g_ruledCheapest_a0 : X.1 ruledCheapest_a0 = (224, 27, 40, 236, 144)) (inForce_a0i : -2147483648 ≤ inForce_a0 ∧ inForce_a0 ≤ 2147483647) (g_barred_a0 : X.1 barred_a0 = (225, 22, 36, 0, 0)) (g_letters_ru : X.1 letters_ru = (202, 21, ln_ru, 0, 0)) (endSize_rui : 0 ≤ endSize_ru ∧ endSize_ru ≤ 3) (beginningSize_rui : 0 ≤ beginningSize_ru ∧ beginningSize_ru ≤ 3) (comesFrom_rui : 0 ≤ comesFrom_ru ∧ comesFrom_ru ≤ 6) (comesSize_rui : 0 ≤ comesSize_ru ∧ comesSize_ru ≤ 4) (cost_rui : -2147483648 ≤ cost_ru ∧ cost_ru ≤ 2147483647) (firstDay_rui : -2147483648 ≤ firstDay_ru ∧ firstDay_ru ≤ 2147483647) (lastDay_rui : -2147483648 ≤ lastDay_ru ∧ lastDay_ru ≤ 2147483647) (number_rui : 0 ≤ number_ru ∧ number_ru ≤ 23) (x_ru_0 : comesFrom_ru = endSize_ru + beginningSize_ru) (x_ru_1 : (ln_ru : Int) = comesFrom_ru + comesSize_ru) (x_ru_2 : id < X.2.2.2) (x_ru_3 : X.2.2.1 id = beginningSize_ru) (x_ru_4 : number_ru = (id : Int)) (x_ru_5 : X.2.2.1 (100 + id) = comesSize_ru - endSize_ru) (pl1i : 0 ≤ pl1 ∧ pl1 ≤ 1000) (lei : -10 ≤ le ∧ le ≤ 8) (shi : 0 ≤ sh ∧ sh ≤ 8) : Met l yX3_placeBehind wsX3_placeBehind ({ frames := 1, cells := 0, slots := 0, locals := 26 }) (va_Pc [.ref a0, .int (kz pl1), .int (kz le), .int (kz sh), .ref ru] (fun U => jK (dC, dI) ca U ∧ jv (dC, dI) ca A X U.heap ∧ va_at (dC, dI) vwCl (a0, .inr (3, [.ref cheapest_a0, .int (kz size_a0), .ref tongue_a0, .ref line_a0, .ref ways_a0, .ref plainWays_a0, .ref plainCheapest_a0, .ref ruledWays_a0, .ref ruledCheapest_a0, .int (kz inForce_a0), .ref barred_a0])) U.heap ∧ va_at (dC, dI) vwCl (ru, .inr (7, [.ref letters_ru, .int (kz endSize_ru), .int (kz beginningSize_ru), .int (kz comesFrom_ru), .int (kz comesSize_ru), .int (kz cost_ru), .int (kz firstDay_ru), .int (kz lastDay_ru), .int (kz number_ru)])) U.heap)) (vp_Si (fun r => (∃ z : Int, r = kz z ∧ z = pl1 + (le - endSize_ru) + comesSize_ru ∧ 1 ≤ le - endSize_ru ∧ z < size_a0) ∨ r = kz (-1))) 0 0 (fun _ => False) := by
  refine Met.ofW (cc := cX3_placeBehind) (maxL := 8) (ret := (some .int)) (by decide) rfl ?_
  intro p e s m args below meth c s₁ B hml hv
  obtain ⟨rfl, ⟨hK, hN⟩, hI, co_a0, co_ru⟩ := hv
  have hx := B.exec
  have hb := B.bytes
  have hr := B.returns
  have hts := atoms_spec (ws := wsX3_placeBehind) B.pre
  have hown : s.vm.findClass RX3 = some m.cls := findClass_of_methodNamed B.named
  have hL166 := hts (.fieldLink RX3 166 "JoinBench$Rule" "endSize" "I") (by decide +kernel)
  have hL169 := hts (.fieldLink RX3 169 "JoinBench$Rule" "comesFrom" "I") (by decide +kernel)
  have hL172 := hts (.fieldLink RX3 172 "JoinBench$Rule" "comesSize" "I") (by decide +kernel)
  have hL20 := hts (.fieldLink RX3 20 "JoinBench$Lattice" "line" "[B") (by decide +kernel)
  have hL16 := hts (.fieldLink RX3 16 "JoinBench$Lattice" "size" "I") (by decide +kernel)
  have hinX3 : ∀ w ∈ u_ws RX3 TX3 11, w ∈ wsX3_placeBehind := by decide +kernel
  have hinX7 : ∀ w ∈ u_ws RX7 TX7 9, w ∈ wsX3_placeBehind := by decide +kernel
  have hl := lv_entry ([.ref a0, .int (kz pl1), .int (kz le), .int (kz sh), .ref ru]) (n := 8) (Nat.le_of_ble_eq_true rfl)
  rw [lg_entry_eq]
  generalize (lg_sl ([.ref a0, .int (kz pl1), .int (kz le), .int (kz sh), .ref ru]) ++ List.replicate (8 - (lg_sl ([.ref a0, .int (kz pl1), .int (kz le), .int (kz sh), .ref ru])).length) Slot.unset).toArray = ls at hl ⊢
  have hl : lv_has ls 8 [(0, .ref a0), (1, .int (kz pl1)), (2, .int (kz le)), (3, .int (kz sh)), (4, .ref ru)] := hl
  refine lv_iload_n hx hb dX3_placeBehind_0 rfl (lv_at hl 2 rfl) ?_
  refine lv_aload hx hb dX3_placeBehind_1 (lv_at hl 4 rfl) ?_
  refine iz_get (D := (dC, dI)) (ci := 7) (v := .int (kz endSize_ru)) (C := RX7) (T := TX7) (N := 9) hx hb hts hinX7 hown hK co_ru rfl 1 (by decide) hL166 (fun _ h9 => h9) rfl dX3_placeBehind_3 ?_
  refine iz_isub hx hb dX3_placeBehind_6 ?_
  refine lv_istore (lv' := [(5, .int (kz (le - endSize_ru))), (0, .ref a0), (1, .int (kz pl1)), (2, .int (kz le)), (3, .int (kz sh)), (4, .ref ru)]) hx hb dX3_placeBehind_7 hl (by decide) rfl (fun ls hl => ?_)
  refine lv_iload hx hb dX3_placeBehind_9 (lv_at hl 0 rfl) ?_
  refine lv_iconst (v := kz 1) hx hb dX3_placeBehind_11 rfl ?_
  refine iz_lt (tgt := 21) hx hb dX3_placeBehind_12 (by decide) (by unfold rg2; omega) (fun br_1 => ?_) (fun br_1 => ?_)
  · refine lv_iconst (v := kz (-1)) hx hb dX3_placeBehind_21 rfl ?_
    exact W.iret (v := kz (-1)) hx hb hr (fun t9 ht hW => ⟨kz (-1), rfl, Or.inr rfl, ht⟩) (fun q h => absurd h List.not_mem_nil) dX3_placeBehind_22
  · refine lv_iload hx hb dX3_placeBehind_15 (lv_at hl 0 rfl) ?_
    refine lv_iload_n hx hb dX3_placeBehind_17 rfl (lv_at hl 4 rfl) ?_
    refine iz_le (tgt := 23) hx hb dX3_placeBehind_18 (by decide) (by unfold rg2; omega) (fun br_2 => ?_) (fun br_2 => ?_)
    · refine lv_aload hx hb dX3_placeBehind_23 (lv_at hl 5 rfl) ?_
      refine lv_aload hx hb dX3_placeBehind_25 (lv_at hl 5 rfl) ?_
      refine iz_get (D := (dC, dI)) (ci := 7) (v := .int (kz comesFrom_ru)) (C := RX7) (T := TX7) (N := 9) hx hb hts hinX7 hown hK co_ru rfl 3 (by decide) hL169 (fun _ h9 => h9) rfl dX3_placeBehind_27 ?_
      refine lv_aload hx hb dX3_placeBehind_30 (lv_at hl 5 rfl) ?_
      refine iz_get (D := (dC, dI)) (ci := 7) (v := .int (kz comesSize_ru)) (C := RX7) (T := TX7) (N := 9) hx hb hts hinX7 hown hK co_ru rfl 4 (by decide) hL172 (fun _ h9 => h9) rfl dX3_placeBehind_32 ?_
      refine lv_aload_n hx hb dX3_placeBehind_35 rfl (lv_at hl 1 rfl) ?_
      refine iz_get (D := (dC, dI)) (ci := 3) (v := .ref line_a0) (C := RX3) (T := TX3) (N := 11) hx hb hts hinX3 hown hK co_a0 rfl 3 (by decide) hL20 (fun _ h9 => h9) rfl dX3_placeBehind_36 ?_
      refine lv_aload_n hx hb dX3_placeBehind_39 rfl (lv_at hl 1 rfl) ?_
      refine iz_get (D := (dC, dI)) (ci := 3) (v := .int (kz size_a0)) (C := RX3) (T := TX3) (N := 11) hx hb hts hinX3 hown hK co_a0 rfl 1 (by decide) hL16 (fun _ h9 => h9) rfl dX3_placeBehind_40 ?_
      refine lv_iload_n hx hb dX3_placeBehind_43 rfl (lv_at hl 2 rfl) ?_
      refine lv_iload hx hb dX3_placeBehind_44 (lv_at hl 0 rfl) ?_
      refine iz_iadd hx hb dX3_placeBehind_46 ?_
      refine vp_callSi (va_Run.run (va_runV (As := [.int (kz comesFrom_ru), .int (kz comesSize_ru), .ref line_a0, .int (kz size_a0), .int (kz (pl1 + (le - endSize_ru)))]) (rest := []) ⟨hx, hb, hml, hown, hts⟩ (c_stands l dC dI ca A X hU ru comesFrom_ru comesSize_ru line_a0 size_a0 (pl1 + (le - endSize_ru)) id 204 40 ln_ru letters_ru endSize_ru beginningSize_ru comesFrom_ru comesSize_ru cost_ru firstDay_ru lastDay_ru number_ru g_ru g_line_a0 g_letters_ru (by omega) (by omega) (by omega) (by omega) (by omega) (by omega) (by omega) (by omega) (by omega) (by omega) x_ru_2 x_ru_3 (by omega) x_ru_5 (by omega) (by omega) (by omega) (by omega)) (cwV 5 hts gX3_placeBehind_X7_stands rfl rfl rfl (by decide +kernel) ⟨Nat.le_of_ble_eq_true rfl, Nat.le_of_ble_eq_true rfl⟩) ⟨fun a U g mk q => by obtain ⟨q0, ⟨qK, qN⟩, qI⟩ := q; exact ⟨q0, ⟨va_K.moved (u := U) (U := U.calling g mk a) (Vm.Alike.refl U.vm) qK, jN_same (U := U.calling g mk a) rfl qN⟩, qI⟩, va_recv hK (at_P co_ru) (ci := 7) (q0 := 0) rfl rfl, fun U hU hW => ⟨rfl, jK_warm hW ⟨hK, hN⟩, by rw [hU]; exact ⟨hI, co_ru⟩⟩⟩ rfl rfl hl.1 rfl (lv_room (Nat.le_of_ble_eq_true rfl)) dX3_placeBehind_47 ⟨Nat.le_of_ble_eq_true rfl, Nat.le_of_ble_eq_true rfl⟩)) (fun r_4 hw_3 => ?_)
      rcases hw_3 with ⟨rfl, hw_3⟩ | rfl
      · refine lv_istore (lv' := [(6, .int (kz 1)), (5, .int (kz (le - endSize_ru))), (0, .ref a0), (1, .int (kz pl1)), (2, .int (kz le)), (3, .int (kz sh)), (4, .ref ru)]) hx hb dX3_placeBehind_50 hl (by decide) rfl (fun ls hl => ?_)
        refine lv_iload_n hx hb dX3_placeBehind_52 rfl (lv_at hl 3 rfl) ?_
        refine lv_iload hx hb dX3_placeBehind_53 (lv_at hl 1 rfl) ?_
        refine iz_iadd hx hb dX3_placeBehind_55 ?_
        refine lv_aload hx hb dX3_placeBehind_56 (lv_at hl 6 rfl) ?_
        refine iz_get (D := (dC, dI)) (ci := 7) (v := .int (kz comesSize_ru)) (C := RX7) (T := TX7) (N := 9) hx hb hts hinX7 hown hK co_ru rfl 4 (by decide) hL172 (fun _ h9 => h9) rfl dX3_placeBehind_58 ?_
        refine iz_iadd hx hb dX3_placeBehind_61 ?_
        obtain ⟨z_5, ez_5⟩ : ∃ z9 : Int, z9 = ((pl1 + (le - endSize_ru)) + comesSize_ru) := ⟨_, rfl⟩
        rw [← ez_5]
        refine lv_istore (lv' := [(7, .int (kz z_5)), (6, .int (kz 1)), (5, .int (kz (le - endSize_ru))), (0, .ref a0), (1, .int (kz pl1)), (2, .int (kz le)), (3, .int (kz sh)), (4, .ref ru)]) hx hb dX3_placeBehind_62 hl (by decide) rfl (fun ls hl => ?_)
        refine lv_iload hx hb dX3_placeBehind_64 (lv_at hl 1 rfl) ?_
        refine iz_eqz (tgt := 83) hx hb dX3_placeBehind_66 (by decide) (by unfold rg2; omega) (fun q9 => absurd q9 (by decide)) (fun _ => ?_)
        refine lv_iload hx hb dX3_placeBehind_69 (lv_at hl 0 rfl) ?_
        refine lv_aload_n hx hb dX3_placeBehind_71 rfl (lv_at hl 3 rfl) ?_
        refine iz_get (D := (dC, dI)) (ci := 3) (v := .int (kz size_a0)) (C := RX3) (T := TX3) (N := 11) hx hb hts hinX3 hown hK co_a0 rfl 1 (by decide) hL16 (fun _ h9 => h9) rfl dX3_placeBehind_72 ?_
        refine iz_ge (tgt := 83) hx hb dX3_placeBehind_75 (by decide) (by unfold rg2; omega) (fun br_6 => ?_) (fun br_6 => ?_)
        · refine lv_iconst (v := kz (-1)) hx hb dX3_placeBehind_83 rfl ?_
          exact W.iret (v := kz (-1)) hx hb hr (fun t9 ht hW => ⟨kz (-1), rfl, Or.inr rfl, ht⟩) (fun q h => absurd h List.not_mem_nil) dX3_placeBehind_84
        · refine lv_iload hx hb dX3_placeBehind_78 (lv_at hl 0 rfl) ?_
          refine lv_goto (tgt := 84) hx hb dX3_placeBehind_80 (by decide) ?_
          exact W.iret (v := kz z_5) hx hb hr (fun t9 ht hW => ⟨kz z_5, rfl, Or.inl ⟨z_5, rfl, by omega, by omega, by omega⟩, ht⟩) (fun q h => absurd h List.not_mem_nil) dX3_placeBehind_84
      · refine lv_istore (lv' := [(6, .int (kz 0)), (5, .int (kz (le - endSize_ru))), (0, .ref a0), (1, .int (kz pl1)), (2, .int (kz le)), (3, .int (kz sh)), (4, .ref ru)]) hx hb dX3_placeBehind_50 hl (by decide) rfl (fun ls hl => ?_)
        refine lv_iload_n hx hb dX3_placeBehind_52 rfl (lv_at hl 3 rfl) ?_
        refine lv_iload hx hb dX3_placeBehind_53 (lv_at hl 1 rfl) ?_
        refine iz_iadd hx hb dX3_placeBehind_55 ?_
        refine lv_aload hx hb dX3_placeBehind_56 (lv_at hl 6 rfl) ?_
        refine iz_get (D := (dC, dI)) (ci := 7) (v := .int (kz comesSize_ru)) (C := RX7) (T := TX7) (N := 9) hx hb hts hinX7 hown hK co_ru rfl 4 (by decide) hL172 (fun _ h9 => h9) rfl dX3_placeBehind_58 ?_
        refine iz_iadd hx hb dX3_placeBehind_61 ?_
        obtain ⟨z_7, ez_7⟩ : ∃ z9 : Int, z9 = ((pl1 + (le - endSize_ru)) + comesSize_ru) := ⟨_, rfl⟩
        rw [← ez_7]
        refine lv_istore (lv' := [(7, .int (kz z_7)), (6, .int (kz 0)), (5, .int (kz (le - endSize_ru))), (0, .ref a0), (1, .int (kz pl1)), (2, .int (kz le)), (3, .int (kz sh)), (4, .ref ru)]) hx hb dX3_placeBehind_62 hl (by decide) rfl (fun ls hl => ?_)
        refine lv_iload hx hb dX3_placeBehind_64 (lv_at hl 1 rfl) ?_
        refine iz_eqz (tgt := 83) hx hb dX3_placeBehind_66 (by decide) (by unfold rg2; omega) (fun _ => ?_) (fun q9 => absurd q9 (by decide))
        refine lv_iconst (v := kz (-1)) hx hb dX3_placeBehind_83 rfl ?_
        exact W.iret (v := kz (-1)) hx hb hr (fun t9 ht hW => ⟨kz (-1), rfl, Or.inr rfl, ht⟩) (fun q h => absurd h List.not_mem_nil) dX3_placeBehind_84
    · refine lv_iconst (v := kz (-1)) hx hb dX3_placeBehind_21 rfl ?_
      exact W.iret (v := kz (-1)) hx hb hr (fun t9 ht hW => ⟨kz (-1), rfl, Or.inr rfl, ht⟩) (fun q h => absurd h List.not_mem_nil) dX3_placeBehind_22
