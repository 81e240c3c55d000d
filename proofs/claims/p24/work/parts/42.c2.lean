set_option maxHeartbeats 4000000 in
set_option maxRecDepth 100000 in
/-- X7_stands -/
theorem c_stands (l : Launch) (dC : Nat → ClassId) (dI : Nat → Nat → Nat) (ca : Nat → ClassId) (A : Nat → Prop) (X : jG) (a0 : Nat) (fr : Int) (ct : Int) (tx : Nat) (ts : Int) (pl1 : Int) (id : Nat) (tc : Nat) (tn : Nat) (ln_a0 : Nat) (letters_a0 : Nat) (endSize_a0 : Int) (beginningSize_a0 : Int) (comesFrom_a0 : Int) (comesSize_a0 : Int) (cost_a0 : Int) (firstDay_a0 : Int) (lastDay_a0 : Int) (number_a0 : Int) (g_a0 : X.1 a0 = (7, 30, id, 0, 0)) (g_tx : X.1 tx = (tc, 21, tn, 0, 0)) (g_letters_a0 : X.1 letters_a0 = (202, 21, ln_a0, 0, 0)) (endSize_a0i : 0 ≤ endSize_a0 ∧ endSize_a0 ≤ 3) (beginningSize_a0i : 0 ≤ beginningSize_a0 ∧ beginningSize_a0 ≤ 3) (comesFrom_a0i : 0 ≤ comesFrom_a0 ∧ comesFrom_a0 ≤ 6) (comesSize_a0i : 0 ≤ comesSize_a0 ∧ comesSize_a0 ≤ 4) (cost_a0i : -2147483648 ≤ cost_a0 ∧ cost_a0 ≤ 2147483647) (firstDay_a0i : -2147483648 ≤ firstDay_a0 ∧ firstDay_a0 ≤ 2147483647) (lastDay_a0i : -2147483648 ≤ lastDay_a0 ∧ lastDay_a0 ≤ 2147483647) (number_a0i : 0 ≤ number_a0 ∧ number_a0 ≤ 23) (x_a0_0 : comesFrom_a0 = endSize_a0 + beginningSize_a0) (x_a0_1 : (ln_a0 : Int) = comesFrom_a0 + comesSize_a0) (x_a0_2 : id < X.2.2.2) (x_a0_3 : X.2.2.1 id = beginningSize_a0) (x_a0_4 : number_a0 = (id : Int)) (h1 : 0 ≤ fr ∧ 0 ≤ ct ∧ fr + ct ≤ (ln_a0 : Int)) (h2 : 0 ≤ pl1 ∧ pl1 ≤ 1000) (h3 : 0 ≤ ts ∧ ts ≤ (tn : Int)) (h4 : tn ≤ 480) : Met l yX7_stands wsX7_stands ({ frames := 0, cells := 0, slots := 0, locals := 0 }) (va_Pc [.ref a0, .int (kz fr), .int (kz ct), .ref tx, .int (kz ts), .int (kz pl1)] (fun U => va_K (dC, dI) vwCl (j_tys ca) U ∧ jv (dC, dI) ca A X U.heap ∧ va_at (dC, dI) vwCl (a0, .inr (7, [.ref letters_a0, .int (kz endSize_a0), .int (kz beginningSize_a0), .int (kz comesFrom_a0), .int (kz comesSize_a0), .int (kz cost_a0), .int (kz firstDay_a0), .int (kz lastDay_a0), .int (kz number_a0)])) U.heap)) (vp_Si (fun r => (r = kz 1 ∧ ct ≤ ts - pl1) ∨ r = kz 0)) 0 0 (fun _ => False) := by
  refine Met.ofW (cc := cX7_stands) (maxL := 7) (ret := (some .boolean)) (by decide) rfl ?_
  intro p e s m args below meth c s₁ B hml hv
  obtain ⟨rfl, hK, hI, co_a0⟩ := hv
  have hx := B.exec
  have hb := B.bytes
  have hr := B.returns
  have hts := atoms_spec (ws := wsX7_stands) B.pre
  have hown : s.vm.findClass RX7 = some m.cls := findClass_of_methodNamed B.named
  have hL30 := hts (.fieldLink RX7 30 "JoinBench$Rule" "letters" "[B") (by decide +kernel)
  have hinX7 : ∀ w ∈ u_ws RX7 TX7 9, w ∈ wsX7_stands := by decide +kernel
  have hl := lv_entry ([.ref a0, .int (kz fr), .int (kz ct), .ref tx, .int (kz ts), .int (kz pl1)]) (n := 7) (Nat.le_of_ble_eq_true rfl)
  rw [lg_entry_eq]
  generalize (lg_sl ([.ref a0, .int (kz fr), .int (kz ct), .ref tx, .int (kz ts), .int (kz pl1)]) ++ List.replicate (7 - (lg_sl ([.ref a0, .int (kz fr), .int (kz ct), .ref tx, .int (kz ts), .int (kz pl1)])).length) Slot.unset).toArray = ls at hl ⊢
  have hl : lv_has ls 7 [(0, .ref a0), (1, .int (kz fr)), (2, .int (kz ct)), (3, .ref tx), (4, .int (kz ts)), (5, .int (kz pl1))] := hl
  refine lv_iload_n hx hb dX7_stands_0 rfl (lv_at hl 2 rfl) ?_
  refine lv_iload hx hb dX7_stands_1 (lv_at hl 4 rfl) ?_
  refine lv_iload hx hb dX7_stands_3 (lv_at hl 5 rfl) ?_
  refine iz_isub hx hb dX7_stands_5 ?_
  refine iz_le (tgt := 11) hx hb dX7_stands_6 (by decide) (by unfold rg2; omega) (fun br_1 => ?_) (fun br_1 => ?_)
  · refine lv_iconst (v := kz 0) hx hb dX7_stands_11 rfl ?_
    refine lv_istore (lv' := [(6, .int (kz 0)), (0, .ref a0), (1, .int (kz fr)), (2, .int (kz ct)), (3, .ref tx), (4, .int (kz ts)), (5, .int (kz pl1))]) hx hb dX7_stands_12 hl (by decide) rfl (fun ls hl => ?_)
    refine iz_loopS1 (P := fun N9 k ls => (0 ≤ k) ∧ (k ≤ ct) ∧ ct - k ≤ (N9 : Int) ∧ lv_has ls 7 [(6, .int (kz k)), (0, .ref a0), (1, .int (kz fr)), (2, .int (kz ct)), (3, .ref tx), (4, .int (kz ts)), (5, .int (kz pl1))]) 100000 (x0 := 0) ?_ ⟨by omega, by omega, by omega, lv_sub hl [0, 1, 2, 3, 4, 5, 6] rfl⟩
    intro n_2 k ls ⟨n_2f0, n_2f1, n_2f2, hl⟩ ihn_2
    refine lv_iload hx hb dX7_stands_14 (lv_at hl 0 rfl) ?_
    refine lv_iload_n hx hb dX7_stands_16 rfl (lv_at hl 3 rfl) ?_
    refine iz_ge (tgt := 47) hx hb dX7_stands_17 (by decide) (by unfold rg2; omega) (fun br_3 => ?_) (fun br_3 => ?_)
    · refine lv_iconst (v := kz 1) hx hb dX7_stands_47 rfl ?_
      exact W.zret (v := kz 1) hx hb hr (by decide) (fun t9 ht hW => ⟨kz 1, rfl, Or.inl ⟨rfl, by omega⟩, ht⟩) (fun q h => absurd h List.not_mem_nil) dX7_stands_48
    · refine lv_aload_n hx hb dX7_stands_20 rfl (lv_at hl 1 rfl) ?_
      refine iz_get (D := (dC, dI)) (ci := 7) (v := .ref letters_a0) (C := RX7) (T := TX7) (N := 9) hx hb hts hinX7 hown hK co_a0 rfl 0 (by decide) hL30 (fun _ h9 => h9) rfl dX7_stands_21 ?_
      refine lv_iload_n hx hb dX7_stands_24 rfl (lv_at hl 2 rfl) ?_
      refine lv_iload hx hb dX7_stands_25 (lv_at hl 0 rfl) ?_
      refine iz_iadd hx hb dX7_stands_27 ?_
      obtain ⟨f_4, c_f_4⟩ := iv_o21 (jv_iv hI) g_letters_a0
      refine iz_bald hx hb hK 1 c_f_4 rfl (by omega) (by omega) dX7_stands_28 ?_
      have v_5a := kz_lo (f_4 (Int.toNat (fr + k)))
      have v_5b := kz_hi (f_4 (Int.toNat (fr + k)))
      change _ ≤ ge1 f_4 (fr + k) at v_5a
      change ge1 f_4 (fr + k) ≤ _ at v_5b
      obtain ⟨v_5, ev_5⟩ : ∃ z9 : Int, ge1 f_4 (fr + k) = z9 := ⟨_, rfl⟩
      rw [ev_5] at v_5a v_5b ⊢
      refine lv_aload_n hx hb dX7_stands_29 rfl (lv_at hl 4 rfl) ?_
      refine lv_iload hx hb dX7_stands_30 (lv_at hl 6 rfl) ?_
      refine lv_iload hx hb dX7_stands_32 (lv_at hl 0 rfl) ?_
      refine iz_iadd hx hb dX7_stands_34 ?_
      obtain ⟨f_6, c_f_6⟩ := iv_o21 (jv_iv hI) g_tx
      refine iz_bald hx hb hK 1 c_f_6 rfl (by omega) (by omega) dX7_stands_35 ?_
      have v_7a := kz_lo (f_6 (Int.toNat (pl1 + k)))
      have v_7b := kz_hi (f_6 (Int.toNat (pl1 + k)))
      change _ ≤ ge1 f_6 (pl1 + k) at v_7a
      change ge1 f_6 (pl1 + k) ≤ _ at v_7b
      obtain ⟨v_7, ev_7⟩ : ∃ z9 : Int, ge1 f_6 (pl1 + k) = z9 := ⟨_, rfl⟩
      rw [ev_7] at v_7a v_7b ⊢
      refine iz_eq (tgt := 41) hx hb dX7_stands_36 (by decide) (by unfold rg2; omega) (fun br_8 => ?_) (fun br_8 => ?_)
      · refine lv_iinc (v := kz (k + 1)) (lv' := [(6, .int (kz (k + 1))), (0, .ref a0), (1, .int (kz fr)), (2, .int (kz ct)), (3, .ref tx), (4, .int (kz ts)), (5, .int (kz pl1))]) hx hb dX7_stands_41 hl (k := 0) rfl (kz_add k 1) (by decide) rfl (fun ls hl => ?_)
        refine lv_goto (tgt := 14) hx hb dX7_stands_44 (by decide) ?_
        exact ihn_2 (n_2 - 1) (by omega) (k + 1) _ ⟨by omega, by omega, by omega, lv_sub hl [0, 1, 2, 3, 4, 5, 6] rfl⟩
      · refine lv_iconst (v := kz 0) hx hb dX7_stands_39 rfl ?_
        exact W.zret (v := kz 0) hx hb hr (by decide) (fun t9 ht hW => ⟨kz 0, rfl, Or.inr rfl, ht⟩) (fun q h => absurd h List.not_mem_nil) dX7_stands_40
  · refine lv_iconst (v := kz 0) hx hb dX7_stands_9 rfl ?_
    exact W.zret (v := kz 0) hx hb hr (by decide) (fun t9 ht hW => ⟨kz 0, rfl, Or.inr rfl, ht⟩) (fun q h => absurd h List.not_mem_nil) dX7_stands_10
