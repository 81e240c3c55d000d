theorem co_up {X Y : jG} (h : jup X Y) {a : Nat} {r : Option Nat} (hc : X.1 a = (2, 30, 0, 0, 0) ∧ cutv X r ≤ (X.2.1 a : Int)) : Y.1 a = (2, 30, 0, 0, 0) ∧ cutv Y r ≤ (Y.2.1 a : Int) := by
  refine ⟨up_t h hc.1, ?_⟩
  rw [cutv_up h, up_n h hc.1 (show (30 : Nat) ≠ 24 by decide)]
  exact hc.2
theorem ct_up {X Y : jG} (h : jup X Y) {a : Nat} {r : Option Nat} (hg : Y.1 a = (2, 30, 0, 0, 0)) (hc : cutv X r ≤ (X.2.1 a : Int)) : cutv Y r ≤ (Y.2.1 a : Int) := by
  rw [cutv_up h, up_n h (show X.1 a = (2, 30, 0, 0, 0) by rw [← h.1]; exact hg) (show (30 : Nat) ≠ 24 by decide)]
  exact hc
set_option maxHeartbeats 4000000 in
set_option maxRecDepth 100000 in
/-- X0_append -/
theorem c_appendXR (l : Launch) (dC : Nat → ClassId) (dI : Nat → Nat → Nat) (ca : Nat → ClassId) (A : Nat → Prop) (X : jG) (hU : jU X) (Hp : Heap) (a0 : Nat) (f1 : Nat) (r1 : Nat) (id : Nat) (rid : Nat) (forms_a0 : Nat) (rules_a0 : Nat) (size_a0 : Int) (ff : Nat → Option Nat) (fr : Nat → Option Nat) (g_a0 : X.1 a0 = (0, 30, id, 0, 0)) (g_f1 : X.1 f1 = (2, 30, 0, 0, 0)) (g_r1 : X.1 r1 = (7, 30, rid, 0, 0)) (g_forms_a0 : X.1 forms_a0 = (210, 24, 40, 2, (id : Int))) (g_rules_a0 : X.1 rules_a0 = (211, 25, 40, 7, (id : Int))) (size_a0i : 0 ≤ size_a0 ∧ size_a0 ≤ 40) (x_a0_0 : size_a0 ≤ (X.2.1 forms_a0 : Int)) (hCO : ∀ a : Nat, lst ff size_a0 = some a → X.1 a = (2, 30, 0, 0, 0) ∧ cutv X (lst fr size_a0) ≤ (X.2.1 a : Int)) (hct : cutv X (some r1) ≤ (X.2.1 f1 : Int)) : Met l yX0_append wsX0_append ({ frames := 0, cells := 0, slots := 0, locals := 0 }) (va_Pc [.ref a0, .ref f1, .ref r1] (fun U => U.heap = Hp ∧ jK (dC, dI) ca U ∧ jv (dC, dI) ca A X U.heap ∧ va_at (dC, dI) vwCl (a0, .inr (0, [.ref forms_a0, .ref rules_a0, .int (kz size_a0)])) U.heap ∧ va_at (dC, dI) vwCl (forms_a0, je_q ca 40 24 ff) U.heap ∧ va_at (dC, dI) vwCl (rules_a0, je_q ca 40 25 fr) U.heap)) (va_Qv (fun (u : jG) => jup X u) (fun (u : jG) U => jK (dC, dI) ca U ∧ jv (dC, dI) ca A u U.heap ∧ kfk X (Lc id) Hp U.heap ∧ pch (dC, dI) ca u id U.heap) A) 0 0 A := by
  refine Met.ofW (cc := cX0_append) (maxL := 3) (ret := none) (by decide) rfl ?_
  intro p e s m args below meth c s₁ B hml hv
  obtain ⟨rfl, hHp, ⟨hK, hN⟩, hI, co_a0, c_ff, c_fr⟩ := hv
  have hx := B.exec
  have hb := B.bytes
  have hr := B.returns
  have hts := atoms_spec (ws := wsX0_append) B.pre
  have hown : s.vm.findClass RX0 = some m.cls := findClass_of_methodNamed B.named
  have hL23 := hts (.fieldLink RX0 23 "JoinBench$Chain" "size" "I") (by decide +kernel)
  have hL11 := hts (.fieldLink RX0 11 "JoinBench$Chain" "forms" "[LJoinBench$Form;") (by decide +kernel)
  have hL19 := hts (.fieldLink RX0 19 "JoinBench$Chain" "rules" "[LJoinBench$Rule;") (by decide +kernel)
  have hinX0 : ∀ w ∈ u_ws RX0 TX0 3, w ∈ wsX0_append := by decide +kernel
  obtain ⟨H, hH⟩ : ∃ H : Heap, H = s.heap := ⟨_, rfl⟩
  have hS : va_S A s.heap H [] := by rw [hH]; exact va_S.rf
  have hF : kfk X (Lc id) Hp H := by rw [hH, hHp]; exact fk_rf _ _ _
  have hT := jup_rf X
  rw [← hH] at hI co_a0 c_ff c_fr ⊢
  clear hH
  have k_ff := kq24 hI g_forms_a0 c_ff
  have k_fr := kq25 hI g_rules_a0 c_fr
  have hl := lv_entry ([.ref a0, .ref f1, .ref r1]) (n := 3) (Nat.le_of_ble_eq_true rfl)
  rw [lg_entry_eq]
  generalize (lg_sl ([.ref a0, .ref f1, .ref r1]) ++ List.replicate (3 - (lg_sl ([.ref a0, .ref f1, .ref r1])).length) Slot.unset).toArray = ls at hl ⊢
  have hl : lv_has ls 3 [(0, .ref a0), (1, .ref f1), (2, .ref r1)] := hl
  refine lv_aload_n hx hb dX0_append_0 rfl (lv_at hl 0 rfl) ?_
  refine iz_get (D := (dC, dI)) (ci := 0) (v := .int (kz size_a0)) (C := RX0) (T := TX0) (N := 3) hx hb hts hinX0 hown hK co_a0 rfl 2 (by decide) hL23 (fun _ h9 => h9) rfl dX0_append_1 ?_
  refine lv_bipush (v := kz 40) hx hb dX0_append_4 (by decide) ?_
  refine iz_ge (tgt := 39) hx hb dX0_append_6 (by decide) (by unfold rg2; omega) (fun br_1 => ?_) (fun br_1 => ?_)
  · exact W.vret hx hb hr (fun t9 ht hW => ⟨⟨X, rfl, hT, jK_warm hW ⟨hK, hN⟩, by rw [ht]; exact ⟨hI, fk_dn hT hF, ⟨a0, forms_a0, rules_a0, size_a0, _, _, g_a0, g_forms_a0, g_rules_a0, co_a0, c_ff, c_fr, by omega, by omega, hCO⟩⟩⟩, hS.F ht⟩) hS.2.2 dX0_append_39
  · refine lv_aload_n hx hb dX0_append_9 rfl (lv_at hl 0 rfl) ?_
    refine iz_get (D := (dC, dI)) (ci := 0) (v := .ref forms_a0) (C := RX0) (T := TX0) (N := 3) hx hb hts hinX0 hown hK co_a0 rfl 0 (by decide) hL11 (fun _ h9 => h9) rfl dX0_append_10 ?_
    refine lv_aload_n hx hb dX0_append_13 rfl (lv_at hl 0 rfl) ?_
    refine iz_get (D := (dC, dI)) (ci := 0) (v := .int (kz size_a0)) (C := RX0) (T := TX0) (N := 3) hx hb hts hinX0 hown hK co_a0 rfl 2 (by decide) hL23 (fun _ h9 => h9) rfl dX0_append_14 ?_
    refine lv_aload_n hx hb dX0_append_17 rfl (lv_at hl 1 rfl) ?_
    obtain ⟨fs9, co_2, jo9⟩ := jv_o2 hI g_f1
    obtain ⟨ln_2, letters_2, kind_2, stem_2, kept_2, cost_2, number_2, ends_2, begins_2, rfl, g_letters_2, ⟨kind_2a, kind_2b⟩, ⟨stem_2a, stem_2b⟩, ⟨kept_2a, kept_2b⟩, ⟨cost_2a, cost_2b⟩, ⟨number_2a, number_2b⟩, ⟨ends_2a, ends_2b⟩, ⟨begins_2a, begins_2b⟩, x_2_0, x_2_1, x_2_2, x_2_3⟩ := jo9
    refine jz_aast hx hb hK 4 2 c_ff co_2 rfl rfl hS (jv_A hI g_forms_a0 (show (24 : Nat) ≠ 0 by decide)) (by omega) (by decide) dX0_append_18 (fun H locs c9 oq hS => ?_)
    have k9 := q24_up (z := (Int.toNat size_a0)) k_ff g_f1
    have hI := jv_set hI c9 oq (by rw [g_forms_a0]; exact jq_e24 k9)
    have hF := fk_put hF g_forms_a0 (by simp [Lp, Lc]) oq
    have c_fr := c_fr.kept (oq _ (kn_ne g_rules_a0 g_forms_a0 (show (211 : Nat) ≠ 210 by decide)))
    have co_a0 := co_a0.kept (oq _ (kn_ne g_a0 g_forms_a0 (show (0 : Nat) ≠ 210 by decide)))
    have co_2 := co_2.kept (oq _ (kn_ne g_f1 g_forms_a0 (show (2 : Nat) ≠ 210 by decide)))
    obtain ⟨xf_3, exf_3⟩ : ∃ f9 : Nat → Option Nat, f9 = va_up ff (Int.toNat size_a0) (some f1) := ⟨_, rfl⟩
    rw [← exf_3] at c9 k9
    have c_xf_3 := c9
    obtain ⟨X, hup9, hI, hc_4⟩ := jv_up ((Int.toNat size_a0) + 1) hI g_forms_a0 c_xf_3 k9 (by rw [exf_3]; exact up_some (fun j hj => (k_ff j (by omega)).2 (by omega)))
    have hF := fk_up hup9 hF
    have g_a0 := up_t hup9 g_a0
    have g_f1 := up_t hup9 g_f1
    have g_r1 := up_t hup9 g_r1
    have g_forms_a0 := up_t hup9 g_forms_a0
    have g_rules_a0 := up_t hup9 g_rules_a0
    have x_a0_0 : size_a0 ≤ (X.2.1 forms_a0 : Int) := by have h9 := (hup9.2.2 forms_a0).1; omega
    have hU := up_U hup9 hU
    have hT := jup_tr hT hup9
    have hCO := fun a9 (ha9 : lst ff size_a0 = some a9) => co_up hup9 (hCO a9 ha9)
    have hct := ct_up hup9 g_f1 hct
    have k_xf_3 := kq24 hI g_forms_a0 c_xf_3
    have k_fr := kq25 hI g_rules_a0 c_fr
    clear oq c9 k9 hup9
    refine lv_aload_n hx hb dX0_append_19 rfl (lv_at hl 0 rfl) ?_
    refine iz_get (D := (dC, dI)) (ci := 0) (v := .ref rules_a0) (C := RX0) (T := TX0) (N := 3) hx hb hts hinX0 hown hK co_a0 rfl 1 (by decide) hL19 (fun _ h9 => h9) rfl dX0_append_20 ?_
    refine lv_aload_n hx hb dX0_append_23 rfl (lv_at hl 0 rfl) ?_
    refine iz_get (D := (dC, dI)) (ci := 0) (v := .int (kz size_a0)) (C := RX0) (T := TX0) (N := 3) hx hb hts hinX0 hown hK co_a0 rfl 2 (by decide) hL23 (fun _ h9 => h9) rfl dX0_append_24 ?_
    refine lv_aload_n hx hb dX0_append_27 rfl (lv_at hl 2 rfl) ?_
    obtain ⟨fs9, co_5, jo9⟩ := jv_o7 hI g_r1
    obtain ⟨ln_5, letters_5, endSize_5, beginningSize_5, comesFrom_5, comesSize_5, cost_5, firstDay_5, lastDay_5, number_5, rfl, g_letters_5, ⟨endSize_5a, endSize_5b⟩, ⟨beginningSize_5a, beginningSize_5b⟩, ⟨comesFrom_5a, comesFrom_5b⟩, ⟨comesSize_5a, comesSize_5b⟩, ⟨cost_5a, cost_5b⟩, ⟨firstDay_5a, firstDay_5b⟩, ⟨lastDay_5a, lastDay_5b⟩, ⟨number_5a, number_5b⟩, x_5_0, x_5_1, x_5_2, x_5_3, x_5_4, x_5_5⟩ := jo9
    refine jz_aast hx hb hK 5 7 c_fr co_5 rfl rfl hS (jv_A hI g_rules_a0 (show (25 : Nat) ≠ 0 by decide)) (by omega) (by decide) dX0_append_28 (fun H locs c9 oq hS => ?_)
    have k9 := q25_up (z := (Int.toNat size_a0)) k_fr g_r1
    have hI := jv_set hI c9 oq (by rw [g_rules_a0]; exact jq_e25 k9)
    have hF := fk_put hF g_rules_a0 (by simp [Lp, Lc]) oq
    have c_xf_3 := c_xf_3.kept (oq _ (kn_ne g_forms_a0 g_rules_a0 (show (210 : Nat) ≠ 211 by decide)))
    have co_a0 := co_a0.kept (oq _ (kn_ne g_a0 g_rules_a0 (show (0 : Nat) ≠ 211 by decide)))
    have co_5 := co_5.kept (oq _ (kn_ne g_r1 g_rules_a0 (show (7 : Nat) ≠ 211 by decide)))
    obtain ⟨xf_6, exf_6⟩ : ∃ f9 : Nat → Option Nat, f9 = va_up fr (Int.toNat size_a0) (some r1) := ⟨_, rfl⟩
    rw [← exf_6] at c9 k9
    have c_xf_6 := c9
    have k_xf_3 := kq24 hI g_forms_a0 c_xf_3
    have k_xf_6 := kq25 hI g_rules_a0 c_xf_6
    clear oq c9 k9
    refine lv_aload_n hx hb dX0_append_29 rfl (lv_at hl 0 rfl) ?_
    refine lv_dup hx hb dX0_append_30 rfl ?_
    refine iz_get (D := (dC, dI)) (ci := 0) (v := .int (kz size_a0)) (C := RX0) (T := TX0) (N := 3) hx hb hts hinX0 hown hK co_a0 rfl 2 (by decide) hL23 (fun _ h9 => h9) rfl dX0_append_31 ?_
    refine lv_iconst (v := kz 1) hx hb dX0_append_34 rfl ?_
    refine iz_iadd hx hb dX0_append_35 ?_
    refine iz_put (D := (dC, dI)) (ci := 0) (v := .int (kz (size_a0 + 1))) (ty := .int) (C := RX0) (T := TX0) (N := 3) hx hb hts hinX0 tyX0 tyX0_ok nmX0 hown hK co_a0 hS (jv_A hI g_a0 (show (30 : Nat) ≠ 0 by decide)) rfl 2 (by decide) hL23 (fun _ h9 => h9) rfl (by decide +kernel) rfl rfl (Nat.le_of_ble_eq_true rfl) dX0_append_36 (fun H locs c9 oq hS => ?_)
    have hI := jv_set hI c9 oq (by rw [g_a0]; exact jv_c0 ⟨forms_a0, rules_a0, (size_a0 + 1), rfl, g_forms_a0, g_rules_a0, ⟨by omega, by omega⟩, by omega⟩)
    have hF := fk_put hF g_a0 (by simp [Lp, Lc]) oq
    have co_5 := co_5.kept (oq _ (kn_ne g_r1 g_a0 (show (7 : Nat) ≠ 0 by decide)))
    have c_xf_3 := c_xf_3.kept (oq _ (kn_ne g_forms_a0 g_a0 (show (210 : Nat) ≠ 0 by decide)))
    have c_xf_6 := c_xf_6.kept (oq _ (kn_ne g_rules_a0 g_a0 (show (211 : Nat) ≠ 0 by decide)))
    have co_a0 := c9
    clear oq c9
    exact W.vret hx hb hr (fun t9 ht hW => ⟨⟨X, rfl, hT, jK_warm hW ⟨hK, hN⟩, by rw [ht]; exact ⟨hI, fk_dn hT hF, ⟨a0, forms_a0, rules_a0, (size_a0 + 1), _, _, g_a0, g_forms_a0, g_rules_a0, co_a0, c_xf_3, c_xf_6, by omega, by omega, fun a9 ha9 => (by rw [exf_3, lst_up (by omega)] at ha9; cases ha9; rw [exf_6, lst_up (by omega)]; exact ⟨g_f1, hct⟩)⟩⟩⟩, hS.F ht⟩) hS.2.2 dX0_append_39
set_option maxHeartbeats 4000000 in
set_option maxRecDepth 100000 in
/-- X0_append -/
theorem c_appendXN (l : Launch) (dC : Nat → ClassId) (dI : Nat → Nat → Nat) (ca : Nat → ClassId) (A : Nat → Prop) (X : jG) (hU : jU X) (Hp : Heap) (a0 : Nat) (f1 : Nat) (id : Nat) (forms_a0 : Nat) (rules_a0 : Nat) (size_a0 : Int) (ff : Nat → Option Nat) (fr : Nat → Option Nat) (g_a0 : X.1 a0 = (0, 30, id, 0, 0)) (g_f1 : X.1 f1 = (2, 30, 0, 0, 0)) (g_forms_a0 : X.1 forms_a0 = (210, 24, 40, 2, (id : Int))) (g_rules_a0 : X.1 rules_a0 = (211, 25, 40, 7, (id : Int))) (size_a0i : 0 ≤ size_a0 ∧ size_a0 ≤ 40) (x_a0_0 : size_a0 ≤ (X.2.1 forms_a0 : Int)) (hCO : ∀ a : Nat, lst ff size_a0 = some a → X.1 a = (2, 30, 0, 0, 0) ∧ cutv X (lst fr size_a0) ≤ (X.2.1 a : Int)) (hct : cutv X none ≤ (X.2.1 f1 : Int)) : Met l yX0_append wsX0_append ({ frames := 0, cells := 0, slots := 0, locals := 0 }) (va_Pc [.ref a0, .ref f1, .null] (fun U => U.heap = Hp ∧ jK (dC, dI) ca U ∧ jv (dC, dI) ca A X U.heap ∧ va_at (dC, dI) vwCl (a0, .inr (0, [.ref forms_a0, .ref rules_a0, .int (kz size_a0)])) U.heap ∧ va_at (dC, dI) vwCl (forms_a0, je_q ca 40 24 ff) U.heap ∧ va_at (dC, dI) vwCl (rules_a0, je_q ca 40 25 fr) U.heap)) (va_Qv (fun (u : jG) => jup X u) (fun (u : jG) U => jK (dC, dI) ca U ∧ jv (dC, dI) ca A u U.heap ∧ kfk X (Lc id) Hp U.heap ∧ pch (dC, dI) ca u id U.heap) A) 0 0 A := by
  refine Met.ofW (cc := cX0_append) (maxL := 3) (ret := none) (by decide) rfl ?_
  intro p e s m args below meth c s₁ B hml hv
  obtain ⟨rfl, hHp, ⟨hK, hN⟩, hI, co_a0, c_ff, c_fr⟩ := hv
  have hx := B.exec
  have hb := B.bytes
  have hr := B.returns
  have hts := atoms_spec (ws := wsX0_append) B.pre
  have hown : s.vm.findClass RX0 = some m.cls := findClass_of_methodNamed B.named
  have hL23 := hts (.fieldLink RX0 23 "JoinBench$Chain" "size" "I") (by decide +kernel)
  have hL11 := hts (.fieldLink RX0 11 "JoinBench$Chain" "forms" "[LJoinBench$Form;") (by decide +kernel)
  have hL19 := hts (.fieldLink RX0 19 "JoinBench$Chain" "rules" "[LJoinBench$Rule;") (by decide +kernel)
  have hinX0 : ∀ w ∈ u_ws RX0 TX0 3, w ∈ wsX0_append := by decide +kernel
  obtain ⟨H, hH⟩ : ∃ H : Heap, H = s.heap := ⟨_, rfl⟩
  have hS : va_S A s.heap H [] := by rw [hH]; exact va_S.rf
  have hF : kfk X (Lc id) Hp H := by rw [hH, hHp]; exact fk_rf _ _ _
  have hT := jup_rf X
  rw [← hH] at hI co_a0 c_ff c_fr ⊢
  clear hH
  have k_ff := kq24 hI g_forms_a0 c_ff
  have k_fr := kq25 hI g_rules_a0 c_fr
  have hl := lv_entry ([.ref a0, .ref f1, .null]) (n := 3) (Nat.le_of_ble_eq_true rfl)
  rw [lg_entry_eq]
  generalize (lg_sl ([.ref a0, .ref f1, .null]) ++ List.replicate (3 - (lg_sl ([.ref a0, .ref f1, .null])).length) Slot.unset).toArray = ls at hl ⊢
  have hl : lv_has ls 3 [(0, .ref a0), (1, .ref f1), (2, .null)] := hl
  refine lv_aload_n hx hb dX0_append_0 rfl (lv_at hl 0 rfl) ?_
  refine iz_get (D := (dC, dI)) (ci := 0) (v := .int (kz size_a0)) (C := RX0) (T := TX0) (N := 3) hx hb hts hinX0 hown hK co_a0 rfl 2 (by decide) hL23 (fun _ h9 => h9) rfl dX0_append_1 ?_
  refine lv_bipush (v := kz 40) hx hb dX0_append_4 (by decide) ?_
  refine iz_ge (tgt := 39) hx hb dX0_append_6 (by decide) (by unfold rg2; omega) (fun br_1 => ?_) (fun br_1 => ?_)
  · exact W.vret hx hb hr (fun t9 ht hW => ⟨⟨X, rfl, hT, jK_warm hW ⟨hK, hN⟩, by rw [ht]; exact ⟨hI, fk_dn hT hF, ⟨a0, forms_a0, rules_a0, size_a0, _, _, g_a0, g_forms_a0, g_rules_a0, co_a0, c_ff, c_fr, by omega, by omega, hCO⟩⟩⟩, hS.F ht⟩) hS.2.2 dX0_append_39
  · refine lv_aload_n hx hb dX0_append_9 rfl (lv_at hl 0 rfl) ?_
    refine iz_get (D := (dC, dI)) (ci := 0) (v := .ref forms_a0) (C := RX0) (T := TX0) (N := 3) hx hb hts hinX0 hown hK co_a0 rfl 0 (by decide) hL11 (fun _ h9 => h9) rfl dX0_append_10 ?_
    refine lv_aload_n hx hb dX0_append_13 rfl (lv_at hl 0 rfl) ?_
    refine iz_get (D := (dC, dI)) (ci := 0) (v := .int (kz size_a0)) (C := RX0) (T := TX0) (N := 3) hx hb hts hinX0 hown hK co_a0 rfl 2 (by decide) hL23 (fun _ h9 => h9) rfl dX0_append_14 ?_
    refine lv_aload_n hx hb dX0_append_17 rfl (lv_at hl 1 rfl) ?_
    obtain ⟨fs9, co_2, jo9⟩ := jv_o2 hI g_f1
    obtain ⟨ln_2, letters_2, kind_2, stem_2, kept_2, cost_2, number_2, ends_2, begins_2, rfl, g_letters_2, ⟨kind_2a, kind_2b⟩, ⟨stem_2a, stem_2b⟩, ⟨kept_2a, kept_2b⟩, ⟨cost_2a, cost_2b⟩, ⟨number_2a, number_2b⟩, ⟨ends_2a, ends_2b⟩, ⟨begins_2a, begins_2b⟩, x_2_0, x_2_1, x_2_2, x_2_3⟩ := jo9
    refine jz_aast hx hb hK 4 2 c_ff co_2 rfl rfl hS (jv_A hI g_forms_a0 (show (24 : Nat) ≠ 0 by decide)) (by omega) (by decide) dX0_append_18 (fun H locs c9 oq hS => ?_)
    have k9 := q24_up (z := (Int.toNat size_a0)) k_ff g_f1
    have hI := jv_set hI c9 oq (by rw [g_forms_a0]; exact jq_e24 k9)
    have hF := fk_put hF g_forms_a0 (by simp [Lp, Lc]) oq
    have c_fr := c_fr.kept (oq _ (kn_ne g_rules_a0 g_forms_a0 (show (211 : Nat) ≠ 210 by decide)))
    have co_a0 := co_a0.kept (oq _ (kn_ne g_a0 g_forms_a0 (show (0 : Nat) ≠ 210 by decide)))
    have co_2 := co_2.kept (oq _ (kn_ne g_f1 g_forms_a0 (show (2 : Nat) ≠ 210 by decide)))
    obtain ⟨xf_3, exf_3⟩ : ∃ f9 : Nat → Option Nat, f9 = va_up ff (Int.toNat size_a0) (some f1) := ⟨_, rfl⟩
    rw [← exf_3] at c9 k9
    have c_xf_3 := c9
    obtain ⟨X, hup9, hI, hc_4⟩ := jv_up ((Int.toNat size_a0) + 1) hI g_forms_a0 c_xf_3 k9 (by rw [exf_3]; exact up_some (fun j hj => (k_ff j (by omega)).2 (by omega)))
    have hF := fk_up hup9 hF
    have g_a0 := up_t hup9 g_a0
    have g_f1 := up_t hup9 g_f1
    have g_forms_a0 := up_t hup9 g_forms_a0
    have g_rules_a0 := up_t hup9 g_rules_a0
    have x_a0_0 : size_a0 ≤ (X.2.1 forms_a0 : Int) := by have h9 := (hup9.2.2 forms_a0).1; omega
    have hU := up_U hup9 hU
    have hT := jup_tr hT hup9
    have hCO := fun a9 (ha9 : lst ff size_a0 = some a9) => co_up hup9 (hCO a9 ha9)
    have hct := ct_up hup9 g_f1 hct
    have k_xf_3 := kq24 hI g_forms_a0 c_xf_3
    have k_fr := kq25 hI g_rules_a0 c_fr
    clear oq c9 k9 hup9
    refine lv_aload_n hx hb dX0_append_19 rfl (lv_at hl 0 rfl) ?_
    refine iz_get (D := (dC, dI)) (ci := 0) (v := .ref rules_a0) (C := RX0) (T := TX0) (N := 3) hx hb hts hinX0 hown hK co_a0 rfl 1 (by decide) hL19 (fun _ h9 => h9) rfl dX0_append_20 ?_
    refine lv_aload_n hx hb dX0_append_23 rfl (lv_at hl 0 rfl) ?_
    refine iz_get (D := (dC, dI)) (ci := 0) (v := .int (kz size_a0)) (C := RX0) (T := TX0) (N := 3) hx hb hts hinX0 hown hK co_a0 rfl 2 (by decide) hL23 (fun _ h9 => h9) rfl dX0_append_24 ?_
    refine lv_aload_nN hx hb dX0_append_27 rfl (lv_at hl 2 rfl) ?_
    refine jz_aastN hx hb hK 5 c_fr rfl hS (jv_A hI g_rules_a0 (show (25 : Nat) ≠ 0 by decide)) (by omega) (by decide) dX0_append_28 (fun H locs c9 oq hS => ?_)
    have k9 := q25_upN (z := (Int.toNat size_a0)) k_fr
    have hI := jv_set hI c9 oq (by rw [g_rules_a0]; exact jq_e25 k9)
    have hF := fk_put hF g_rules_a0 (by simp [Lp, Lc]) oq
    have c_xf_3 := c_xf_3.kept (oq _ (kn_ne g_forms_a0 g_rules_a0 (show (210 : Nat) ≠ 211 by decide)))
    have co_a0 := co_a0.kept (oq _ (kn_ne g_a0 g_rules_a0 (show (0 : Nat) ≠ 211 by decide)))
    obtain ⟨xf_5, exf_5⟩ : ∃ f9 : Nat → Option Nat, f9 = va_up fr (Int.toNat size_a0) none := ⟨_, rfl⟩
    rw [← exf_5] at c9 k9
    have c_xf_5 := c9
    have k_xf_3 := kq24 hI g_forms_a0 c_xf_3
    have k_xf_5 := kq25 hI g_rules_a0 c_xf_5
    clear oq c9 k9
    refine lv_aload_n hx hb dX0_append_29 rfl (lv_at hl 0 rfl) ?_
    refine lv_dup hx hb dX0_append_30 rfl ?_
    refine iz_get (D := (dC, dI)) (ci := 0) (v := .int (kz size_a0)) (C := RX0) (T := TX0) (N := 3) hx hb hts hinX0 hown hK co_a0 rfl 2 (by decide) hL23 (fun _ h9 => h9) rfl dX0_append_31 ?_
    refine lv_iconst (v := kz 1) hx hb dX0_append_34 rfl ?_
    refine iz_iadd hx hb dX0_append_35 ?_
    refine iz_put (D := (dC, dI)) (ci := 0) (v := .int (kz (size_a0 + 1))) (ty := .int) (C := RX0) (T := TX0) (N := 3) hx hb hts hinX0 tyX0 tyX0_ok nmX0 hown hK co_a0 hS (jv_A hI g_a0 (show (30 : Nat) ≠ 0 by decide)) rfl 2 (by decide) hL23 (fun _ h9 => h9) rfl (by decide +kernel) rfl rfl (Nat.le_of_ble_eq_true rfl) dX0_append_36 (fun H locs c9 oq hS => ?_)
    have hI := jv_set hI c9 oq (by rw [g_a0]; exact jv_c0 ⟨forms_a0, rules_a0, (size_a0 + 1), rfl, g_forms_a0, g_rules_a0, ⟨by omega, by omega⟩, by omega⟩)
    have hF := fk_put hF g_a0 (by simp [Lp, Lc]) oq
    have c_xf_3 := c_xf_3.kept (oq _ (kn_ne g_forms_a0 g_a0 (show (210 : Nat) ≠ 0 by decide)))
    have c_xf_5 := c_xf_5.kept (oq _ (kn_ne g_rules_a0 g_a0 (show (211 : Nat) ≠ 0 by decide)))
    have co_a0 := c9
    clear oq c9
    exact W.vret hx hb hr (fun t9 ht hW => ⟨⟨X, rfl, hT, jK_warm hW ⟨hK, hN⟩, by rw [ht]; exact ⟨hI, fk_dn hT hF, ⟨a0, forms_a0, rules_a0, (size_a0 + 1), _, _, g_a0, g_forms_a0, g_rules_a0, co_a0, c_xf_3, c_xf_5, by omega, by omega, fun a9 ha9 => (by rw [exf_3, lst_up (by omega)] at ha9; cases ha9; rw [exf_5, lst_up (by omega)]; exact ⟨g_f1, hct⟩)⟩⟩⟩, hS.F ht⟩) hS.2.2 dX0_append_39
set_option maxHeartbeats 4000000 in
set_option maxRecDepth 100000 in
/-- X0_copyFrom -/
theorem c_copyFromX (l : Launch) (dC : Nat → ClassId) (dI : Nat → Nat → Nat) (ca : Nat → ClassId) (A : Nat → Prop) (X : jG) (hU : jU X) (Hp : Heap) (a0 : Nat) (ot : Nat) (id : Nat) (id2 : Nat) (forms_a0 : Nat) (rules_a0 : Nat) (size_a0 : Int) (forms_ot : Nat) (rules_ot : Nat) (size_ot : Int) (ff : Nat → Option Nat) (fr : Nat → Option Nat) (ff2 : Nat → Option Nat) (fr2 : Nat → Option Nat) (g_a0 : X.1 a0 = (0, 30, id, 0, 0)) (g_ot : X.1 ot = (0, 30, id2, 0, 0)) (g_forms_a0 : X.1 forms_a0 = (210, 24, 40, 2, (id : Int))) (g_rules_a0 : X.1 rules_a0 = (211, 25, 40, 7, (id : Int))) (size_a0i : 0 ≤ size_a0 ∧ size_a0 ≤ 40) (x_a0_0 : size_a0 ≤ (X.2.1 forms_a0 : Int)) (g_forms_ot : X.1 forms_ot = (210, 24, 40, 2, (id2 : Int))) (g_rules_ot : X.1 rules_ot = (211, 25, 40, 7, (id2 : Int))) (size_oti : 0 ≤ size_ot ∧ size_ot ≤ 40) (x_ot_0 : size_ot ≤ (X.2.1 forms_ot : Int)) (hid : id ≠ id2) (hCO : ∀ a : Nat, lst ff2 size_ot = some a → X.1 a = (2, 30, 0, 0, 0) ∧ cutv X (lst fr2 size_ot) ≤ (X.2.1 a : Int)) : Met l yX0_copyFrom wsX0_copyFrom ({ frames := 0, cells := 0, slots := 0, locals := 0 }) (va_Pc [.ref a0, .ref ot] (fun U => U.heap = Hp ∧ jK (dC, dI) ca U ∧ jv (dC, dI) ca A X U.heap ∧ va_at (dC, dI) vwCl (a0, .inr (0, [.ref forms_a0, .ref rules_a0, .int (kz size_a0)])) U.heap ∧ va_at (dC, dI) vwCl (ot, .inr (0, [.ref forms_ot, .ref rules_ot, .int (kz size_ot)])) U.heap ∧ va_at (dC, dI) vwCl (forms_a0, je_q ca 40 24 ff) U.heap ∧ va_at (dC, dI) vwCl (rules_a0, je_q ca 40 25 fr) U.heap ∧ va_at (dC, dI) vwCl (forms_ot, je_q ca 40 24 ff2) U.heap ∧ va_at (dC, dI) vwCl (rules_ot, je_q ca 40 25 fr2) U.heap)) (va_Qv (fun (u : jG) => jup X u) (fun (u : jG) U => jK (dC, dI) ca U ∧ jv (dC, dI) ca A u U.heap ∧ kfk X (Lc id) Hp U.heap ∧ pch (dC, dI) ca u id U.heap) A) 0 0 A := by
  refine Met.ofW (cc := cX0_copyFrom) (maxL := 3) (ret := none) (by decide) rfl ?_
  intro p e s m args below meth c s₁ B hml hv
  obtain ⟨rfl, hHp, ⟨hK, hN⟩, hI, co_a0, co_ot, c_ff, c_fr, c_ff2, c_fr2⟩ := hv
  have hx := B.exec
  have hb := B.bytes
  have hr := B.returns
  have hts := atoms_spec (ws := wsX0_copyFrom) B.pre
  have hown : s.vm.findClass RX0 = some m.cls := findClass_of_methodNamed B.named
  have hL23 := hts (.fieldLink RX0 23 "JoinBench$Chain" "size" "I") (by decide +kernel)
  have hL11 := hts (.fieldLink RX0 11 "JoinBench$Chain" "forms" "[LJoinBench$Form;") (by decide +kernel)
  have hL19 := hts (.fieldLink RX0 19 "JoinBench$Chain" "rules" "[LJoinBench$Rule;") (by decide +kernel)
  have hinX0 : ∀ w ∈ u_ws RX0 TX0 3, w ∈ wsX0_copyFrom := by decide +kernel
  obtain ⟨H, hH⟩ : ∃ H : Heap, H = s.heap := ⟨_, rfl⟩
  have hS : va_S A s.heap H [] := by rw [hH]; exact va_S.rf
  have hF : kfk X (Lc id) Hp H := by rw [hH, hHp]; exact fk_rf _ _ _
  have hT := jup_rf X
  rw [← hH] at hI co_a0 co_ot c_ff c_fr c_ff2 c_fr2 ⊢
  clear hH
  have k_ff := kq24 hI g_forms_a0 c_ff
  have k_fr := kq25 hI g_rules_a0 c_fr
  have k_ff2 := kq24 hI g_forms_ot c_ff2
  have k_fr2 := kq25 hI g_rules_ot c_fr2
  have hl := lv_entry ([.ref a0, .ref ot]) (n := 3) (Nat.le_of_ble_eq_true rfl)
  rw [lg_entry_eq]
  generalize (lg_sl ([.ref a0, .ref ot]) ++ List.replicate (3 - (lg_sl ([.ref a0, .ref ot])).length) Slot.unset).toArray = ls at hl ⊢
  have hl : lv_has ls 3 [(0, .ref a0), (1, .ref ot)] := hl
  refine lv_iconst (v := kz 0) hx hb dX0_copyFrom_0 rfl ?_
  refine lv_istore_n (lv' := [(2, .int (kz 0)), (0, .ref a0), (1, .ref ot)]) hx hb dX0_copyFrom_1 rfl hl (by decide) rfl (fun ls hl => ?_)
  refine iz_loopA1 (α := jG × (Nat → Option Nat) × (Nat → Option Nat)) (P := fun N9 u9 k H locs ls => (0 ≤ k) ∧ (k ≤ 40) ∧ (k ≤ (u9.1.2.1 forms_a0 : Int)) ∧ (∀ j : Nat, (j : Int) < k → u9.2.1 j = ff2 j) ∧ (∀ j : Nat, (j : Int) < k → u9.2.2 j = fr2 j) ∧ (40 - k ≤ (N9 : Int)) ∧ lv_has ls 3 [(2, .int (kz k)), (0, .ref a0), (1, .ref ot)] ∧ jup X u9.1 ∧ jv (dC, dI) ca A u9.1 H ∧ va_S A s.heap H locs ∧ kfk u9.1 (Lc id) Hp H ∧ va_at (dC, dI) vwCl (a0, .inr (0, [.ref forms_a0, .ref rules_a0, .int (kz size_a0)])) H ∧ va_at (dC, dI) vwCl (ot, .inr (0, [.ref forms_ot, .ref rules_ot, .int (kz size_ot)])) H ∧ va_at (dC, dI) vwCl (forms_a0, je_q ca 40 24 u9.2.1) H ∧ va_at (dC, dI) vwCl (rules_a0, je_q ca 40 25 u9.2.2) H ∧ va_at (dC, dI) vwCl (forms_ot, je_q ca 40 24 ff2) H ∧ va_at (dC, dI) vwCl (rules_ot, je_q ca 40 25 fr2) H) 100000 (X, ff, fr) (x0 := 0) ?_ ⟨by omega, by omega, by omega, fun j hj => by omega, fun j hj => by omega, by omega, lv_sub hl [0, 1, 2] rfl, jup_rf _, hI, hS, hF, co_a0, co_ot, c_ff, c_fr, c_ff2, c_fr2⟩
  intro n_1 ⟨X, xf, xr⟩ k H locs ls ⟨f0, f1, f2, f3, f4, f5, hl, hT9, hI, hS, hF, co_a0, co_ot, c_xf, c_xr, c_ff2, c_fr2⟩ ihn_1
  have f2 : k ≤ (X.2.1 forms_a0 : Int) := f2
  have f3 : ∀ j : Nat, (j : Int) < k → xf j = ff2 j := f3
  have f4 : ∀ j : Nat, (j : Int) < k → xr j = fr2 j := f4
  dsimp only at hT9
  have hI : jv (dC, dI) ca A X H := hI
  have hF : kfk X (Lc id) Hp H := hF
  have c_xf : va_at (dC, dI) vwCl (forms_a0, je_q ca 40 24 xf) H := c_xf
  have c_xr : va_at (dC, dI) vwCl (rules_a0, je_q ca 40 25 xr) H := c_xr
  have g_a0 := up_t hT9 g_a0
  have g_ot := up_t hT9 g_ot
  have g_forms_a0 := up_t hT9 g_forms_a0
  have g_rules_a0 := up_t hT9 g_rules_a0
  have g_forms_ot := up_t hT9 g_forms_ot
  have g_rules_ot := up_t hT9 g_rules_ot
  have x_a0_0 : size_a0 ≤ (X.2.1 forms_a0 : Int) := by have h9 := (hT9.2.2 forms_a0).1; omega
  have x_ot_0 : size_ot ≤ (X.2.1 forms_ot : Int) := by have h9 := (hT9.2.2 forms_ot).1; omega
  have hU := up_U hT9 hU
  have hT := jup_tr hT hT9
  have hCO := fun a9 (ha9 : lst ff2 size_ot = some a9) => co_up hT9 (hCO a9 ha9)
  have k_xf := kq24 hI g_forms_a0 c_xf
  have k_xr := kq25 hI g_rules_a0 c_xr
  have k_ff2 := kq24 hI g_forms_ot c_ff2
  have k_fr2 := kq25 hI g_rules_ot c_fr2
  refine lv_iload_n hx hb dX0_copyFrom_2 rfl (lv_at hl 0 rfl) ?_
  refine lv_aload_n hx hb dX0_copyFrom_3 rfl (lv_at hl 2 rfl) ?_
  refine iz_get (D := (dC, dI)) (ci := 0) (v := .int (kz size_ot)) (C := RX0) (T := TX0) (N := 3) hx hb hts hinX0 hown hK co_ot rfl 2 (by decide) hL23 (fun _ h9 => h9) rfl dX0_copyFrom_4 ?_
  refine iz_ge (tgt := 40) hx hb dX0_copyFrom_7 (by decide) (by unfold rg2; omega) (fun br_2 => ?_) (fun br_2 => ?_)
  · refine lv_aload_n hx hb dX0_copyFrom_40 rfl (lv_at hl 1 rfl) ?_
    refine lv_aload_n hx hb dX0_copyFrom_41 rfl (lv_at hl 2 rfl) ?_
    refine iz_get (D := (dC, dI)) (ci := 0) (v := .int (kz size_ot)) (C := RX0) (T := TX0) (N := 3) hx hb hts hinX0 hown hK co_ot rfl 2 (by decide) hL23 (fun _ h9 => h9) rfl dX0_copyFrom_42 ?_
    refine iz_put (D := (dC, dI)) (ci := 0) (v := .int (kz size_ot)) (ty := .int) (C := RX0) (T := TX0) (N := 3) hx hb hts hinX0 tyX0 tyX0_ok nmX0 hown hK co_a0 hS (jv_A hI g_a0 (show (30 : Nat) ≠ 0 by decide)) rfl 2 (by decide) hL23 (fun _ h9 => h9) rfl (by decide +kernel) rfl rfl (Nat.le_of_ble_eq_true rfl) dX0_copyFrom_45 (fun H locs c9 oq hS => ?_)
    have hI := jv_set hI c9 oq (by rw [g_a0]; exact jv_c0 ⟨forms_a0, rules_a0, size_ot, rfl, g_forms_a0, g_rules_a0, ⟨by omega, by omega⟩, by omega⟩)
    have hF := fk_put hF g_a0 (by simp [Lp, Lc]) oq
    have co_ot := co_ot.kept (oq _ (kn_nT g_ot g_a0 (ne0 hid.symm)))
    have c_xf := c_xf.kept (oq _ (kn_ne g_forms_a0 g_a0 (show (210 : Nat) ≠ 0 by decide)))
    have c_xr := c_xr.kept (oq _ (kn_ne g_rules_a0 g_a0 (show (211 : Nat) ≠ 0 by decide)))
    have c_ff2 := c_ff2.kept (oq _ (kn_ne g_forms_ot g_a0 (show (210 : Nat) ≠ 0 by decide)))
    have c_fr2 := c_fr2.kept (oq _ (kn_ne g_rules_ot g_a0 (show (211 : Nat) ≠ 0 by decide)))
    have co_a0 := c9
    clear oq c9
    exact W.vret hx hb hr (fun t9 ht hW => ⟨⟨X, rfl, hT, jK_warm hW ⟨hK, hN⟩, by rw [ht]; exact ⟨hI, fk_dn hT hF, ⟨a0, forms_a0, rules_a0, size_ot, _, _, g_a0, g_forms_a0, g_rules_a0, co_a0, c_xf, c_xr, by omega, by omega, fun a9 ha9 => (by rw [lst_eq (g := ff2) (fun j hj => f3 j (by omega))] at ha9; rw [lst_eq (f := xr) (g := fr2) (fun j hj => f4 j (by omega))]; exact hCO a9 ha9)⟩⟩⟩, hS.F ht⟩) hS.2.2 dX0_copyFrom_48
  · refine lv_aload_n hx hb dX0_copyFrom_10 rfl (lv_at hl 1 rfl) ?_
    refine iz_get (D := (dC, dI)) (ci := 0) (v := .ref forms_a0) (C := RX0) (T := TX0) (N := 3) hx hb hts hinX0 hown hK co_a0 rfl 0 (by decide) hL11 (fun _ h9 => h9) rfl dX0_copyFrom_11 ?_
    refine lv_iload_n hx hb dX0_copyFrom_14 rfl (lv_at hl 0 rfl) ?_
    refine lv_aload_n hx hb dX0_copyFrom_15 rfl (lv_at hl 2 rfl) ?_
    refine iz_get (D := (dC, dI)) (ci := 0) (v := .ref forms_ot) (C := RX0) (T := TX0) (N := 3) hx hb hts hinX0 hown hK co_ot rfl 0 (by decide) hL11 (fun _ h9 => h9) rfl dX0_copyFrom_16 ?_
    refine lv_iload_n hx hb dX0_copyFrom_19 rfl (lv_at hl 0 rfl) ?_
    refine jz_aald hx hb hK 4 c_ff2 rfl rfl (by omega) (by decide) dX0_copyFrom_20 ?_
    obtain ⟨b_3, eb_3⟩ : ∃ b9 : Nat, ff2 (Int.toNat k) = some b9 := Option.ne_none_iff_exists'.mp ((k_ff2 (Int.toNat k) (by omega)).2 (by omega))
    have g_b_3 := (k_ff2 (Int.toNat k) (by omega)).1 b_3 eb_3
    rw [eb_3]
    refine W.eq (g2 := F0 m 21 ls [.ref b_3, .int (kz k), .ref forms_a0]) rfl ?_
    obtain ⟨fs9, co_4, jo9⟩ := jv_o2 hI g_b_3
    obtain ⟨ln_4, letters_4, kind_4, stem_4, kept_4, cost_4, number_4, ends_4, begins_4, rfl, g_letters_4, ⟨kind_4a, kind_4b⟩, ⟨stem_4a, stem_4b⟩, ⟨kept_4a, kept_4b⟩, ⟨cost_4a, cost_4b⟩, ⟨number_4a, number_4b⟩, ⟨ends_4a, ends_4b⟩, ⟨begins_4a, begins_4b⟩, x_4_0, x_4_1, x_4_2, x_4_3⟩ := jo9
    refine jz_aast hx hb hK 4 2 c_xf co_4 rfl rfl hS (jv_A hI g_forms_a0 (show (24 : Nat) ≠ 0 by decide)) (by omega) (by decide) dX0_copyFrom_21 (fun H locs c9 oq hS => ?_)
    have k9 := q24_up (z := (Int.toNat k)) k_xf g_b_3
    have hI := jv_set hI c9 oq (by rw [g_forms_a0]; exact jq_e24 k9)
    have hF := fk_put hF g_forms_a0 (by simp [Lp, Lc]) oq
    have c_xr := c_xr.kept (oq _ (kn_ne g_rules_a0 g_forms_a0 (show (211 : Nat) ≠ 210 by decide)))
    have c_ff2 := c_ff2.kept (oq _ (kn_nT g_forms_ot g_forms_a0 (ne210 hid.symm)))
    have c_fr2 := c_fr2.kept (oq _ (kn_ne g_rules_ot g_forms_a0 (show (211 : Nat) ≠ 210 by decide)))
    have co_a0 := co_a0.kept (oq _ (kn_ne g_a0 g_forms_a0 (show (0 : Nat) ≠ 210 by decide)))
    have co_ot := co_ot.kept (oq _ (kn_ne g_ot g_forms_a0 (show (0 : Nat) ≠ 210 by decide)))
    have co_4 := co_4.kept (oq _ (kn_ne g_b_3 g_forms_a0 (show (2 : Nat) ≠ 210 by decide)))
    obtain ⟨xf_5, exf_5⟩ : ∃ f9 : Nat → Option Nat, f9 = va_up xf (Int.toNat k) (some b_3) := ⟨_, rfl⟩
    rw [← exf_5] at c9 k9
    have c_xf_5 := c9
    obtain ⟨X, hup9, hI, hc_6⟩ := jv_up ((Int.toNat k) + 1) hI g_forms_a0 c_xf_5 k9 (by rw [exf_5]; exact up_some (fun j hj => (k_xf j (by omega)).2 (by omega)))
    have hF := fk_up hup9 hF
    have g_a0 := up_t hup9 g_a0
    have g_ot := up_t hup9 g_ot
    have g_forms_a0 := up_t hup9 g_forms_a0
    have g_rules_a0 := up_t hup9 g_rules_a0
    have g_forms_ot := up_t hup9 g_forms_ot
    have g_rules_ot := up_t hup9 g_rules_ot
    have x_a0_0 : size_a0 ≤ (X.2.1 forms_a0 : Int) := by have h9 := (hup9.2.2 forms_a0).1; omega
    have x_ot_0 : size_ot ≤ (X.2.1 forms_ot : Int) := by have h9 := (hup9.2.2 forms_ot).1; omega
    have hU := up_U hup9 hU
    have hT := jup_tr hT hup9
    have hT9 := jup_tr hT9 hup9
    have hCO := fun a9 (ha9 : lst ff2 size_ot = some a9) => co_up hup9 (hCO a9 ha9)
    have k_xf_5 := kq24 hI g_forms_a0 c_xf_5
    have k_xr := kq25 hI g_rules_a0 c_xr
    have k_ff2 := kq24 hI g_forms_ot c_ff2
    have k_fr2 := kq25 hI g_rules_ot c_fr2
    clear oq c9 k9 hup9
    refine lv_aload_n hx hb dX0_copyFrom_22 rfl (lv_at hl 1 rfl) ?_
    refine iz_get (D := (dC, dI)) (ci := 0) (v := .ref rules_a0) (C := RX0) (T := TX0) (N := 3) hx hb hts hinX0 hown hK co_a0 rfl 1 (by decide) hL19 (fun _ h9 => h9) rfl dX0_copyFrom_23 ?_
    refine lv_iload_n hx hb dX0_copyFrom_26 rfl (lv_at hl 0 rfl) ?_
    refine lv_aload_n hx hb dX0_copyFrom_27 rfl (lv_at hl 2 rfl) ?_
    refine iz_get (D := (dC, dI)) (ci := 0) (v := .ref rules_ot) (C := RX0) (T := TX0) (N := 3) hx hb hts hinX0 hown hK co_ot rfl 1 (by decide) hL19 (fun _ h9 => h9) rfl dX0_copyFrom_28 ?_
    refine lv_iload_n hx hb dX0_copyFrom_31 rfl (lv_at hl 0 rfl) ?_
    refine jz_aald hx hb hK 5 c_fr2 rfl rfl (by omega) (by decide) dX0_copyFrom_32 ?_
    rcases eb_7 : fr2 (Int.toNat k) with _ | b_7
    · refine W.eq (g2 := F0 m 33 ls [.null, .int (kz k), .ref rules_a0]) rfl ?_
      refine jz_aastN hx hb hK 5 c_xr rfl hS (jv_A hI g_rules_a0 (show (25 : Nat) ≠ 0 by decide)) (by omega) (by decide) dX0_copyFrom_33 (fun H locs c9 oq hS => ?_)
      have k9 := q25_upN (z := (Int.toNat k)) k_xr
      have hI := jv_set hI c9 oq (by rw [g_rules_a0]; exact jq_e25 k9)
      have hF := fk_put hF g_rules_a0 (by simp [Lp, Lc]) oq
      have c_xf_5 := c_xf_5.kept (oq _ (kn_ne g_forms_a0 g_rules_a0 (show (210 : Nat) ≠ 211 by decide)))
      have c_ff2 := c_ff2.kept (oq _ (kn_ne g_forms_ot g_rules_a0 (show (210 : Nat) ≠ 211 by decide)))
      have c_fr2 := c_fr2.kept (oq _ (kn_nT g_rules_ot g_rules_a0 (ne211 hid.symm)))
      have co_a0 := co_a0.kept (oq _ (kn_ne g_a0 g_rules_a0 (show (0 : Nat) ≠ 211 by decide)))
      have co_ot := co_ot.kept (oq _ (kn_ne g_ot g_rules_a0 (show (0 : Nat) ≠ 211 by decide)))
      obtain ⟨xf_8, exf_8⟩ : ∃ f9 : Nat → Option Nat, f9 = va_up xr (Int.toNat k) none := ⟨_, rfl⟩
      rw [← exf_8] at c9 k9
      have c_xf_8 := c9
      have k_xf_5 := kq24 hI g_forms_a0 c_xf_5
      have k_xf_8 := kq25 hI g_rules_a0 c_xf_8
      have k_ff2 := kq24 hI g_forms_ot c_ff2
      have k_fr2 := kq25 hI g_rules_ot c_fr2
      clear oq c9 k9
      refine lv_iinc (v := kz (k + 1)) (lv' := [(2, .int (kz (k + 1))), (0, .ref a0), (1, .ref ot)]) hx hb dX0_copyFrom_34 hl (k := 0) rfl (kz_add k 1) (by decide) rfl (fun ls hl => ?_)
      refine lv_goto (tgt := 2) hx hb dX0_copyFrom_37 (by decide) ?_
      exact ihn_1 (n_1 - 1) (by omega) (X, xf_5, xf_8) (k + 1) _ _ _ ⟨by omega, by omega, by show _ ≤ (X.2.1 forms_a0 : Int); omega, up_cp (by omega) f3 exf_5 eb_3, up_cp (by omega) f4 exf_8 eb_7, by omega, lv_sub hl [0, 1, 2] rfl, hT9, hI, hS, hF, co_a0, co_ot, c_xf_5, c_xf_8, c_ff2, c_fr2⟩
    · obtain ⟨i_b_7, g_b_7⟩ := k_fr2 (Int.toNat k) (by omega) b_7 eb_7
      refine W.eq (g2 := F0 m 33 ls [.ref b_7, .int (kz k), .ref rules_a0]) rfl ?_
      obtain ⟨fs9, co_9, jo9⟩ := jv_o7 hI g_b_7
      obtain ⟨ln_9, letters_9, endSize_9, beginningSize_9, comesFrom_9, comesSize_9, cost_9, firstDay_9, lastDay_9, number_9, rfl, g_letters_9, ⟨endSize_9a, endSize_9b⟩, ⟨beginningSize_9a, beginningSize_9b⟩, ⟨comesFrom_9a, comesFrom_9b⟩, ⟨comesSize_9a, comesSize_9b⟩, ⟨cost_9a, cost_9b⟩, ⟨firstDay_9a, firstDay_9b⟩, ⟨lastDay_9a, lastDay_9b⟩, ⟨number_9a, number_9b⟩, x_9_0, x_9_1, x_9_2, x_9_3, x_9_4, x_9_5⟩ := jo9
      refine jz_aast hx hb hK 5 7 c_xr co_9 rfl rfl hS (jv_A hI g_rules_a0 (show (25 : Nat) ≠ 0 by decide)) (by omega) (by decide) dX0_copyFrom_33 (fun H locs c9 oq hS => ?_)
      have k9 := q25_up (z := (Int.toNat k)) k_xr g_b_7
      have hI := jv_set hI c9 oq (by rw [g_rules_a0]; exact jq_e25 k9)
      have hF := fk_put hF g_rules_a0 (by simp [Lp, Lc]) oq
      have c_xf_5 := c_xf_5.kept (oq _ (kn_ne g_forms_a0 g_rules_a0 (show (210 : Nat) ≠ 211 by decide)))
      have c_ff2 := c_ff2.kept (oq _ (kn_ne g_forms_ot g_rules_a0 (show (210 : Nat) ≠ 211 by decide)))
      have c_fr2 := c_fr2.kept (oq _ (kn_nT g_rules_ot g_rules_a0 (ne211 hid.symm)))
      have co_a0 := co_a0.kept (oq _ (kn_ne g_a0 g_rules_a0 (show (0 : Nat) ≠ 211 by decide)))
      have co_ot := co_ot.kept (oq _ (kn_ne g_ot g_rules_a0 (show (0 : Nat) ≠ 211 by decide)))
      have co_9 := co_9.kept (oq _ (kn_ne g_b_7 g_rules_a0 (show (7 : Nat) ≠ 211 by decide)))
      obtain ⟨xf_10, exf_10⟩ : ∃ f9 : Nat → Option Nat, f9 = va_up xr (Int.toNat k) (some b_7) := ⟨_, rfl⟩
      rw [← exf_10] at c9 k9
      have c_xf_10 := c9
      have k_xf_5 := kq24 hI g_forms_a0 c_xf_5
      have k_xf_10 := kq25 hI g_rules_a0 c_xf_10
      have k_ff2 := kq24 hI g_forms_ot c_ff2
      have k_fr2 := kq25 hI g_rules_ot c_fr2
      clear oq c9 k9
      refine lv_iinc (v := kz (k + 1)) (lv' := [(2, .int (kz (k + 1))), (0, .ref a0), (1, .ref ot)]) hx hb dX0_copyFrom_34 hl (k := 0) rfl (kz_add k 1) (by decide) rfl (fun ls hl => ?_)
      refine lv_goto (tgt := 2) hx hb dX0_copyFrom_37 (by decide) ?_
      exact ihn_1 (n_1 - 1) (by omega) (X, xf_5, xf_10) (k + 1) _ _ _ ⟨by omega, by omega, by show _ ≤ (X.2.1 forms_a0 : Int); omega, up_cp (by omega) f3 exf_5 eb_3, up_cp (by omega) f4 exf_10 eb_7, by omega, lv_sub hl [0, 1, 2] rfl, hT9, hI, hS, hF, co_a0, co_ot, c_xf_5, c_xf_10, c_ff2, c_fr2⟩
