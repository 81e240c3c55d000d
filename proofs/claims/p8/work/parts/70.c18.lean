theorem st_all {P : Nat → Prop} {k : Int} (h0 : 0 ≤ k) (h : ∀ j : Nat, (j : Int) < k → P j) (hk : P k.toNat) : ∀ j : Nat, (j : Int) < k + 1 → P j := by
  intro j hj
  by_cases e : (j : Int) = k
  · rw [show j = k.toNat by omega]
    exact hk
  · exact h j (by omega)
theorem if_some {c : Prop} {hc : Decidable c} {x : Option Nat} {b : Nat} (h : some b = if c then x else none) : c ∧ x = some b := by
  by_cases e : c
  · rw [if_pos e] at h
    exact ⟨e, h.symm⟩
  · rw [if_neg e] at h
    cases h
set_option maxHeartbeats 4000000 in
set_option maxRecDepth 100000 in
/-- X4_pathOfRank -/
theorem c_pathOfRank (l : Launch) (dC : Nat → ClassId) (dI : Nat → Nat → Nat) (ca : Nat → ClassId) (A : Nat → Prop) (X : jG) (hU : jU X) (a0 : Nat) (rk9 : Int) (tf : Nat → Option Nat) (rk : Nat → Int) (G : Nat → Int → Prop) (pp_a0 : Int) (countedUncut_a0 : Int64) (counted_a0 : Int64) (left_a0 : Int) (told_a0 : Nat) (toldCount_a0 : Int) (grown_a0 : Nat) (keys_a0 : Nat) (keyCount_a0 : Int) (tongue_a0 : Nat) (lattice_a0 : Nat) (g_a0 : X.1 a0 = (4, 30, 0, 0, 0)) (left_a0i : 0 ≤ left_a0 ∧ left_a0 ≤ 1) (g_told_a0 : X.1 told_a0 = (226, 26, 8, pp_a0, 0)) (toldCount_a0i : 0 ≤ toldCount_a0 ∧ toldCount_a0 ≤ 8) (g_grown_a0 : X.1 grown_a0 = (226, 26, 8, 1 - pp_a0, 0)) (g_keys_a0 : X.1 keys_a0 = (228, 20, 8, -2147483648, 2147483647)) (keyCount_a0i : 0 ≤ keyCount_a0 ∧ keyCount_a0 ≤ 8) (g_tongue_a0 : X.1 tongue_a0 = (9, 30, 0, 0, 0)) (g_lattice_a0 : X.1 lattice_a0 = (3, 30, 0, 0, 0)) (x_a0_0 : 0 ≤ pp_a0) (x_a0_1 : pp_a0 ≤ 1) (rk9r : -2147483648 ≤ rk9 ∧ rk9 ≤ 2147483647) (hex : ∃ j : Nat, (j : Int) < toldCount_a0 ∧ rk j = rk9) : Met l yX4_pathOfRank wsX4_pathOfRank ({ frames := 0, cells := 0, slots := 0, locals := 0 }) (va_Pc [.ref a0, .int (kz rk9)] (fun U => jK (dC, dI) ca U ∧ jv (dC, dI) ca A X U.heap ∧ va_at (dC, dI) vwCl (a0, .inr (4, [.long countedUncut_a0, .long counted_a0, .int (kz left_a0), .ref told_a0, .int (kz toldCount_a0), .ref grown_a0, .ref keys_a0, .int (kz keyCount_a0), .ref tongue_a0, .ref lattice_a0])) U.heap ∧ (∀ j : Nat, (j : Int) < toldCount_a0 → pok (dC, dI) ca X tf (8 * Int.toNat pp_a0 + j) (rk j) (G j) U.heap))) (va_Sq (fun r => ∃ j b : Nat, (j : Int) < toldCount_a0 ∧ rk j = rk9 ∧ r = some b ∧ X.1 b = (5, 30, 8 * Int.toNat pp_a0 + j, 0, 0))) 0 0 (fun _ => False) := by
  refine Met.ofW (cc := cX4_pathOfRank) (maxL := 3) (ret := (some (.object "JoinBench$Path"))) (by decide) rfl ?_
  intro p e s m args below meth c s₁ B hml hv
  obtain ⟨rfl, ⟨hK, hN⟩, hI, co_a0, hpk⟩ := hv
  have hx := B.exec
  have hb := B.bytes
  have hr := B.returns
  have hts := atoms_spec (ws := wsX4_pathOfRank) B.pre
  have hown : s.vm.findClass RX4 = some m.cls := findClass_of_methodNamed B.named
  have hL28 := hts (.fieldLink RX4 28 "JoinBench$Parter" "toldCount" "I") (by decide +kernel)
  have hL24 := hts (.fieldLink RX4 24 "JoinBench$Parter" "told" "[LJoinBench$Path;") (by decide +kernel)
  have hL127 := hts (.fieldLink RX4 127 "JoinBench$Path" "rank" "I") (by decide +kernel)
  have hinX4 : ∀ w ∈ u_ws RX4 TX4 10, w ∈ wsX4_pathOfRank := by decide +kernel
  have hinX5 : ∀ w ∈ u_ws RX5 TX5 6, w ∈ wsX4_pathOfRank := by decide +kernel
  have hl := lv_entry ([.ref a0, .int (kz rk9)]) (n := 3) (Nat.le_of_ble_eq_true rfl)
  rw [lg_entry_eq]
  generalize (lg_sl ([.ref a0, .int (kz rk9)]) ++ List.replicate (3 - (lg_sl ([.ref a0, .int (kz rk9)])).length) Slot.unset).toArray = ls at hl ⊢
  have hl : lv_has ls 3 [(0, .ref a0), (1, .int (kz rk9))] := hl
  refine lv_iconst (v := kz 0) hx hb dX4_pathOfRank_0 rfl ?_
  refine lv_istore_n (lv' := [(2, .int (kz 0)), (0, .ref a0), (1, .int (kz rk9))]) hx hb dX4_pathOfRank_1 rfl hl (by decide) rfl (fun ls hl => ?_)
  refine iz_loopS1 (P := fun N9 k ls => (0 ≤ k) ∧ (k ≤ toldCount_a0) ∧ (∀ j : Nat, (j : Int) < k → rk j ≠ rk9) ∧ 8 - k ≤ (N9 : Int) ∧ lv_has ls 3 [(2, .int (kz k)), (0, .ref a0), (1, .int (kz rk9))]) 100000 (x0 := 0) ?_ ⟨by omega, by omega, fun j hj => absurd hj (by omega), by omega, lv_sub hl [0, 1, 2] rfl⟩
  intro n_1 k ls ⟨n_1f0, n_1f1, n_1f2, n_1f3, hl⟩ ihn_1
  refine lv_iload_n hx hb dX4_pathOfRank_2 rfl (lv_at hl 0 rfl) ?_
  refine lv_aload_n hx hb dX4_pathOfRank_3 rfl (lv_at hl 1 rfl) ?_
  refine iz_get (D := (dC, dI)) (ci := 4) (v := .int (kz toldCount_a0)) (C := RX4) (T := TX4) (N := 10) hx hb hts hinX4 hown hK co_a0 rfl 4 (by decide) hL28 (fun _ h9 => h9) rfl dX4_pathOfRank_4 ?_
  refine iz_ge (tgt := 36) hx hb dX4_pathOfRank_7 (by decide) (by unfold rg2; omega) (fun br_2 => ?_) (fun br_2 => ?_)
  · exfalso
    obtain ⟨j9, q1, q2⟩ := hex
    exact n_1f2 j9 (by omega) q2
  · refine lv_aload_n hx hb dX4_pathOfRank_10 rfl (lv_at hl 1 rfl) ?_
    refine iz_get (D := (dC, dI)) (ci := 4) (v := .ref told_a0) (C := RX4) (T := TX4) (N := 10) hx hb hts hinX4 hown hK co_a0 rfl 3 (by decide) hL24 (fun _ h9 => h9) rfl dX4_pathOfRank_11 ?_
    refine lv_iload_n hx hb dX4_pathOfRank_14 rfl (lv_at hl 0 rfl) ?_
    obtain ⟨f_3, c_f_3, k_f_3⟩ := jv_q26 hI g_told_a0
    refine jz_aald hx hb hK 6 c_f_3 rfl rfl (by omega) (by decide) dX4_pathOfRank_15 ?_
    obtain ⟨b_4, eb_4, g_b_4⟩ := k_f_3 (Int.toNat k) (by omega)
    rw [eb_4]
    refine W.eq (g2 := F0 m 16 ls [.ref b_4]) rfl ?_
    obtain ⟨b9, ch_b_4, fo_b_4, ru_b_4, co_b_4, sp_b_4, pl_b_4, en_b_4, sz_b_4, ff_b_4, fr_b_4, gb9, gch_b_4, gfo_b_4, gru_b_4, cb_b_4, cch_b_4, cfo_b_4, cru_b_4, r1_b_4, r2_b_4, r3_b_4, r4_b_4, r5_b_4, r6_b_4, r7_b_4, rO_b_4, rG_b_4⟩ := hpk (Int.toNat k) (by omega)
    have e9 : b_4 = b9 := jU_eq hU g_b_4 gb9 (show (30 : Nat) ≠ 0 by decide) (show uq 5 = true by decide)
    subst e9
    clear gb9
    have kfo_b_4 := kq24 hI gfo_b_4 cfo_b_4
    have kru_b_4 := kq25 hI gru_b_4 cru_b_4
    refine iz_get (D := (dC, dI)) (ci := 5) (v := .int (kz (rk (Int.toNat k)))) (C := RX5) (T := TX5) (N := 6) hx hb hts hinX5 hown hK cb_b_4 rfl 5 (by decide) hL127 (fun _ h9 => h9) rfl dX4_pathOfRank_16 ?_
    refine lv_iload_n hx hb dX4_pathOfRank_19 rfl (lv_at hl 2 rfl) ?_
    refine iz_ne (tgt := 30) hx hb dX4_pathOfRank_20 (by decide) (by unfold rg2; omega) (fun br_5 => ?_) (fun br_5 => ?_)
    · refine lv_iinc (v := kz (k + 1)) (lv' := [(2, .int (kz (k + 1))), (0, .ref a0), (1, .int (kz rk9))]) hx hb dX4_pathOfRank_30 hl (k := 0) rfl (kz_add k 1) (by decide) rfl (fun ls hl => ?_)
      refine lv_goto (tgt := 2) hx hb dX4_pathOfRank_33 (by decide) ?_
      exact ihn_1 (n_1 - 1) (by omega) (k + 1) _ ⟨by omega, by omega, st_all (P := fun j => rk j ≠ rk9) (by omega) n_1f2 (by omega), by omega, lv_sub hl [0, 1, 2] rfl⟩
    · refine lv_aload_n hx hb dX4_pathOfRank_23 rfl (lv_at hl 1 rfl) ?_
      refine iz_get (D := (dC, dI)) (ci := 4) (v := .ref told_a0) (C := RX4) (T := TX4) (N := 10) hx hb hts hinX4 hown hK co_a0 rfl 3 (by decide) hL24 (fun _ h9 => h9) rfl dX4_pathOfRank_24 ?_
      refine lv_iload_n hx hb dX4_pathOfRank_27 rfl (lv_at hl 0 rfl) ?_
      refine jz_aald hx hb hK 6 c_f_3 rfl rfl (by omega) (by decide) dX4_pathOfRank_28 ?_
      rw [eb_4]
      refine W.eq (g2 := F0 m 29 ls [.ref b_4]) rfl ?_
      exact W.aret (v := .ref b_4) hx hb hr (Or.inl ⟨_, rfl⟩) (Or.inr ⟨_, rfl⟩) (fun t9 ht hW => ⟨some b_4, rfl, ⟨Int.toNat k, b_4, by omega, by omega, rfl, g_b_4⟩, ht⟩) (fun q h => absurd h List.not_mem_nil) dX4_pathOfRank_29
set_option maxHeartbeats 4000000 in
set_option maxRecDepth 100000 in
/-- X4_grow -/
theorem c_grow (l : Launch) (dC : Nat → ClassId) (dI : Nat → Nat → Nat) (ca : Nat → ClassId) (A : Nat → Prop) (X : jG) (hU : jU X) (Hp : Heap) (a0 : Nat) (pa : Nat) (ky : Int) (id : Nat) (rk : Nat → Int) (G : Nat → Int → Prop) (pp_a0 : Int) (countedUncut_a0 : Int64) (counted_a0 : Int64) (left_a0 : Int) (told_a0 : Nat) (toldCount_a0 : Int) (grown_a0 : Nat) (keys_a0 : Nat) (keyCount_a0 : Int) (tongue_a0 : Nat) (lattice_a0 : Nat) (chain_pa : Nat) (cost_pa : Int) (spent_pa : Int) (place_pa : Int) (ended_pa : Int) (rank_pa : Int) (forms_tg : Nat) (rules_tg : Nat) (formCount_tg : Int) (ruleCount_tg : Int) (forbidden_tg : Nat) (kf : Nat → Int32) (tf : Nat → Option Nat) (g_a0 : X.1 a0 = (4, 30, 0, 0, 0)) (g_pa : X.1 pa = (5, 30, id, 0, 0)) (left_a0i : 0 ≤ left_a0 ∧ left_a0 ≤ 1) (g_told_a0 : X.1 told_a0 = (226, 26, 8, pp_a0, 0)) (toldCount_a0i : 0 ≤ toldCount_a0 ∧ toldCount_a0 ≤ 8) (g_grown_a0 : X.1 grown_a0 = (226, 26, 8, 1 - pp_a0, 0)) (g_keys_a0 : X.1 keys_a0 = (228, 20, 8, -2147483648, 2147483647)) (keyCount_a0i : 0 ≤ keyCount_a0 ∧ keyCount_a0 ≤ 8) (g_tongue_a0 : X.1 tongue_a0 = (9, 30, 0, 0, 0)) (g_lattice_a0 : X.1 lattice_a0 = (3, 30, 0, 0, 0)) (x_a0_0 : 0 ≤ pp_a0) (x_a0_1 : pp_a0 ≤ 1) (g_chain_pa : X.1 chain_pa = (0, 30, id, 0, 0)) (cost_pai : -2147483648 ≤ cost_pa ∧ cost_pa ≤ 2147483647) (spent_pai : -2147483648 ≤ spent_pa ∧ spent_pa ≤ 2147483647) (place_pai : 0 ≤ place_pa ∧ place_pa ≤ 60) (ended_pai : 0 ≤ ended_pa ∧ ended_pa ≤ 1) (rank_pai : 0 ≤ rank_pa ∧ rank_pa ≤ 7) (g_forms_tg : X.1 forms_tg = (212, 24, 40, 2, 0)) (g_rules_tg : X.1 rules_tg = (213, 29, 24, 7, 0)) (formCount_tgi : 0 ≤ formCount_tg ∧ formCount_tg ≤ 40) (ruleCount_tgi : 0 ≤ ruleCount_tg ∧ ruleCount_tg ≤ 24) (g_forbidden_tg : X.1 forbidden_tg = (214, 22, 36, 0, 0)) (x_tg_0 : formCount_tg ≤ (X.2.1 forms_tg : Int)) (x_tg_1 : ruleCount_tg ≤ (X.2.1 rules_tg : Int)) (x_tg_2 : ruleCount_tg = (X.2.2.2 : Int)) (kyr : -2147483648 ≤ ky ∧ ky ≤ 2147483647) (hid : ∀ j : Nat, j < 8 → id ≠ 8 * Int.toNat pp_a0 + j) (hex : ∃ j : Nat, (j : Int) < toldCount_a0 ∧ rk j = ky / 2048 % 8 ∧ G j (ky % 2048)) (hdi : ∀ i j : Nat, (i : Int) < toldCount_a0 → (j : Int) < toldCount_a0 → rk i = rk j → i = j) (hki : kcnt kf (ky % 16384) (Int.toNat keyCount_a0) ≤ 7) : Met l yX4_grow wsX4_grow ({ frames := 3, cells := 0, slots := 0, locals := 63 }) (va_Pc [.ref a0, .ref pa, .int (kz ky)] (fun U => U.heap = Hp ∧ jK (dC, dI) ca U ∧ jv (dC, dI) ca A X U.heap ∧ va_at (dC, dI) vwCl (a0, .inr (4, [.long countedUncut_a0, .long counted_a0, .int (kz left_a0), .ref told_a0, .int (kz toldCount_a0), .ref grown_a0, .ref keys_a0, .int (kz keyCount_a0), .ref tongue_a0, .ref lattice_a0])) U.heap ∧ va_at (dC, dI) vwCl (pa, .inr (5, [.ref chain_pa, .int (kz cost_pa), .int (kz spent_pa), .int (kz place_pa), .int (kz ended_pa), .int (kz rank_pa)])) U.heap ∧ va_at (dC, dI) vwCl (tongue_a0, .inr (9, [.ref forms_tg, .ref rules_tg, .int (kz formCount_tg), .int (kz ruleCount_tg), .ref forbidden_tg])) U.heap ∧ va_at (dC, dI) vwCl (keys_a0, .inl (ca 20, 8, .inl kf)) U.heap ∧ va_at (dC, dI) vwCl (forms_tg, je_q ca 40 24 tf) U.heap ∧ (∀ j : Nat, (j : Int) < toldCount_a0 → pok (dC, dI) ca X tf (8 * Int.toNat pp_a0 + j) (rk j) (G j) U.heap))) (va_Qv (fun (u : jG) => jup X u) (fun (u : jG) U => jK (dC, dI) ca U ∧ jv (dC, dI) ca A u U.heap ∧ kfk X (Lp id) Hp U.heap ∧ ∃ Gp : Int → Prop, pok (dC, dI) ca u tf id (kcnt kf (ky % 16384) (Int.toNat keyCount_a0)) Gp U.heap) A) 0 0 A := by
  refine Met.ofW (cc := cX4_grow) (maxL := 8) (ret := none) (by decide) rfl ?_
  intro p e s m args below meth c s₁ B hml hv
  obtain ⟨rfl, hHp, ⟨hK, hN⟩, hI, co_a0, co_pa, co_tg, c_kf, c_tf, hpk⟩ := hv
  have hx := B.exec
  have hb := B.bytes
  have hr := B.returns
  have hts := atoms_spec (ws := wsX4_grow) B.pre
  have hown : s.vm.findClass RX4 = some m.cls := findClass_of_methodNamed B.named
  have hL96 := hts (.fieldLink RX4 96 "JoinBench$Path" "chain" "LJoinBench$Chain;") (by decide +kernel)
  have hL42 := hts (.fieldLink RX4 42 "JoinBench$Parter" "tongue" "LJoinBench$Tongue;") (by decide +kernel)
  have hL115 := hts (.fieldLink RX4 115 "JoinBench$Path" "cost" "I") (by decide +kernel)
  have hL127 := hts (.fieldLink RX4 127 "JoinBench$Path" "rank" "I") (by decide +kernel)
  have hL118 := hts (.fieldLink RX4 118 "JoinBench$Path" "spent" "I") (by decide +kernel)
  have hL121 := hts (.fieldLink RX4 121 "JoinBench$Path" "place" "I") (by decide +kernel)
  have hL82 := hts (.fieldLink RX4 82 "JoinBench$Path" "ended" "Z") (by decide +kernel)
  have hL153 := hts (.fieldLink RX4 153 "JoinBench$Form" "cost" "I") (by decide +kernel)
  have hL156 := hts (.fieldLink RX4 156 "JoinBench$Form" "letters" "[B") (by decide +kernel)
  have hL190 := hts (.fieldLink RX4 190 "JoinBench$Rule" "cost" "I") (by decide +kernel)
  have hL213 := hts (.fieldLink RX4 213 "JoinBench$Rule" "comesSize" "I") (by decide +kernel)
  have hL216 := hts (.fieldLink RX4 216 "JoinBench$Rule" "endSize" "I") (by decide +kernel)
  have hinX2 : ∀ w ∈ u_ws RX2 TX2 8, w ∈ wsX4_grow := by decide +kernel
  have hinX4 : ∀ w ∈ u_ws RX4 TX4 10, w ∈ wsX4_grow := by decide +kernel
  have hinX5 : ∀ w ∈ u_ws RX5 TX5 6, w ∈ wsX4_grow := by decide +kernel
  have hinX7 : ∀ w ∈ u_ws RX7 TX7 9, w ∈ wsX4_grow := by decide +kernel
  obtain ⟨H, hH⟩ : ∃ H : Heap, H = s.heap := ⟨_, rfl⟩
  have hS : va_S A s.heap H [] := by rw [hH]; exact va_S.rf
  have hF : kfk X (Lp id) Hp H := by rw [hH, hHp]; exact fk_rf _ _ _
  have hT := jup_rf X
  rw [← hH] at hI co_a0 co_pa co_tg c_kf c_tf hpk ⊢
  clear hH
  have k_kf := ok20_full (X := jk X) (a := keys_a0) (n := 8) kf
  have k_tf := kq24 hI g_forms_tg c_tf
  have hl := lv_entry ([.ref a0, .ref pa, .int (kz ky)]) (n := 8) (Nat.le_of_ble_eq_true rfl)
  rw [lg_entry_eq]
  generalize (lg_sl ([.ref a0, .ref pa, .int (kz ky)]) ++ List.replicate (8 - (lg_sl ([.ref a0, .ref pa, .int (kz ky)])).length) Slot.unset).toArray = ls at hl ⊢
  have hl : lv_has ls 8 [(0, .ref a0), (1, .ref pa), (2, .int (kz ky))] := hl
  have hk0 := (kcnt_le kf (ky % 16384) (Int.toNat keyCount_a0)).1
  refine lv_aload_n hx hb dX4_grow_0 rfl (lv_at hl 0 rfl) ?_
  refine lv_iload_n hx hb dX4_grow_1 rfl (lv_at hl 2 rfl) ?_
  refine lv_bipush (v := kz 11) hx hb dX4_grow_2 (by decide) ?_
  refine lv_ishr hx hb dX4_grow_4 ?_
  refine iz_any (fun z_1 z_1a z_1b z_1e => ?_)
  refine lv_bipush (v := kz 7) hx hb dX4_grow_5 (by decide) ?_
  refine iz_iand hx hb dX4_grow_7 (by decide) (fun z_2 z_2a z_2b z_2e => ?_)
  have hs1 := shr_div (n := 11) (by decide) (by decide) (by omega) (by omega) z_1e
  have hs2 := and_mod (k := 3) (by decide) (by decide) z_2e (by omega)
  refine va_csq (va_Run.run (va_runV (As := [.int (kz z_2)]) (rest := []) ⟨hx, hb, hml, hown, hts⟩ (c_pathOfRank l dC dI ca A X hU a0 z_2 tf rk G pp_a0 countedUncut_a0 counted_a0 left_a0 told_a0 toldCount_a0 grown_a0 keys_a0 keyCount_a0 tongue_a0 lattice_a0 g_a0 (by omega) g_told_a0 (by omega) g_grown_a0 g_keys_a0 (by omega) g_tongue_a0 g_lattice_a0 (by omega) (by omega) (by omega) (by obtain ⟨j9, q1, q2, q3⟩ := hex; exact ⟨j9, q1, by omega⟩)) (cwV 1 hts gX4_grow_X4_pathOfRank rfl rfl rfl (by decide +kernel) ⟨Nat.le_of_ble_eq_true rfl, Nat.le_of_ble_eq_true rfl⟩) ⟨fun a U g mk q => by obtain ⟨q0, ⟨qK, qN⟩, qI⟩ := q; exact ⟨q0, ⟨va_K.moved (u := U) (U := U.calling g mk a) (Vm.Alike.refl U.vm) qK, jN_same (U := U.calling g mk a) rfl qN⟩, qI⟩, va_recv hK (at_P co_a0) (ci := 4) (q0 := 0) rfl rfl, fun U hU hW => ⟨rfl, jK_warm hW ⟨hK, hN⟩, by rw [hU]; exact ⟨hI, co_a0, hpk⟩⟩⟩ rfl rfl hl.1 rfl (lv_room (Nat.le_of_ble_eq_true rfl)) dX4_grow_8 ⟨Nat.le_of_ble_eq_true rfl, Nat.le_of_ble_eq_true rfl⟩)) (fun r_4 hw_3 => ?_)
  obtain ⟨j_b_5, b_5, hj_b_5, hr_b_5, rfl, g_b_5⟩ := hw_3
  refine W.eq (g2 := F0 m 11 ls [.ref b_5]) rfl ?_
  obtain ⟨b9, ch_b_5, fo_b_5, ru_b_5, co_b_5, sp_b_5, pl_b_5, en_b_5, sz_b_5, ff_b_5, fr_b_5, gb9, gch_b_5, gfo_b_5, gru_b_5, cb_b_5, cch_b_5, cfo_b_5, cru_b_5, r1_b_5, r2_b_5, r3_b_5, r4_b_5, r5_b_5, r6_b_5, r7_b_5, rO_b_5, rG_b_5⟩ := hpk j_b_5 (by omega)
  have e9 : b_5 = b9 := jU_eq hU g_b_5 gb9 (show (30 : Nat) ≠ 0 by decide) (show uq 5 = true by decide)
  subst e9
  clear gb9
  have kfo_b_5 := kq24 hI gfo_b_5 cfo_b_5
  have kru_b_5 := kq25 hI gru_b_5 cru_b_5
  have hGj : G j_b_5 (ky % 2048) := by obtain ⟨j8, q1, q2, q3⟩ := hex; have e8 : j8 = j_b_5 := hdi _ _ q1 hj_b_5 (by omega); subst e8; exact q3
  obtain ⟨ct_b_5, ect⟩ : ∃ z : Int, z = cutv X (lst fr_b_5 sz_b_5) := ⟨_, rfl⟩
  rw [rG_b_5, ← ect] at hGj
  clear hpk rG_b_5 hex
  have hidn : id ≠ 8 * Int.toNat pp_a0 + j_b_5 := hid _ (by omega)
  refine lv_astore_n (lv' := [(3, .ref b_5), (0, .ref a0), (1, .ref pa), (2, .int (kz ky))]) hx hb dX4_grow_11 rfl hl (by decide) rfl (fun ls hl => ?_)
  refine lv_aload_n hx hb dX4_grow_12 rfl (lv_at hl 0 rfl) ?_
  refine iz_get (D := (dC, dI)) (ci := 5) (v := .ref ch_b_5) (C := RX5) (T := TX5) (N := 6) hx hb hts hinX5 hown hK cb_b_5 rfl 0 (by decide) hL96 (fun _ h9 => h9) rfl dX4_grow_13 ?_
  refine va_csq (va_Run.run (va_runV (As := []) (rest := []) ⟨hx, hb, hml, hown, hts⟩ (c_lastX l dC dI ca A X hU ch_b_5 (8 * Int.toNat pp_a0 + j_b_5) fo_b_5 ru_b_5 sz_b_5 ff_b_5 gch_b_5 gfo_b_5 gru_b_5 (by omega) (by omega)) (cwV 0 hts gX4_grow_X0_last rfl rfl rfl (by decide +kernel) ⟨Nat.le_of_ble_eq_true rfl, Nat.le_of_ble_eq_true rfl⟩) ⟨fun a U g mk q => by obtain ⟨q0, ⟨qK, qN⟩, qI⟩ := q; exact ⟨q0, ⟨va_K.moved (u := U) (U := U.calling g mk a) (Vm.Alike.refl U.vm) qK, jN_same (U := U.calling g mk a) rfl qN⟩, qI⟩, va_recv hK (at_P cch_b_5) (ci := 0) (q0 := 0) rfl rfl, fun U hU hW => ⟨rfl, jK_warm hW ⟨hK, hN⟩, by rw [hU]; exact ⟨hI, cch_b_5, cfo_b_5⟩⟩⟩ rfl rfl hl.1 rfl (lv_room (Nat.le_of_ble_eq_true rfl)) dX4_grow_16 ⟨Nat.le_of_ble_eq_true rfl, Nat.le_of_ble_eq_true rfl⟩)) (fun r_7 hw_6 => ?_)
  obtain ⟨hw_6, hw_6x⟩ := hw_6
  rcases r_7 with _ | b_8
  · refine W.eq (g2 := F0 m 19 ls [.null]) rfl ?_
    refine lv_astoreN (lv' := [(4, .null), (3, .ref b_5), (0, .ref a0), (1, .ref pa), (2, .int (kz ky))]) hx hb dX4_grow_19 hl (by decide) rfl (fun ls hl => ?_)
    refine lv_aload_n hx hb dX4_grow_21 rfl (lv_at hl 2 rfl) ?_
    refine iz_get (D := (dC, dI)) (ci := 4) (v := .ref tongue_a0) (C := RX4) (T := TX4) (N := 10) hx hb hts hinX4 hown hK co_a0 rfl 8 (by decide) hL42 (fun _ h9 => h9) rfl dX4_grow_22 ?_
    refine lv_iload_n hx hb dX4_grow_25 rfl (lv_at hl 4 rfl) ?_
    refine vp_callSi (va_Run.run (va_runS (As := [.int (kz ky)]) (rest := [.ref tongue_a0]) ⟨hx, hb, hml, hown, hts⟩ (c_keyForm l ky (by omega)) (va_cwS 1 hts gX4_grow_X4_keyForm rfl rfl rfl (by decide +kernel) ⟨Nat.le_of_ble_eq_true rfl, Nat.le_of_ble_eq_true rfl⟩) ⟨fun a U g mk q => q, fun U hU hW => ⟨rfl, trivial⟩⟩ rfl rfl hl.1 rfl (lv_room (Nat.le_of_ble_eq_true rfl)) dX4_grow_26 ⟨Nat.le_of_ble_eq_true rfl, Nat.le_of_ble_eq_true rfl⟩)) (fun r_10 hw_9 => ?_)
    obtain ⟨z_11, rfl, z_11x⟩ := hw_9
    refine va_csq (va_Run.run (va_runV (As := [.int (kz z_11)]) (rest := []) ⟨hx, hb, hml, hown, hts⟩ (c_tgFormAtX l dC dI ca A X hU tongue_a0 z_11 forms_tg rules_tg formCount_tg ruleCount_tg forbidden_tg tf g_tongue_a0 g_forms_tg g_rules_tg (by omega) (by omega) g_forbidden_tg (by omega) (by omega) (by omega) (by omega)) (cwV 1 hts gX4_grow_X9_formAt rfl rfl rfl (by decide +kernel) ⟨Nat.le_of_ble_eq_true rfl, Nat.le_of_ble_eq_true rfl⟩) ⟨fun a U g mk q => by obtain ⟨q0, ⟨qK, qN⟩, qI⟩ := q; exact ⟨q0, ⟨va_K.moved (u := U) (U := U.calling g mk a) (Vm.Alike.refl U.vm) qK, jN_same (U := U.calling g mk a) rfl qN⟩, qI⟩, va_recv hK (at_P co_tg) (ci := 9) (q0 := 0) rfl rfl, fun U hU hW => ⟨rfl, jK_warm hW ⟨hK, hN⟩, by rw [hU]; exact ⟨hI, co_tg, c_tf⟩⟩⟩ rfl rfl hl.1 rfl (lv_room (Nat.le_of_ble_eq_true rfl)) dX4_grow_29 ⟨Nat.le_of_ble_eq_true rfl, Nat.le_of_ble_eq_true rfl⟩)) (fun r_13 hw_12 => ?_)
    obtain ⟨hw_12, hw_12x⟩ := hw_12
    rcases r_13 with _ | b_14
    · refine W.eq (g2 := F0 m 32 ls [.null]) rfl ?_
      refine lv_astoreN (lv' := [(5, .null), (4, .null), (3, .ref b_5), (0, .ref a0), (1, .ref pa), (2, .int (kz ky))]) hx hb dX4_grow_32 hl (by decide) rfl (fun ls hl => ?_)
      refine lv_iload_n hx hb dX4_grow_34 rfl (lv_at hl 5 rfl) ?_
      refine lv_bipush (v := kz 6) hx hb dX4_grow_35 (by decide) ?_
      refine lv_ishr hx hb dX4_grow_37 ?_
      refine iz_any (fun z_15 z_15a z_15b z_15e => ?_)
      refine lv_bipush (v := kz 31) hx hb dX4_grow_38 (by decide) ?_
      refine iz_iand hx hb dX4_grow_40 (by decide) (fun z_16 z_16a z_16b z_16e => ?_)
      have ht1 := shr_div (n := 6) (by decide) (by decide) (by omega) (by omega) z_15e
      have ht2 := and_mod (k := 5) (by decide) (by decide) z_16e (by omega)
      refine lv_istore (lv' := [(6, .int (kz z_16)), (5, .null), (4, .null), (3, .ref b_5), (0, .ref a0), (1, .ref pa), (2, .int (kz ky))]) hx hb dX4_grow_41 hl (by decide) rfl (fun ls hl => ?_)
      refine lv_aload_n hx hb dX4_grow_43 rfl (lv_at hl 5 rfl) ?_
      refine iz_get (D := (dC, dI)) (ci := 5) (v := .ref chain_pa) (C := RX5) (T := TX5) (N := 6) hx hb hts hinX5 hown hK co_pa rfl 0 (by decide) hL96 (fun _ h9 => h9) rfl dX4_grow_44 ?_
      refine lv_aload_n hx hb dX4_grow_47 rfl (lv_at hl 3 rfl) ?_
      refine iz_get (D := (dC, dI)) (ci := 5) (v := .ref ch_b_5) (C := RX5) (T := TX5) (N := 6) hx hb hts hinX5 hown hK cb_b_5 rfl 0 (by decide) hL96 (fun _ h9 => h9) rfl dX4_grow_48 ?_
      obtain ⟨fs9, co_17, jo9⟩ := jv_o0 hI g_chain_pa
      obtain ⟨forms_17, rules_17, size_17, rfl, g_forms_17, g_rules_17, ⟨size_17a, size_17b⟩, x_17_0⟩ := jo9
      obtain ⟨f_18, c_f_18, k_f_18⟩ := jv_q24 hI g_forms_17
      obtain ⟨f_19, c_f_19, k_f_19⟩ := jv_q25 hI g_rules_17
      refine va_callv (va_runV (As := [.ref ch_b_5]) (rest := []) ⟨hx, hb, hml, hown, hts⟩ (c_copyFromX l dC dI ca A X hU H chain_pa ch_b_5 id (8 * Int.toNat pp_a0 + j_b_5) forms_17 rules_17 size_17 fo_b_5 ru_b_5 sz_b_5 f_18 f_19 ff_b_5 fr_b_5 g_chain_pa gch_b_5 g_forms_17 g_rules_17 (by omega) (by omega) gfo_b_5 gru_b_5 (by omega) (by omega) hidn rO_b_5) (cwV 1 hts gX4_grow_X0_copyFrom rfl rfl rfl (by decide +kernel) ⟨Nat.le_of_ble_eq_true rfl, Nat.le_of_ble_eq_true rfl⟩) ⟨fun a U g mk q => by obtain ⟨q0, qH, ⟨qK, qN⟩, qI⟩ := q; exact ⟨q0, qH, ⟨va_K.moved (u := U) (U := U.calling g mk a) (Vm.Alike.refl U.vm) qK, jN_same (U := U.calling g mk a) rfl qN⟩, qI⟩, va_recv hK (at_P co_17) (ci := 0) (q0 := 0) rfl rfl, fun U hU hW => ⟨rfl, hU, jK_warm hW ⟨hK, hN⟩, by rw [hU]; exact ⟨hI, co_17, cch_b_5, c_f_18, c_f_19, cfo_b_5, cru_b_5⟩⟩⟩ rfl rfl hl.1 rfl (lv_room (Nat.le_of_ble_eq_true rfl)) dX4_grow_51 ⟨Nat.le_of_ble_eq_true rfl, Nat.le_of_ble_eq_true rfl⟩) hS (fun q _ h => h) (fun q h => h) (fun X t9 H locs ht hvm hw_20 hB hz1 hk1 hS => ?_)
      obtain ⟨-, hI, hf9, hpc9⟩ := hB
      rw [ht] at hI hf9 hpc9
      clear ht hvm hz1
      have co_a0 := fk_at hf9 g_a0 (by simp [Lc]) co_a0
      have co_pa := fk_at hf9 g_pa (by simp [Lc]) co_pa
      have co_tg := fk_at hf9 g_tongue_a0 (by simp [Lc]) co_tg
      have cb_b_5 := fk_at hf9 g_b_5 (by simp [Lc]) cb_b_5
      have cch_b_5 := fk_at hf9 gch_b_5 (nLc0 hidn.symm) cch_b_5
      have c_kf := fk_at hf9 g_keys_a0 (by simp [Lc]) c_kf
      have c_tf := fk_at hf9 g_forms_tg (by simp [Lc]) c_tf
      have cfo_b_5 := fk_at hf9 gfo_b_5 (nLc210 hidn.symm) cfo_b_5
      have cru_b_5 := fk_at hf9 gru_b_5 (nLc211 hidn.symm) cru_b_5
      have hF := fk_up hw_20 (fk_tr hF hf9 (fun c hc => List.mem_cons_of_mem _ hc))
      have x_tg_0 : formCount_tg ≤ (X.2.1 forms_tg : Int) := by have h9 := (hw_20.2.2 forms_tg).1; omega
      have x_tg_1 : ruleCount_tg ≤ (X.2.1 rules_tg : Int) := by have h9 := (hw_20.2.2 rules_tg).1; omega
      have x_tg_2 : ruleCount_tg = (X.2.2.2 : Int) := by rw [hw_20.2.1]; exact x_tg_2
      have r7_b_5 : sz_b_5 ≤ (X.2.1 fo_b_5 : Int) := by have h9 := (hw_20.2.2 fo_b_5).1; omega
      rw [pG_up hw_20 (fun j hj => (k_tf j hj).1) (fun a ha => (rO_b_5 a ha).1)] at hGj
      have ect := ect.trans (cutv_up hw_20 _).symm
      have rO_b_5 := fun a9 (ha9 : lst ff_b_5 sz_b_5 = some a9) => co_up hw_20 (rO_b_5 a9 ha9)
      have g_b_5 := up_t hw_20 g_b_5
      have g_a0 := up_t hw_20 g_a0
      have g_pa := up_t hw_20 g_pa
      have g_told_a0 := up_t hw_20 g_told_a0
      have g_grown_a0 := up_t hw_20 g_grown_a0
      have g_keys_a0 := up_t hw_20 g_keys_a0
      have g_tongue_a0 := up_t hw_20 g_tongue_a0
      have g_lattice_a0 := up_t hw_20 g_lattice_a0
      have g_chain_pa := up_t hw_20 g_chain_pa
      have g_forms_tg := up_t hw_20 g_forms_tg
      have g_rules_tg := up_t hw_20 g_rules_tg
      have g_forbidden_tg := up_t hw_20 g_forbidden_tg
      have gch_b_5 := up_t hw_20 gch_b_5
      have gfo_b_5 := up_t hw_20 gfo_b_5
      have gru_b_5 := up_t hw_20 gru_b_5
      have g_forms_17 := up_t hw_20 g_forms_17
      have g_rules_17 := up_t hw_20 g_rules_17
      have hU := up_U hw_20 hU
      have hT := jup_tr hT hw_20
      have k_tf := kq24 hI g_forms_tg c_tf
      have kfo_b_5 := kq24 hI gfo_b_5 cfo_b_5
      have kru_b_5 := kq25 hI gru_b_5 cru_b_5
      have hpc := hpc9
      clear hk1 hf9 hpc9
      refine lv_aload_n hx hb dX4_grow_54 rfl (lv_at hl 5 rfl) ?_
      refine lv_iload_n hx hb dX4_grow_55 rfl (lv_at hl 6 rfl) ?_
      refine lv_bipush (v := kz 14) hx hb dX4_grow_56 (by decide) ?_
      refine lv_ishr hx hb dX4_grow_58 ?_
      refine iz_any (fun z_22 z_22a z_22b z_22e => ?_)
      refine iz_put (D := (dC, dI)) (ci := 5) (v := .int (kz z_22)) (ty := .int) (C := RX5) (T := TX5) (N := 6) hx hb hts hinX5 tyX5 tyX5_ok nmX5 hown hK co_pa hS (jv_A hI g_pa (show (30 : Nat) ≠ 0 by decide)) rfl 1 (by decide) hL115 (fun _ h9 => h9) rfl (by decide +kernel) rfl rfl (Nat.le_of_ble_eq_true rfl) dX4_grow_59 (fun H locs c9 oq hS => ?_)
      have hI := jv_set hI c9 oq (by rw [g_pa]; exact jv_c5 ⟨chain_pa, z_22, spent_pa, place_pa, ended_pa, rank_pa, rfl, g_chain_pa, ⟨by omega, by omega⟩, ⟨by omega, by omega⟩, ⟨by omega, by omega⟩, ⟨by omega, by omega⟩, ⟨by omega, by omega⟩⟩)
      have hF := fk_put hF g_pa (by simp [Lp, Lc]) oq
      have co_a0 := co_a0.kept (oq _ (kn_ne g_a0 g_pa (show (4 : Nat) ≠ 5 by decide)))
      have co_tg := co_tg.kept (oq _ (kn_ne g_tongue_a0 g_pa (show (9 : Nat) ≠ 5 by decide)))
      have cb_b_5 := cb_b_5.kept (oq _ (kn_nT g_b_5 g_pa (ne5 hidn.symm)))
      have cch_b_5 := cch_b_5.kept (oq _ (kn_ne gch_b_5 g_pa (show (0 : Nat) ≠ 5 by decide)))
      have c_kf := c_kf.kept (oq _ (kn_ne g_keys_a0 g_pa (show (228 : Nat) ≠ 5 by decide)))
      have c_tf := c_tf.kept (oq _ (kn_ne g_forms_tg g_pa (show (212 : Nat) ≠ 5 by decide)))
      have cfo_b_5 := cfo_b_5.kept (oq _ (kn_ne gfo_b_5 g_pa (show (210 : Nat) ≠ 5 by decide)))
      have cru_b_5 := cru_b_5.kept (oq _ (kn_ne gru_b_5 g_pa (show (211 : Nat) ≠ 5 by decide)))
      have hpc := pch_keep hpc (fun q hq => oq q (fun e9 => by rw [e9, g_pa] at hq; simp [Lc] at hq))
      have co_pa := c9
      clear oq c9
      refine lv_aload_n hx hb dX4_grow_62 rfl (lv_at hl 5 rfl) ?_
      refine lv_aload_n hx hb dX4_grow_63 rfl (lv_at hl 4 rfl) ?_
      refine lv_iload_n hx hb dX4_grow_64 rfl (lv_at hl 6 rfl) ?_
      refine vp_callSi (va_Run.run (va_runV (As := [.int (kz ky)]) (rest := [.ref pa]) ⟨hx, hb, hml, hown, hts⟩ (c_rankOf l dC dI ca A X hU a0 ky pp_a0 countedUncut_a0 counted_a0 left_a0 told_a0 toldCount_a0 grown_a0 keys_a0 keyCount_a0 tongue_a0 lattice_a0 kf g_a0 (by omega) g_told_a0 (by omega) g_grown_a0 g_keys_a0 (by omega) g_tongue_a0 g_lattice_a0 (by omega) (by omega) (by omega)) (cwV 1 hts gX4_grow_X4_rankOf rfl rfl rfl (by decide +kernel) ⟨Nat.le_of_ble_eq_true rfl, Nat.le_of_ble_eq_true rfl⟩) ⟨fun a U g mk q => by obtain ⟨q0, ⟨qK, qN⟩, qI⟩ := q; exact ⟨q0, ⟨va_K.moved (u := U) (U := U.calling g mk a) (Vm.Alike.refl U.vm) qK, jN_same (U := U.calling g mk a) rfl qN⟩, qI⟩, va_recv hK (at_P co_a0) (ci := 4) (q0 := 0) rfl rfl, fun U hU hW => ⟨rfl, jK_warm hW ⟨hK, hN⟩, by rw [hU]; exact ⟨hI, co_a0, c_kf⟩⟩⟩ rfl rfl hl.1 rfl (lv_room (Nat.le_of_ble_eq_true rfl)) dX4_grow_65 ⟨Nat.le_of_ble_eq_true rfl, Nat.le_of_ble_eq_true rfl⟩)) (fun r_24 hw_23 => ?_)
      subst hw_23
      refine iz_put (D := (dC, dI)) (ci := 5) (v := .int (kz (kcnt kf (ky % 16384) (Int.toNat keyCount_a0)))) (ty := .int) (C := RX5) (T := TX5) (N := 6) hx hb hts hinX5 tyX5 tyX5_ok nmX5 hown hK co_pa hS (jv_A hI g_pa (show (30 : Nat) ≠ 0 by decide)) rfl 5 (by decide) hL127 (fun _ h9 => h9) rfl (by decide +kernel) rfl rfl (Nat.le_of_ble_eq_true rfl) dX4_grow_68 (fun H locs c9 oq hS => ?_)
      have hI := jv_set hI c9 oq (by rw [g_pa]; exact jv_c5 ⟨chain_pa, z_22, spent_pa, place_pa, ended_pa, (kcnt kf (ky % 16384) (Int.toNat keyCount_a0)), rfl, g_chain_pa, ⟨by omega, by omega⟩, ⟨by omega, by omega⟩, ⟨by omega, by omega⟩, ⟨by omega, by omega⟩, ⟨by omega, by omega⟩⟩)
      have hF := fk_put hF g_pa (by simp [Lp, Lc]) oq
      have co_a0 := co_a0.kept (oq _ (kn_ne g_a0 g_pa (show (4 : Nat) ≠ 5 by decide)))
      have co_tg := co_tg.kept (oq _ (kn_ne g_tongue_a0 g_pa (show (9 : Nat) ≠ 5 by decide)))
      have cb_b_5 := cb_b_5.kept (oq _ (kn_nT g_b_5 g_pa (ne5 hidn.symm)))
      have cch_b_5 := cch_b_5.kept (oq _ (kn_ne gch_b_5 g_pa (show (0 : Nat) ≠ 5 by decide)))
      have c_kf := c_kf.kept (oq _ (kn_ne g_keys_a0 g_pa (show (228 : Nat) ≠ 5 by decide)))
      have c_tf := c_tf.kept (oq _ (kn_ne g_forms_tg g_pa (show (212 : Nat) ≠ 5 by decide)))
      have cfo_b_5 := cfo_b_5.kept (oq _ (kn_ne gfo_b_5 g_pa (show (210 : Nat) ≠ 5 by decide)))
      have cru_b_5 := cru_b_5.kept (oq _ (kn_ne gru_b_5 g_pa (show (211 : Nat) ≠ 5 by decide)))
      have hpc := pch_keep hpc (fun q hq => oq q (fun e9 => by rw [e9, g_pa] at hq; simp [Lc] at hq))
      have co_pa := c9
      clear oq c9
      refine lv_aload_n hx hb dX4_grow_71 rfl (lv_at hl 5 rfl) ?_
      refine lv_aload_n hx hb dX4_grow_72 rfl (lv_at hl 3 rfl) ?_
      refine iz_get (D := (dC, dI)) (ci := 5) (v := .int (kz sp_b_5)) (C := RX5) (T := TX5) (N := 6) hx hb hts hinX5 hown hK cb_b_5 rfl 2 (by decide) hL118 (fun _ h9 => h9) rfl dX4_grow_73 ?_
      refine iz_any (fun z_25 z_25a z_25b z_25e => ?_)
      refine iz_put (D := (dC, dI)) (ci := 5) (v := .int (kz z_25)) (ty := .int) (C := RX5) (T := TX5) (N := 6) hx hb hts hinX5 tyX5 tyX5_ok nmX5 hown hK co_pa hS (jv_A hI g_pa (show (30 : Nat) ≠ 0 by decide)) rfl 2 (by decide) hL118 (fun _ h9 => h9) rfl (by decide +kernel) rfl rfl (Nat.le_of_ble_eq_true rfl) dX4_grow_76 (fun H locs c9 oq hS => ?_)
      have hI := jv_set hI c9 oq (by rw [g_pa]; exact jv_c5 ⟨chain_pa, z_22, z_25, place_pa, ended_pa, (kcnt kf (ky % 16384) (Int.toNat keyCount_a0)), rfl, g_chain_pa, ⟨by omega, by omega⟩, ⟨by omega, by omega⟩, ⟨by omega, by omega⟩, ⟨by omega, by omega⟩, ⟨by omega, by omega⟩⟩)
      have hF := fk_put hF g_pa (by simp [Lp, Lc]) oq
      have co_a0 := co_a0.kept (oq _ (kn_ne g_a0 g_pa (show (4 : Nat) ≠ 5 by decide)))
      have co_tg := co_tg.kept (oq _ (kn_ne g_tongue_a0 g_pa (show (9 : Nat) ≠ 5 by decide)))
      have cb_b_5 := cb_b_5.kept (oq _ (kn_nT g_b_5 g_pa (ne5 hidn.symm)))
      have cch_b_5 := cch_b_5.kept (oq _ (kn_ne gch_b_5 g_pa (show (0 : Nat) ≠ 5 by decide)))
      have c_kf := c_kf.kept (oq _ (kn_ne g_keys_a0 g_pa (show (228 : Nat) ≠ 5 by decide)))
      have c_tf := c_tf.kept (oq _ (kn_ne g_forms_tg g_pa (show (212 : Nat) ≠ 5 by decide)))
      have cfo_b_5 := cfo_b_5.kept (oq _ (kn_ne gfo_b_5 g_pa (show (210 : Nat) ≠ 5 by decide)))
      have cru_b_5 := cru_b_5.kept (oq _ (kn_ne gru_b_5 g_pa (show (211 : Nat) ≠ 5 by decide)))
      have hpc := pch_keep hpc (fun q hq => oq q (fun e9 => by rw [e9, g_pa] at hq; simp [Lc] at hq))
      have co_pa := c9
      clear oq c9
      refine lv_aload_n hx hb dX4_grow_79 rfl (lv_at hl 5 rfl) ?_
      refine lv_aload_n hx hb dX4_grow_80 rfl (lv_at hl 3 rfl) ?_
      refine iz_get (D := (dC, dI)) (ci := 5) (v := .int (kz pl_b_5)) (C := RX5) (T := TX5) (N := 6) hx hb hts hinX5 hown hK cb_b_5 rfl 3 (by decide) hL121 (fun _ h9 => h9) rfl dX4_grow_81 ?_
      refine iz_put (D := (dC, dI)) (ci := 5) (v := .int (kz pl_b_5)) (ty := .int) (C := RX5) (T := TX5) (N := 6) hx hb hts hinX5 tyX5 tyX5_ok nmX5 hown hK co_pa hS (jv_A hI g_pa (show (30 : Nat) ≠ 0 by decide)) rfl 3 (by decide) hL121 (fun _ h9 => h9) rfl (by decide +kernel) rfl rfl (Nat.le_of_ble_eq_true rfl) dX4_grow_84 (fun H locs c9 oq hS => ?_)
      have hI := jv_set hI c9 oq (by rw [g_pa]; exact jv_c5 ⟨chain_pa, z_22, z_25, pl_b_5, ended_pa, (kcnt kf (ky % 16384) (Int.toNat keyCount_a0)), rfl, g_chain_pa, ⟨by omega, by omega⟩, ⟨by omega, by omega⟩, ⟨by omega, by omega⟩, ⟨by omega, by omega⟩, ⟨by omega, by omega⟩⟩)
      have hF := fk_put hF g_pa (by simp [Lp, Lc]) oq
      have co_a0 := co_a0.kept (oq _ (kn_ne g_a0 g_pa (show (4 : Nat) ≠ 5 by decide)))
      have co_tg := co_tg.kept (oq _ (kn_ne g_tongue_a0 g_pa (show (9 : Nat) ≠ 5 by decide)))
      have cb_b_5 := cb_b_5.kept (oq _ (kn_nT g_b_5 g_pa (ne5 hidn.symm)))
      have cch_b_5 := cch_b_5.kept (oq _ (kn_ne gch_b_5 g_pa (show (0 : Nat) ≠ 5 by decide)))
      have c_kf := c_kf.kept (oq _ (kn_ne g_keys_a0 g_pa (show (228 : Nat) ≠ 5 by decide)))
      have c_tf := c_tf.kept (oq _ (kn_ne g_forms_tg g_pa (show (212 : Nat) ≠ 5 by decide)))
      have cfo_b_5 := cfo_b_5.kept (oq _ (kn_ne gfo_b_5 g_pa (show (210 : Nat) ≠ 5 by decide)))
      have cru_b_5 := cru_b_5.kept (oq _ (kn_ne gru_b_5 g_pa (show (211 : Nat) ≠ 5 by decide)))
      have hpc := pch_keep hpc (fun q hq => oq q (fun e9 => by rw [e9, g_pa] at hq; simp [Lc] at hq))
      have co_pa := c9
      clear oq c9
      refine lv_aload_n hx hb dX4_grow_87 rfl (lv_at hl 5 rfl) ?_
      refine lv_iload hx hb dX4_grow_88 (lv_at hl 0 rfl) ?_
      refine iz_nez (tgt := 97) hx hb dX4_grow_90 (by decide) (by unfold rg2; omega) (fun br_26 => ?_) (fun br_26 => ?_)
      · refine lv_iconst (v := kz 0) hx hb dX4_grow_97 rfl ?_
        refine iz_put (D := (dC, dI)) (ci := 5) (v := .int (kz 0)) (ty := .boolean) (C := RX5) (T := TX5) (N := 6) hx hb hts hinX5 tyX5 tyX5_ok nmX5 hown hK co_pa hS (jv_A hI g_pa (show (30 : Nat) ≠ 0 by decide)) rfl 4 (by decide) hL82 (fun _ h9 => h9) rfl (by decide +kernel) (by decide) rfl (Nat.le_of_ble_eq_true rfl) dX4_grow_98 (fun H locs c9 oq hS => ?_)
        have hI := jv_set hI c9 oq (by rw [g_pa]; exact jv_c5 ⟨chain_pa, z_22, z_25, pl_b_5, 0, (kcnt kf (ky % 16384) (Int.toNat keyCount_a0)), rfl, g_chain_pa, ⟨by omega, by omega⟩, ⟨by omega, by omega⟩, ⟨by omega, by omega⟩, ⟨by omega, by omega⟩, ⟨by omega, by omega⟩⟩)
        have hF := fk_put hF g_pa (by simp [Lp, Lc]) oq
        have co_a0 := co_a0.kept (oq _ (kn_ne g_a0 g_pa (show (4 : Nat) ≠ 5 by decide)))
        have co_tg := co_tg.kept (oq _ (kn_ne g_tongue_a0 g_pa (show (9 : Nat) ≠ 5 by decide)))
        have cb_b_5 := cb_b_5.kept (oq _ (kn_nT g_b_5 g_pa (ne5 hidn.symm)))
        have cch_b_5 := cch_b_5.kept (oq _ (kn_ne gch_b_5 g_pa (show (0 : Nat) ≠ 5 by decide)))
        have c_kf := c_kf.kept (oq _ (kn_ne g_keys_a0 g_pa (show (228 : Nat) ≠ 5 by decide)))
        have c_tf := c_tf.kept (oq _ (kn_ne g_forms_tg g_pa (show (212 : Nat) ≠ 5 by decide)))
        have cfo_b_5 := cfo_b_5.kept (oq _ (kn_ne gfo_b_5 g_pa (show (210 : Nat) ≠ 5 by decide)))
        have cru_b_5 := cru_b_5.kept (oq _ (kn_ne gru_b_5 g_pa (show (211 : Nat) ≠ 5 by decide)))
        have hpc := pch_keep hpc (fun q hq => oq q (fun e9 => by rw [e9, g_pa] at hq; simp [Lc] at hq))
        have co_pa := c9
        clear oq c9
        refine lv_aload_n hx hb dX4_grow_101 rfl (lv_at hl 5 rfl) ?_
        refine iz_get (D := (dC, dI)) (ci := 5) (v := .int (kz 0)) (C := RX5) (T := TX5) (N := 6) hx hb hts hinX5 hown hK co_pa rfl 4 (by decide) hL82 (fun _ h9 => h9) rfl dX4_grow_102 ?_
        refine iz_nez (tgt := 118) hx hb dX4_grow_105 (by decide) (by unfold rg2; omega) (fun q9 => absurd q9 (by decide)) (fun _ => ?_)
        refine lv_aloadN hx hb dX4_grow_108 (lv_at hl 2 rfl) ?_
        refine lv_ifnullN (tgt := 118) hx hb dX4_grow_110 (by decide) ?_
        exact W.vret hx hb hr (fun t9 ht hW => ⟨⟨X, rfl, hT, jK_warm hW ⟨hK, hN⟩, by rw [ht]; exact ⟨hI, fk_dn hT hF, pok_mk hU g_pa g_chain_pa co_pa (by omega) (by omega) (by omega) (by omega) (by omega) hpc⟩⟩, hS.F ht⟩) hS.2.2 dX4_grow_118
      · refine lv_iconst (v := kz 1) hx hb dX4_grow_93 rfl ?_
        refine lv_goto (tgt := 98) hx hb dX4_grow_94 (by decide) ?_
        refine iz_put (D := (dC, dI)) (ci := 5) (v := .int (kz 1)) (ty := .boolean) (C := RX5) (T := TX5) (N := 6) hx hb hts hinX5 tyX5 tyX5_ok nmX5 hown hK co_pa hS (jv_A hI g_pa (show (30 : Nat) ≠ 0 by decide)) rfl 4 (by decide) hL82 (fun _ h9 => h9) rfl (by decide +kernel) (by decide) rfl (Nat.le_of_ble_eq_true rfl) dX4_grow_98 (fun H locs c9 oq hS => ?_)
        have hI := jv_set hI c9 oq (by rw [g_pa]; exact jv_c5 ⟨chain_pa, z_22, z_25, pl_b_5, 1, (kcnt kf (ky % 16384) (Int.toNat keyCount_a0)), rfl, g_chain_pa, ⟨by omega, by omega⟩, ⟨by omega, by omega⟩, ⟨by omega, by omega⟩, ⟨by omega, by omega⟩, ⟨by omega, by omega⟩⟩)
        have hF := fk_put hF g_pa (by simp [Lp, Lc]) oq
        have co_a0 := co_a0.kept (oq _ (kn_ne g_a0 g_pa (show (4 : Nat) ≠ 5 by decide)))
        have co_tg := co_tg.kept (oq _ (kn_ne g_tongue_a0 g_pa (show (9 : Nat) ≠ 5 by decide)))
        have cb_b_5 := cb_b_5.kept (oq _ (kn_nT g_b_5 g_pa (ne5 hidn.symm)))
        have cch_b_5 := cch_b_5.kept (oq _ (kn_ne gch_b_5 g_pa (show (0 : Nat) ≠ 5 by decide)))
        have c_kf := c_kf.kept (oq _ (kn_ne g_keys_a0 g_pa (show (228 : Nat) ≠ 5 by decide)))
        have c_tf := c_tf.kept (oq _ (kn_ne g_forms_tg g_pa (show (212 : Nat) ≠ 5 by decide)))
        have cfo_b_5 := cfo_b_5.kept (oq _ (kn_ne gfo_b_5 g_pa (show (210 : Nat) ≠ 5 by decide)))
        have cru_b_5 := cru_b_5.kept (oq _ (kn_ne gru_b_5 g_pa (show (211 : Nat) ≠ 5 by decide)))
        have hpc := pch_keep hpc (fun q hq => oq q (fun e9 => by rw [e9, g_pa] at hq; simp [Lc] at hq))
        have co_pa := c9
        clear oq c9
        refine lv_aload_n hx hb dX4_grow_101 rfl (lv_at hl 5 rfl) ?_
        refine iz_get (D := (dC, dI)) (ci := 5) (v := .int (kz 1)) (C := RX5) (T := TX5) (N := 6) hx hb hts hinX5 hown hK co_pa rfl 4 (by decide) hL82 (fun _ h9 => h9) rfl dX4_grow_102 ?_
        refine iz_nez (tgt := 118) hx hb dX4_grow_105 (by decide) (by unfold rg2; omega) (fun _ => ?_) (fun q9 => absurd q9 (by decide))
        exact W.vret hx hb hr (fun t9 ht hW => ⟨⟨X, rfl, hT, jK_warm hW ⟨hK, hN⟩, by rw [ht]; exact ⟨hI, fk_dn hT hF, pok_mk hU g_pa g_chain_pa co_pa (by omega) (by omega) (by omega) (by omega) (by omega) hpc⟩⟩, hS.F ht⟩) hS.2.2 dX4_grow_118
    · have g_b_14 := hw_12 b_14 rfl
      refine W.eq (g2 := F0 m 32 ls [.ref b_14]) rfl ?_
      refine lv_astore (lv' := [(5, .ref b_14), (4, .null), (3, .ref b_5), (0, .ref a0), (1, .ref pa), (2, .int (kz ky))]) hx hb dX4_grow_32 hl (by decide) rfl (fun ls hl => ?_)
      refine lv_iload_n hx hb dX4_grow_34 rfl (lv_at hl 5 rfl) ?_
      refine lv_bipush (v := kz 6) hx hb dX4_grow_35 (by decide) ?_
      refine lv_ishr hx hb dX4_grow_37 ?_
      refine iz_any (fun z_27 z_27a z_27b z_27e => ?_)
      refine lv_bipush (v := kz 31) hx hb dX4_grow_38 (by decide) ?_
      refine iz_iand hx hb dX4_grow_40 (by decide) (fun z_28 z_28a z_28b z_28e => ?_)
      have ht1 := shr_div (n := 6) (by decide) (by decide) (by omega) (by omega) z_27e
      have ht2 := and_mod (k := 5) (by decide) (by decide) z_28e (by omega)
      refine lv_istore (lv' := [(6, .int (kz z_28)), (5, .ref b_14), (4, .null), (3, .ref b_5), (0, .ref a0), (1, .ref pa), (2, .int (kz ky))]) hx hb dX4_grow_41 hl (by decide) rfl (fun ls hl => ?_)
      refine lv_aload_n hx hb dX4_grow_43 rfl (lv_at hl 5 rfl) ?_
      refine iz_get (D := (dC, dI)) (ci := 5) (v := .ref chain_pa) (C := RX5) (T := TX5) (N := 6) hx hb hts hinX5 hown hK co_pa rfl 0 (by decide) hL96 (fun _ h9 => h9) rfl dX4_grow_44 ?_
      refine lv_aload_n hx hb dX4_grow_47 rfl (lv_at hl 3 rfl) ?_
      refine iz_get (D := (dC, dI)) (ci := 5) (v := .ref ch_b_5) (C := RX5) (T := TX5) (N := 6) hx hb hts hinX5 hown hK cb_b_5 rfl 0 (by decide) hL96 (fun _ h9 => h9) rfl dX4_grow_48 ?_
      obtain ⟨fs9, co_29, jo9⟩ := jv_o0 hI g_chain_pa
      obtain ⟨forms_29, rules_29, size_29, rfl, g_forms_29, g_rules_29, ⟨size_29a, size_29b⟩, x_29_0⟩ := jo9
      obtain ⟨f_30, c_f_30, k_f_30⟩ := jv_q24 hI g_forms_29
      obtain ⟨f_31, c_f_31, k_f_31⟩ := jv_q25 hI g_rules_29
      refine va_callv (va_runV (As := [.ref ch_b_5]) (rest := []) ⟨hx, hb, hml, hown, hts⟩ (c_copyFromX l dC dI ca A X hU H chain_pa ch_b_5 id (8 * Int.toNat pp_a0 + j_b_5) forms_29 rules_29 size_29 fo_b_5 ru_b_5 sz_b_5 f_30 f_31 ff_b_5 fr_b_5 g_chain_pa gch_b_5 g_forms_29 g_rules_29 (by omega) (by omega) gfo_b_5 gru_b_5 (by omega) (by omega) hidn rO_b_5) (cwV 1 hts gX4_grow_X0_copyFrom rfl rfl rfl (by decide +kernel) ⟨Nat.le_of_ble_eq_true rfl, Nat.le_of_ble_eq_true rfl⟩) ⟨fun a U g mk q => by obtain ⟨q0, qH, ⟨qK, qN⟩, qI⟩ := q; exact ⟨q0, qH, ⟨va_K.moved (u := U) (U := U.calling g mk a) (Vm.Alike.refl U.vm) qK, jN_same (U := U.calling g mk a) rfl qN⟩, qI⟩, va_recv hK (at_P co_29) (ci := 0) (q0 := 0) rfl rfl, fun U hU hW => ⟨rfl, hU, jK_warm hW ⟨hK, hN⟩, by rw [hU]; exact ⟨hI, co_29, cch_b_5, c_f_30, c_f_31, cfo_b_5, cru_b_5⟩⟩⟩ rfl rfl hl.1 rfl (lv_room (Nat.le_of_ble_eq_true rfl)) dX4_grow_51 ⟨Nat.le_of_ble_eq_true rfl, Nat.le_of_ble_eq_true rfl⟩) hS (fun q _ h => h) (fun q h => h) (fun X t9 H locs ht hvm hw_32 hB hz1 hk1 hS => ?_)
      obtain ⟨-, hI, hf9, hpc9⟩ := hB
      rw [ht] at hI hf9 hpc9
      clear ht hvm hz1
      have co_a0 := fk_at hf9 g_a0 (by simp [Lc]) co_a0
      have co_pa := fk_at hf9 g_pa (by simp [Lc]) co_pa
      have co_tg := fk_at hf9 g_tongue_a0 (by simp [Lc]) co_tg
      have cb_b_5 := fk_at hf9 g_b_5 (by simp [Lc]) cb_b_5
      have cch_b_5 := fk_at hf9 gch_b_5 (nLc0 hidn.symm) cch_b_5
      have c_kf := fk_at hf9 g_keys_a0 (by simp [Lc]) c_kf
      have c_tf := fk_at hf9 g_forms_tg (by simp [Lc]) c_tf
      have cfo_b_5 := fk_at hf9 gfo_b_5 (nLc210 hidn.symm) cfo_b_5
      have cru_b_5 := fk_at hf9 gru_b_5 (nLc211 hidn.symm) cru_b_5
      have hF := fk_up hw_32 (fk_tr hF hf9 (fun c hc => List.mem_cons_of_mem _ hc))
      have x_tg_0 : formCount_tg ≤ (X.2.1 forms_tg : Int) := by have h9 := (hw_32.2.2 forms_tg).1; omega
      have x_tg_1 : ruleCount_tg ≤ (X.2.1 rules_tg : Int) := by have h9 := (hw_32.2.2 rules_tg).1; omega
      have x_tg_2 : ruleCount_tg = (X.2.2.2 : Int) := by rw [hw_32.2.1]; exact x_tg_2
      have r7_b_5 : sz_b_5 ≤ (X.2.1 fo_b_5 : Int) := by have h9 := (hw_32.2.2 fo_b_5).1; omega
      rw [pG_up hw_32 (fun j hj => (k_tf j hj).1) (fun a ha => (rO_b_5 a ha).1)] at hGj
      have ect := ect.trans (cutv_up hw_32 _).symm
      have rO_b_5 := fun a9 (ha9 : lst ff_b_5 sz_b_5 = some a9) => co_up hw_32 (rO_b_5 a9 ha9)
      have g_b_14 := up_t hw_32 g_b_14
      have g_b_5 := up_t hw_32 g_b_5
      have g_a0 := up_t hw_32 g_a0
      have g_pa := up_t hw_32 g_pa
      have g_told_a0 := up_t hw_32 g_told_a0
      have g_grown_a0 := up_t hw_32 g_grown_a0
      have g_keys_a0 := up_t hw_32 g_keys_a0
      have g_tongue_a0 := up_t hw_32 g_tongue_a0
      have g_lattice_a0 := up_t hw_32 g_lattice_a0
      have g_chain_pa := up_t hw_32 g_chain_pa
      have g_forms_tg := up_t hw_32 g_forms_tg
      have g_rules_tg := up_t hw_32 g_rules_tg
      have g_forbidden_tg := up_t hw_32 g_forbidden_tg
      have gch_b_5 := up_t hw_32 gch_b_5
      have gfo_b_5 := up_t hw_32 gfo_b_5
      have gru_b_5 := up_t hw_32 gru_b_5
      have g_forms_29 := up_t hw_32 g_forms_29
      have g_rules_29 := up_t hw_32 g_rules_29
      have hU := up_U hw_32 hU
      have hT := jup_tr hT hw_32
      have k_tf := kq24 hI g_forms_tg c_tf
      have kfo_b_5 := kq24 hI gfo_b_5 cfo_b_5
      have kru_b_5 := kq25 hI gru_b_5 cru_b_5
      have hpc := hpc9
      clear hk1 hf9 hpc9
      refine lv_aload_n hx hb dX4_grow_54 rfl (lv_at hl 5 rfl) ?_
      refine lv_iload_n hx hb dX4_grow_55 rfl (lv_at hl 6 rfl) ?_
      refine lv_bipush (v := kz 14) hx hb dX4_grow_56 (by decide) ?_
      refine lv_ishr hx hb dX4_grow_58 ?_
      refine iz_any (fun z_34 z_34a z_34b z_34e => ?_)
      refine iz_put (D := (dC, dI)) (ci := 5) (v := .int (kz z_34)) (ty := .int) (C := RX5) (T := TX5) (N := 6) hx hb hts hinX5 tyX5 tyX5_ok nmX5 hown hK co_pa hS (jv_A hI g_pa (show (30 : Nat) ≠ 0 by decide)) rfl 1 (by decide) hL115 (fun _ h9 => h9) rfl (by decide +kernel) rfl rfl (Nat.le_of_ble_eq_true rfl) dX4_grow_59 (fun H locs c9 oq hS => ?_)
      have hI := jv_set hI c9 oq (by rw [g_pa]; exact jv_c5 ⟨chain_pa, z_34, spent_pa, place_pa, ended_pa, rank_pa, rfl, g_chain_pa, ⟨by omega, by omega⟩, ⟨by omega, by omega⟩, ⟨by omega, by omega⟩, ⟨by omega, by omega⟩, ⟨by omega, by omega⟩⟩)
      have hF := fk_put hF g_pa (by simp [Lp, Lc]) oq
      have co_a0 := co_a0.kept (oq _ (kn_ne g_a0 g_pa (show (4 : Nat) ≠ 5 by decide)))
      have co_tg := co_tg.kept (oq _ (kn_ne g_tongue_a0 g_pa (show (9 : Nat) ≠ 5 by decide)))
      have cb_b_5 := cb_b_5.kept (oq _ (kn_nT g_b_5 g_pa (ne5 hidn.symm)))
      have cch_b_5 := cch_b_5.kept (oq _ (kn_ne gch_b_5 g_pa (show (0 : Nat) ≠ 5 by decide)))
      have c_kf := c_kf.kept (oq _ (kn_ne g_keys_a0 g_pa (show (228 : Nat) ≠ 5 by decide)))
      have c_tf := c_tf.kept (oq _ (kn_ne g_forms_tg g_pa (show (212 : Nat) ≠ 5 by decide)))
      have cfo_b_5 := cfo_b_5.kept (oq _ (kn_ne gfo_b_5 g_pa (show (210 : Nat) ≠ 5 by decide)))
      have cru_b_5 := cru_b_5.kept (oq _ (kn_ne gru_b_5 g_pa (show (211 : Nat) ≠ 5 by decide)))
      have hpc := pch_keep hpc (fun q hq => oq q (fun e9 => by rw [e9, g_pa] at hq; simp [Lc] at hq))
      have co_pa := c9
      clear oq c9
      refine lv_aload_n hx hb dX4_grow_62 rfl (lv_at hl 5 rfl) ?_
      refine lv_aload_n hx hb dX4_grow_63 rfl (lv_at hl 4 rfl) ?_
      refine lv_iload_n hx hb dX4_grow_64 rfl (lv_at hl 6 rfl) ?_
      refine vp_callSi (va_Run.run (va_runV (As := [.int (kz ky)]) (rest := [.ref pa]) ⟨hx, hb, hml, hown, hts⟩ (c_rankOf l dC dI ca A X hU a0 ky pp_a0 countedUncut_a0 counted_a0 left_a0 told_a0 toldCount_a0 grown_a0 keys_a0 keyCount_a0 tongue_a0 lattice_a0 kf g_a0 (by omega) g_told_a0 (by omega) g_grown_a0 g_keys_a0 (by omega) g_tongue_a0 g_lattice_a0 (by omega) (by omega) (by omega)) (cwV 1 hts gX4_grow_X4_rankOf rfl rfl rfl (by decide +kernel) ⟨Nat.le_of_ble_eq_true rfl, Nat.le_of_ble_eq_true rfl⟩) ⟨fun a U g mk q => by obtain ⟨q0, ⟨qK, qN⟩, qI⟩ := q; exact ⟨q0, ⟨va_K.moved (u := U) (U := U.calling g mk a) (Vm.Alike.refl U.vm) qK, jN_same (U := U.calling g mk a) rfl qN⟩, qI⟩, va_recv hK (at_P co_a0) (ci := 4) (q0 := 0) rfl rfl, fun U hU hW => ⟨rfl, jK_warm hW ⟨hK, hN⟩, by rw [hU]; exact ⟨hI, co_a0, c_kf⟩⟩⟩ rfl rfl hl.1 rfl (lv_room (Nat.le_of_ble_eq_true rfl)) dX4_grow_65 ⟨Nat.le_of_ble_eq_true rfl, Nat.le_of_ble_eq_true rfl⟩)) (fun r_36 hw_35 => ?_)
      subst hw_35
      refine iz_put (D := (dC, dI)) (ci := 5) (v := .int (kz (kcnt kf (ky % 16384) (Int.toNat keyCount_a0)))) (ty := .int) (C := RX5) (T := TX5) (N := 6) hx hb hts hinX5 tyX5 tyX5_ok nmX5 hown hK co_pa hS (jv_A hI g_pa (show (30 : Nat) ≠ 0 by decide)) rfl 5 (by decide) hL127 (fun _ h9 => h9) rfl (by decide +kernel) rfl rfl (Nat.le_of_ble_eq_true rfl) dX4_grow_68 (fun H locs c9 oq hS => ?_)
      have hI := jv_set hI c9 oq (by rw [g_pa]; exact jv_c5 ⟨chain_pa, z_34, spent_pa, place_pa, ended_pa, (kcnt kf (ky % 16384) (Int.toNat keyCount_a0)), rfl, g_chain_pa, ⟨by omega, by omega⟩, ⟨by omega, by omega⟩, ⟨by omega, by omega⟩, ⟨by omega, by omega⟩, ⟨by omega, by omega⟩⟩)
      have hF := fk_put hF g_pa (by simp [Lp, Lc]) oq
      have co_a0 := co_a0.kept (oq _ (kn_ne g_a0 g_pa (show (4 : Nat) ≠ 5 by decide)))
      have co_tg := co_tg.kept (oq _ (kn_ne g_tongue_a0 g_pa (show (9 : Nat) ≠ 5 by decide)))
      have cb_b_5 := cb_b_5.kept (oq _ (kn_nT g_b_5 g_pa (ne5 hidn.symm)))
      have cch_b_5 := cch_b_5.kept (oq _ (kn_ne gch_b_5 g_pa (show (0 : Nat) ≠ 5 by decide)))
      have c_kf := c_kf.kept (oq _ (kn_ne g_keys_a0 g_pa (show (228 : Nat) ≠ 5 by decide)))
      have c_tf := c_tf.kept (oq _ (kn_ne g_forms_tg g_pa (show (212 : Nat) ≠ 5 by decide)))
      have cfo_b_5 := cfo_b_5.kept (oq _ (kn_ne gfo_b_5 g_pa (show (210 : Nat) ≠ 5 by decide)))
      have cru_b_5 := cru_b_5.kept (oq _ (kn_ne gru_b_5 g_pa (show (211 : Nat) ≠ 5 by decide)))
      have hpc := pch_keep hpc (fun q hq => oq q (fun e9 => by rw [e9, g_pa] at hq; simp [Lc] at hq))
      have co_pa := c9
      clear oq c9
      refine lv_aload_n hx hb dX4_grow_71 rfl (lv_at hl 5 rfl) ?_
      refine lv_aload_n hx hb dX4_grow_72 rfl (lv_at hl 3 rfl) ?_
      refine iz_get (D := (dC, dI)) (ci := 5) (v := .int (kz sp_b_5)) (C := RX5) (T := TX5) (N := 6) hx hb hts hinX5 hown hK cb_b_5 rfl 2 (by decide) hL118 (fun _ h9 => h9) rfl dX4_grow_73 ?_
      refine iz_any (fun z_37 z_37a z_37b z_37e => ?_)
      refine iz_put (D := (dC, dI)) (ci := 5) (v := .int (kz z_37)) (ty := .int) (C := RX5) (T := TX5) (N := 6) hx hb hts hinX5 tyX5 tyX5_ok nmX5 hown hK co_pa hS (jv_A hI g_pa (show (30 : Nat) ≠ 0 by decide)) rfl 2 (by decide) hL118 (fun _ h9 => h9) rfl (by decide +kernel) rfl rfl (Nat.le_of_ble_eq_true rfl) dX4_grow_76 (fun H locs c9 oq hS => ?_)
      have hI := jv_set hI c9 oq (by rw [g_pa]; exact jv_c5 ⟨chain_pa, z_34, z_37, place_pa, ended_pa, (kcnt kf (ky % 16384) (Int.toNat keyCount_a0)), rfl, g_chain_pa, ⟨by omega, by omega⟩, ⟨by omega, by omega⟩, ⟨by omega, by omega⟩, ⟨by omega, by omega⟩, ⟨by omega, by omega⟩⟩)
      have hF := fk_put hF g_pa (by simp [Lp, Lc]) oq
      have co_a0 := co_a0.kept (oq _ (kn_ne g_a0 g_pa (show (4 : Nat) ≠ 5 by decide)))
      have co_tg := co_tg.kept (oq _ (kn_ne g_tongue_a0 g_pa (show (9 : Nat) ≠ 5 by decide)))
      have cb_b_5 := cb_b_5.kept (oq _ (kn_nT g_b_5 g_pa (ne5 hidn.symm)))
      have cch_b_5 := cch_b_5.kept (oq _ (kn_ne gch_b_5 g_pa (show (0 : Nat) ≠ 5 by decide)))
      have c_kf := c_kf.kept (oq _ (kn_ne g_keys_a0 g_pa (show (228 : Nat) ≠ 5 by decide)))
      have c_tf := c_tf.kept (oq _ (kn_ne g_forms_tg g_pa (show (212 : Nat) ≠ 5 by decide)))
      have cfo_b_5 := cfo_b_5.kept (oq _ (kn_ne gfo_b_5 g_pa (show (210 : Nat) ≠ 5 by decide)))
      have cru_b_5 := cru_b_5.kept (oq _ (kn_ne gru_b_5 g_pa (show (211 : Nat) ≠ 5 by decide)))
      have hpc := pch_keep hpc (fun q hq => oq q (fun e9 => by rw [e9, g_pa] at hq; simp [Lc] at hq))
      have co_pa := c9
      clear oq c9
      refine lv_aload_n hx hb dX4_grow_79 rfl (lv_at hl 5 rfl) ?_
      refine lv_aload_n hx hb dX4_grow_80 rfl (lv_at hl 3 rfl) ?_
      refine iz_get (D := (dC, dI)) (ci := 5) (v := .int (kz pl_b_5)) (C := RX5) (T := TX5) (N := 6) hx hb hts hinX5 hown hK cb_b_5 rfl 3 (by decide) hL121 (fun _ h9 => h9) rfl dX4_grow_81 ?_
      refine iz_put (D := (dC, dI)) (ci := 5) (v := .int (kz pl_b_5)) (ty := .int) (C := RX5) (T := TX5) (N := 6) hx hb hts hinX5 tyX5 tyX5_ok nmX5 hown hK co_pa hS (jv_A hI g_pa (show (30 : Nat) ≠ 0 by decide)) rfl 3 (by decide) hL121 (fun _ h9 => h9) rfl (by decide +kernel) rfl rfl (Nat.le_of_ble_eq_true rfl) dX4_grow_84 (fun H locs c9 oq hS => ?_)
      have hI := jv_set hI c9 oq (by rw [g_pa]; exact jv_c5 ⟨chain_pa, z_34, z_37, pl_b_5, ended_pa, (kcnt kf (ky % 16384) (Int.toNat keyCount_a0)), rfl, g_chain_pa, ⟨by omega, by omega⟩, ⟨by omega, by omega⟩, ⟨by omega, by omega⟩, ⟨by omega, by omega⟩, ⟨by omega, by omega⟩⟩)
      have hF := fk_put hF g_pa (by simp [Lp, Lc]) oq
      have co_a0 := co_a0.kept (oq _ (kn_ne g_a0 g_pa (show (4 : Nat) ≠ 5 by decide)))
      have co_tg := co_tg.kept (oq _ (kn_ne g_tongue_a0 g_pa (show (9 : Nat) ≠ 5 by decide)))
      have cb_b_5 := cb_b_5.kept (oq _ (kn_nT g_b_5 g_pa (ne5 hidn.symm)))
      have cch_b_5 := cch_b_5.kept (oq _ (kn_ne gch_b_5 g_pa (show (0 : Nat) ≠ 5 by decide)))
      have c_kf := c_kf.kept (oq _ (kn_ne g_keys_a0 g_pa (show (228 : Nat) ≠ 5 by decide)))
      have c_tf := c_tf.kept (oq _ (kn_ne g_forms_tg g_pa (show (212 : Nat) ≠ 5 by decide)))
      have cfo_b_5 := cfo_b_5.kept (oq _ (kn_ne gfo_b_5 g_pa (show (210 : Nat) ≠ 5 by decide)))
      have cru_b_5 := cru_b_5.kept (oq _ (kn_ne gru_b_5 g_pa (show (211 : Nat) ≠ 5 by decide)))
      have hpc := pch_keep hpc (fun q hq => oq q (fun e9 => by rw [e9, g_pa] at hq; simp [Lc] at hq))
      have co_pa := c9
      clear oq c9
      refine lv_aload_n hx hb dX4_grow_87 rfl (lv_at hl 5 rfl) ?_
      refine lv_iload hx hb dX4_grow_88 (lv_at hl 0 rfl) ?_
      refine iz_nez (tgt := 97) hx hb dX4_grow_90 (by decide) (by unfold rg2; omega) (fun br_38 => ?_) (fun br_38 => ?_)
      · refine lv_iconst (v := kz 0) hx hb dX4_grow_97 rfl ?_
        refine iz_put (D := (dC, dI)) (ci := 5) (v := .int (kz 0)) (ty := .boolean) (C := RX5) (T := TX5) (N := 6) hx hb hts hinX5 tyX5 tyX5_ok nmX5 hown hK co_pa hS (jv_A hI g_pa (show (30 : Nat) ≠ 0 by decide)) rfl 4 (by decide) hL82 (fun _ h9 => h9) rfl (by decide +kernel) (by decide) rfl (Nat.le_of_ble_eq_true rfl) dX4_grow_98 (fun H locs c9 oq hS => ?_)
        have hI := jv_set hI c9 oq (by rw [g_pa]; exact jv_c5 ⟨chain_pa, z_34, z_37, pl_b_5, 0, (kcnt kf (ky % 16384) (Int.toNat keyCount_a0)), rfl, g_chain_pa, ⟨by omega, by omega⟩, ⟨by omega, by omega⟩, ⟨by omega, by omega⟩, ⟨by omega, by omega⟩, ⟨by omega, by omega⟩⟩)
        have hF := fk_put hF g_pa (by simp [Lp, Lc]) oq
        have co_a0 := co_a0.kept (oq _ (kn_ne g_a0 g_pa (show (4 : Nat) ≠ 5 by decide)))
        have co_tg := co_tg.kept (oq _ (kn_ne g_tongue_a0 g_pa (show (9 : Nat) ≠ 5 by decide)))
        have cb_b_5 := cb_b_5.kept (oq _ (kn_nT g_b_5 g_pa (ne5 hidn.symm)))
        have cch_b_5 := cch_b_5.kept (oq _ (kn_ne gch_b_5 g_pa (show (0 : Nat) ≠ 5 by decide)))
        have c_kf := c_kf.kept (oq _ (kn_ne g_keys_a0 g_pa (show (228 : Nat) ≠ 5 by decide)))
        have c_tf := c_tf.kept (oq _ (kn_ne g_forms_tg g_pa (show (212 : Nat) ≠ 5 by decide)))
        have cfo_b_5 := cfo_b_5.kept (oq _ (kn_ne gfo_b_5 g_pa (show (210 : Nat) ≠ 5 by decide)))
        have cru_b_5 := cru_b_5.kept (oq _ (kn_ne gru_b_5 g_pa (show (211 : Nat) ≠ 5 by decide)))
        have hpc := pch_keep hpc (fun q hq => oq q (fun e9 => by rw [e9, g_pa] at hq; simp [Lc] at hq))
        have co_pa := c9
        clear oq c9
        refine lv_aload_n hx hb dX4_grow_101 rfl (lv_at hl 5 rfl) ?_
        refine iz_get (D := (dC, dI)) (ci := 5) (v := .int (kz 0)) (C := RX5) (T := TX5) (N := 6) hx hb hts hinX5 hown hK co_pa rfl 4 (by decide) hL82 (fun _ h9 => h9) rfl dX4_grow_102 ?_
        refine iz_nez (tgt := 118) hx hb dX4_grow_105 (by decide) (by unfold rg2; omega) (fun q9 => absurd q9 (by decide)) (fun _ => ?_)
        refine lv_aloadN hx hb dX4_grow_108 (lv_at hl 2 rfl) ?_
        refine lv_ifnullN (tgt := 118) hx hb dX4_grow_110 (by decide) ?_
        exact W.vret hx hb hr (fun t9 ht hW => ⟨⟨X, rfl, hT, jK_warm hW ⟨hK, hN⟩, by rw [ht]; exact ⟨hI, fk_dn hT hF, pok_mk hU g_pa g_chain_pa co_pa (by omega) (by omega) (by omega) (by omega) (by omega) hpc⟩⟩, hS.F ht⟩) hS.2.2 dX4_grow_118
      · refine lv_iconst (v := kz 1) hx hb dX4_grow_93 rfl ?_
        refine lv_goto (tgt := 98) hx hb dX4_grow_94 (by decide) ?_
        refine iz_put (D := (dC, dI)) (ci := 5) (v := .int (kz 1)) (ty := .boolean) (C := RX5) (T := TX5) (N := 6) hx hb hts hinX5 tyX5 tyX5_ok nmX5 hown hK co_pa hS (jv_A hI g_pa (show (30 : Nat) ≠ 0 by decide)) rfl 4 (by decide) hL82 (fun _ h9 => h9) rfl (by decide +kernel) (by decide) rfl (Nat.le_of_ble_eq_true rfl) dX4_grow_98 (fun H locs c9 oq hS => ?_)
        have hI := jv_set hI c9 oq (by rw [g_pa]; exact jv_c5 ⟨chain_pa, z_34, z_37, pl_b_5, 1, (kcnt kf (ky % 16384) (Int.toNat keyCount_a0)), rfl, g_chain_pa, ⟨by omega, by omega⟩, ⟨by omega, by omega⟩, ⟨by omega, by omega⟩, ⟨by omega, by omega⟩, ⟨by omega, by omega⟩⟩)
        have hF := fk_put hF g_pa (by simp [Lp, Lc]) oq
        have co_a0 := co_a0.kept (oq _ (kn_ne g_a0 g_pa (show (4 : Nat) ≠ 5 by decide)))
        have co_tg := co_tg.kept (oq _ (kn_ne g_tongue_a0 g_pa (show (9 : Nat) ≠ 5 by decide)))
        have cb_b_5 := cb_b_5.kept (oq _ (kn_nT g_b_5 g_pa (ne5 hidn.symm)))
        have cch_b_5 := cch_b_5.kept (oq _ (kn_ne gch_b_5 g_pa (show (0 : Nat) ≠ 5 by decide)))
        have c_kf := c_kf.kept (oq _ (kn_ne g_keys_a0 g_pa (show (228 : Nat) ≠ 5 by decide)))
        have c_tf := c_tf.kept (oq _ (kn_ne g_forms_tg g_pa (show (212 : Nat) ≠ 5 by decide)))
        have cfo_b_5 := cfo_b_5.kept (oq _ (kn_ne gfo_b_5 g_pa (show (210 : Nat) ≠ 5 by decide)))
        have cru_b_5 := cru_b_5.kept (oq _ (kn_ne gru_b_5 g_pa (show (211 : Nat) ≠ 5 by decide)))
        have hpc := pch_keep hpc (fun q hq => oq q (fun e9 => by rw [e9, g_pa] at hq; simp [Lc] at hq))
        have co_pa := c9
        clear oq c9
        refine lv_aload_n hx hb dX4_grow_101 rfl (lv_at hl 5 rfl) ?_
        refine iz_get (D := (dC, dI)) (ci := 5) (v := .int (kz 1)) (C := RX5) (T := TX5) (N := 6) hx hb hts hinX5 hown hK co_pa rfl 4 (by decide) hL82 (fun _ h9 => h9) rfl dX4_grow_102 ?_
        refine iz_nez (tgt := 118) hx hb dX4_grow_105 (by decide) (by unfold rg2; omega) (fun _ => ?_) (fun q9 => absurd q9 (by decide))
        exact W.vret hx hb hr (fun t9 ht hW => ⟨⟨X, rfl, hT, jK_warm hW ⟨hK, hN⟩, by rw [ht]; exact ⟨hI, fk_dn hT hF, pok_mk hU g_pa g_chain_pa co_pa (by omega) (by omega) (by omega) (by omega) (by omega) hpc⟩⟩, hS.F ht⟩) hS.2.2 dX4_grow_118
  · have g_b_8 := hw_6 b_8 rfl
    refine W.eq (g2 := F0 m 19 ls [.ref b_8]) rfl ?_
    refine lv_astore (lv' := [(4, .ref b_8), (3, .ref b_5), (0, .ref a0), (1, .ref pa), (2, .int (kz ky))]) hx hb dX4_grow_19 hl (by decide) rfl (fun ls hl => ?_)
    refine lv_aload_n hx hb dX4_grow_21 rfl (lv_at hl 2 rfl) ?_
    refine iz_get (D := (dC, dI)) (ci := 4) (v := .ref tongue_a0) (C := RX4) (T := TX4) (N := 10) hx hb hts hinX4 hown hK co_a0 rfl 8 (by decide) hL42 (fun _ h9 => h9) rfl dX4_grow_22 ?_
    refine lv_iload_n hx hb dX4_grow_25 rfl (lv_at hl 4 rfl) ?_
    refine vp_callSi (va_Run.run (va_runS (As := [.int (kz ky)]) (rest := [.ref tongue_a0]) ⟨hx, hb, hml, hown, hts⟩ (c_keyForm l ky (by omega)) (va_cwS 1 hts gX4_grow_X4_keyForm rfl rfl rfl (by decide +kernel) ⟨Nat.le_of_ble_eq_true rfl, Nat.le_of_ble_eq_true rfl⟩) ⟨fun a U g mk q => q, fun U hU hW => ⟨rfl, trivial⟩⟩ rfl rfl hl.1 rfl (lv_room (Nat.le_of_ble_eq_true rfl)) dX4_grow_26 ⟨Nat.le_of_ble_eq_true rfl, Nat.le_of_ble_eq_true rfl⟩)) (fun r_40 hw_39 => ?_)
    obtain ⟨z_41, rfl, z_41x⟩ := hw_39
    refine va_csq (va_Run.run (va_runV (As := [.int (kz z_41)]) (rest := []) ⟨hx, hb, hml, hown, hts⟩ (c_tgFormAtX l dC dI ca A X hU tongue_a0 z_41 forms_tg rules_tg formCount_tg ruleCount_tg forbidden_tg tf g_tongue_a0 g_forms_tg g_rules_tg (by omega) (by omega) g_forbidden_tg (by omega) (by omega) (by omega) (by omega)) (cwV 1 hts gX4_grow_X9_formAt rfl rfl rfl (by decide +kernel) ⟨Nat.le_of_ble_eq_true rfl, Nat.le_of_ble_eq_true rfl⟩) ⟨fun a U g mk q => by obtain ⟨q0, ⟨qK, qN⟩, qI⟩ := q; exact ⟨q0, ⟨va_K.moved (u := U) (U := U.calling g mk a) (Vm.Alike.refl U.vm) qK, jN_same (U := U.calling g mk a) rfl qN⟩, qI⟩, va_recv hK (at_P co_tg) (ci := 9) (q0 := 0) rfl rfl, fun U hU hW => ⟨rfl, jK_warm hW ⟨hK, hN⟩, by rw [hU]; exact ⟨hI, co_tg, c_tf⟩⟩⟩ rfl rfl hl.1 rfl (lv_room (Nat.le_of_ble_eq_true rfl)) dX4_grow_29 ⟨Nat.le_of_ble_eq_true rfl, Nat.le_of_ble_eq_true rfl⟩)) (fun r_43 hw_42 => ?_)
    obtain ⟨hw_42, hw_42x⟩ := hw_42
    rcases r_43 with _ | b_44
    · refine W.eq (g2 := F0 m 32 ls [.null]) rfl ?_
      refine lv_astoreN (lv' := [(5, .null), (4, .ref b_8), (3, .ref b_5), (0, .ref a0), (1, .ref pa), (2, .int (kz ky))]) hx hb dX4_grow_32 hl (by decide) rfl (fun ls hl => ?_)
      refine lv_iload_n hx hb dX4_grow_34 rfl (lv_at hl 5 rfl) ?_
      refine lv_bipush (v := kz 6) hx hb dX4_grow_35 (by decide) ?_
      refine lv_ishr hx hb dX4_grow_37 ?_
      refine iz_any (fun z_45 z_45a z_45b z_45e => ?_)
      refine lv_bipush (v := kz 31) hx hb dX4_grow_38 (by decide) ?_
      refine iz_iand hx hb dX4_grow_40 (by decide) (fun z_46 z_46a z_46b z_46e => ?_)
      have ht1 := shr_div (n := 6) (by decide) (by decide) (by omega) (by omega) z_45e
      have ht2 := and_mod (k := 5) (by decide) (by decide) z_46e (by omega)
      refine lv_istore (lv' := [(6, .int (kz z_46)), (5, .null), (4, .ref b_8), (3, .ref b_5), (0, .ref a0), (1, .ref pa), (2, .int (kz ky))]) hx hb dX4_grow_41 hl (by decide) rfl (fun ls hl => ?_)
      refine lv_aload_n hx hb dX4_grow_43 rfl (lv_at hl 5 rfl) ?_
      refine iz_get (D := (dC, dI)) (ci := 5) (v := .ref chain_pa) (C := RX5) (T := TX5) (N := 6) hx hb hts hinX5 hown hK co_pa rfl 0 (by decide) hL96 (fun _ h9 => h9) rfl dX4_grow_44 ?_
      refine lv_aload_n hx hb dX4_grow_47 rfl (lv_at hl 3 rfl) ?_
      refine iz_get (D := (dC, dI)) (ci := 5) (v := .ref ch_b_5) (C := RX5) (T := TX5) (N := 6) hx hb hts hinX5 hown hK cb_b_5 rfl 0 (by decide) hL96 (fun _ h9 => h9) rfl dX4_grow_48 ?_
      obtain ⟨fs9, co_47, jo9⟩ := jv_o0 hI g_chain_pa
      obtain ⟨forms_47, rules_47, size_47, rfl, g_forms_47, g_rules_47, ⟨size_47a, size_47b⟩, x_47_0⟩ := jo9
      obtain ⟨f_48, c_f_48, k_f_48⟩ := jv_q24 hI g_forms_47
      obtain ⟨f_49, c_f_49, k_f_49⟩ := jv_q25 hI g_rules_47
      refine va_callv (va_runV (As := [.ref ch_b_5]) (rest := []) ⟨hx, hb, hml, hown, hts⟩ (c_copyFromX l dC dI ca A X hU H chain_pa ch_b_5 id (8 * Int.toNat pp_a0 + j_b_5) forms_47 rules_47 size_47 fo_b_5 ru_b_5 sz_b_5 f_48 f_49 ff_b_5 fr_b_5 g_chain_pa gch_b_5 g_forms_47 g_rules_47 (by omega) (by omega) gfo_b_5 gru_b_5 (by omega) (by omega) hidn rO_b_5) (cwV 1 hts gX4_grow_X0_copyFrom rfl rfl rfl (by decide +kernel) ⟨Nat.le_of_ble_eq_true rfl, Nat.le_of_ble_eq_true rfl⟩) ⟨fun a U g mk q => by obtain ⟨q0, qH, ⟨qK, qN⟩, qI⟩ := q; exact ⟨q0, qH, ⟨va_K.moved (u := U) (U := U.calling g mk a) (Vm.Alike.refl U.vm) qK, jN_same (U := U.calling g mk a) rfl qN⟩, qI⟩, va_recv hK (at_P co_47) (ci := 0) (q0 := 0) rfl rfl, fun U hU hW => ⟨rfl, hU, jK_warm hW ⟨hK, hN⟩, by rw [hU]; exact ⟨hI, co_47, cch_b_5, c_f_48, c_f_49, cfo_b_5, cru_b_5⟩⟩⟩ rfl rfl hl.1 rfl (lv_room (Nat.le_of_ble_eq_true rfl)) dX4_grow_51 ⟨Nat.le_of_ble_eq_true rfl, Nat.le_of_ble_eq_true rfl⟩) hS (fun q _ h => h) (fun q h => h) (fun X t9 H locs ht hvm hw_50 hB hz1 hk1 hS => ?_)
      obtain ⟨-, hI, hf9, hpc9⟩ := hB
      rw [ht] at hI hf9 hpc9
      clear ht hvm hz1
      have co_a0 := fk_at hf9 g_a0 (by simp [Lc]) co_a0
      have co_pa := fk_at hf9 g_pa (by simp [Lc]) co_pa
      have co_tg := fk_at hf9 g_tongue_a0 (by simp [Lc]) co_tg
      have cb_b_5 := fk_at hf9 g_b_5 (by simp [Lc]) cb_b_5
      have cch_b_5 := fk_at hf9 gch_b_5 (nLc0 hidn.symm) cch_b_5
      have c_kf := fk_at hf9 g_keys_a0 (by simp [Lc]) c_kf
      have c_tf := fk_at hf9 g_forms_tg (by simp [Lc]) c_tf
      have cfo_b_5 := fk_at hf9 gfo_b_5 (nLc210 hidn.symm) cfo_b_5
      have cru_b_5 := fk_at hf9 gru_b_5 (nLc211 hidn.symm) cru_b_5
      have hF := fk_up hw_50 (fk_tr hF hf9 (fun c hc => List.mem_cons_of_mem _ hc))
      have x_tg_0 : formCount_tg ≤ (X.2.1 forms_tg : Int) := by have h9 := (hw_50.2.2 forms_tg).1; omega
      have x_tg_1 : ruleCount_tg ≤ (X.2.1 rules_tg : Int) := by have h9 := (hw_50.2.2 rules_tg).1; omega
      have x_tg_2 : ruleCount_tg = (X.2.2.2 : Int) := by rw [hw_50.2.1]; exact x_tg_2
      have r7_b_5 : sz_b_5 ≤ (X.2.1 fo_b_5 : Int) := by have h9 := (hw_50.2.2 fo_b_5).1; omega
      rw [pG_up hw_50 (fun j hj => (k_tf j hj).1) (fun a ha => (rO_b_5 a ha).1)] at hGj
      have ect := ect.trans (cutv_up hw_50 _).symm
      have rO_b_5 := fun a9 (ha9 : lst ff_b_5 sz_b_5 = some a9) => co_up hw_50 (rO_b_5 a9 ha9)
      have g_b_8 := up_t hw_50 g_b_8
      have g_b_5 := up_t hw_50 g_b_5
      have g_a0 := up_t hw_50 g_a0
      have g_pa := up_t hw_50 g_pa
      have g_told_a0 := up_t hw_50 g_told_a0
      have g_grown_a0 := up_t hw_50 g_grown_a0
      have g_keys_a0 := up_t hw_50 g_keys_a0
      have g_tongue_a0 := up_t hw_50 g_tongue_a0
      have g_lattice_a0 := up_t hw_50 g_lattice_a0
      have g_chain_pa := up_t hw_50 g_chain_pa
      have g_forms_tg := up_t hw_50 g_forms_tg
      have g_rules_tg := up_t hw_50 g_rules_tg
      have g_forbidden_tg := up_t hw_50 g_forbidden_tg
      have gch_b_5 := up_t hw_50 gch_b_5
      have gfo_b_5 := up_t hw_50 gfo_b_5
      have gru_b_5 := up_t hw_50 gru_b_5
      have g_forms_47 := up_t hw_50 g_forms_47
      have g_rules_47 := up_t hw_50 g_rules_47
      have hU := up_U hw_50 hU
      have hT := jup_tr hT hw_50
      have k_tf := kq24 hI g_forms_tg c_tf
      have kfo_b_5 := kq24 hI gfo_b_5 cfo_b_5
      have kru_b_5 := kq25 hI gru_b_5 cru_b_5
      have hpc := hpc9
      clear hk1 hf9 hpc9
      refine lv_aload_n hx hb dX4_grow_54 rfl (lv_at hl 5 rfl) ?_
      refine lv_iload_n hx hb dX4_grow_55 rfl (lv_at hl 6 rfl) ?_
      refine lv_bipush (v := kz 14) hx hb dX4_grow_56 (by decide) ?_
      refine lv_ishr hx hb dX4_grow_58 ?_
      refine iz_any (fun z_52 z_52a z_52b z_52e => ?_)
      refine iz_put (D := (dC, dI)) (ci := 5) (v := .int (kz z_52)) (ty := .int) (C := RX5) (T := TX5) (N := 6) hx hb hts hinX5 tyX5 tyX5_ok nmX5 hown hK co_pa hS (jv_A hI g_pa (show (30 : Nat) ≠ 0 by decide)) rfl 1 (by decide) hL115 (fun _ h9 => h9) rfl (by decide +kernel) rfl rfl (Nat.le_of_ble_eq_true rfl) dX4_grow_59 (fun H locs c9 oq hS => ?_)
      have hI := jv_set hI c9 oq (by rw [g_pa]; exact jv_c5 ⟨chain_pa, z_52, spent_pa, place_pa, ended_pa, rank_pa, rfl, g_chain_pa, ⟨by omega, by omega⟩, ⟨by omega, by omega⟩, ⟨by omega, by omega⟩, ⟨by omega, by omega⟩, ⟨by omega, by omega⟩⟩)
      have hF := fk_put hF g_pa (by simp [Lp, Lc]) oq
      have co_a0 := co_a0.kept (oq _ (kn_ne g_a0 g_pa (show (4 : Nat) ≠ 5 by decide)))
      have co_tg := co_tg.kept (oq _ (kn_ne g_tongue_a0 g_pa (show (9 : Nat) ≠ 5 by decide)))
      have cb_b_5 := cb_b_5.kept (oq _ (kn_nT g_b_5 g_pa (ne5 hidn.symm)))
      have cch_b_5 := cch_b_5.kept (oq _ (kn_ne gch_b_5 g_pa (show (0 : Nat) ≠ 5 by decide)))
      have c_kf := c_kf.kept (oq _ (kn_ne g_keys_a0 g_pa (show (228 : Nat) ≠ 5 by decide)))
      have c_tf := c_tf.kept (oq _ (kn_ne g_forms_tg g_pa (show (212 : Nat) ≠ 5 by decide)))
      have cfo_b_5 := cfo_b_5.kept (oq _ (kn_ne gfo_b_5 g_pa (show (210 : Nat) ≠ 5 by decide)))
      have cru_b_5 := cru_b_5.kept (oq _ (kn_ne gru_b_5 g_pa (show (211 : Nat) ≠ 5 by decide)))
      have hpc := pch_keep hpc (fun q hq => oq q (fun e9 => by rw [e9, g_pa] at hq; simp [Lc] at hq))
      have co_pa := c9
      clear oq c9
      refine lv_aload_n hx hb dX4_grow_62 rfl (lv_at hl 5 rfl) ?_
      refine lv_aload_n hx hb dX4_grow_63 rfl (lv_at hl 4 rfl) ?_
      refine lv_iload_n hx hb dX4_grow_64 rfl (lv_at hl 6 rfl) ?_
      refine vp_callSi (va_Run.run (va_runV (As := [.int (kz ky)]) (rest := [.ref pa]) ⟨hx, hb, hml, hown, hts⟩ (c_rankOf l dC dI ca A X hU a0 ky pp_a0 countedUncut_a0 counted_a0 left_a0 told_a0 toldCount_a0 grown_a0 keys_a0 keyCount_a0 tongue_a0 lattice_a0 kf g_a0 (by omega) g_told_a0 (by omega) g_grown_a0 g_keys_a0 (by omega) g_tongue_a0 g_lattice_a0 (by omega) (by omega) (by omega)) (cwV 1 hts gX4_grow_X4_rankOf rfl rfl rfl (by decide +kernel) ⟨Nat.le_of_ble_eq_true rfl, Nat.le_of_ble_eq_true rfl⟩) ⟨fun a U g mk q => by obtain ⟨q0, ⟨qK, qN⟩, qI⟩ := q; exact ⟨q0, ⟨va_K.moved (u := U) (U := U.calling g mk a) (Vm.Alike.refl U.vm) qK, jN_same (U := U.calling g mk a) rfl qN⟩, qI⟩, va_recv hK (at_P co_a0) (ci := 4) (q0 := 0) rfl rfl, fun U hU hW => ⟨rfl, jK_warm hW ⟨hK, hN⟩, by rw [hU]; exact ⟨hI, co_a0, c_kf⟩⟩⟩ rfl rfl hl.1 rfl (lv_room (Nat.le_of_ble_eq_true rfl)) dX4_grow_65 ⟨Nat.le_of_ble_eq_true rfl, Nat.le_of_ble_eq_true rfl⟩)) (fun r_54 hw_53 => ?_)
      subst hw_53
      refine iz_put (D := (dC, dI)) (ci := 5) (v := .int (kz (kcnt kf (ky % 16384) (Int.toNat keyCount_a0)))) (ty := .int) (C := RX5) (T := TX5) (N := 6) hx hb hts hinX5 tyX5 tyX5_ok nmX5 hown hK co_pa hS (jv_A hI g_pa (show (30 : Nat) ≠ 0 by decide)) rfl 5 (by decide) hL127 (fun _ h9 => h9) rfl (by decide +kernel) rfl rfl (Nat.le_of_ble_eq_true rfl) dX4_grow_68 (fun H locs c9 oq hS => ?_)
      have hI := jv_set hI c9 oq (by rw [g_pa]; exact jv_c5 ⟨chain_pa, z_52, spent_pa, place_pa, ended_pa, (kcnt kf (ky % 16384) (Int.toNat keyCount_a0)), rfl, g_chain_pa, ⟨by omega, by omega⟩, ⟨by omega, by omega⟩, ⟨by omega, by omega⟩, ⟨by omega, by omega⟩, ⟨by omega, by omega⟩⟩)
      have hF := fk_put hF g_pa (by simp [Lp, Lc]) oq
      have co_a0 := co_a0.kept (oq _ (kn_ne g_a0 g_pa (show (4 : Nat) ≠ 5 by decide)))
      have co_tg := co_tg.kept (oq _ (kn_ne g_tongue_a0 g_pa (show (9 : Nat) ≠ 5 by decide)))
      have cb_b_5 := cb_b_5.kept (oq _ (kn_nT g_b_5 g_pa (ne5 hidn.symm)))
      have cch_b_5 := cch_b_5.kept (oq _ (kn_ne gch_b_5 g_pa (show (0 : Nat) ≠ 5 by decide)))
      have c_kf := c_kf.kept (oq _ (kn_ne g_keys_a0 g_pa (show (228 : Nat) ≠ 5 by decide)))
      have c_tf := c_tf.kept (oq _ (kn_ne g_forms_tg g_pa (show (212 : Nat) ≠ 5 by decide)))
      have cfo_b_5 := cfo_b_5.kept (oq _ (kn_ne gfo_b_5 g_pa (show (210 : Nat) ≠ 5 by decide)))
      have cru_b_5 := cru_b_5.kept (oq _ (kn_ne gru_b_5 g_pa (show (211 : Nat) ≠ 5 by decide)))
      have hpc := pch_keep hpc (fun q hq => oq q (fun e9 => by rw [e9, g_pa] at hq; simp [Lc] at hq))
      have co_pa := c9
      clear oq c9
      refine lv_aload_n hx hb dX4_grow_71 rfl (lv_at hl 5 rfl) ?_
      refine lv_aload_n hx hb dX4_grow_72 rfl (lv_at hl 3 rfl) ?_
      refine iz_get (D := (dC, dI)) (ci := 5) (v := .int (kz sp_b_5)) (C := RX5) (T := TX5) (N := 6) hx hb hts hinX5 hown hK cb_b_5 rfl 2 (by decide) hL118 (fun _ h9 => h9) rfl dX4_grow_73 ?_
      refine iz_any (fun z_55 z_55a z_55b z_55e => ?_)
      refine iz_put (D := (dC, dI)) (ci := 5) (v := .int (kz z_55)) (ty := .int) (C := RX5) (T := TX5) (N := 6) hx hb hts hinX5 tyX5 tyX5_ok nmX5 hown hK co_pa hS (jv_A hI g_pa (show (30 : Nat) ≠ 0 by decide)) rfl 2 (by decide) hL118 (fun _ h9 => h9) rfl (by decide +kernel) rfl rfl (Nat.le_of_ble_eq_true rfl) dX4_grow_76 (fun H locs c9 oq hS => ?_)
      have hI := jv_set hI c9 oq (by rw [g_pa]; exact jv_c5 ⟨chain_pa, z_52, z_55, place_pa, ended_pa, (kcnt kf (ky % 16384) (Int.toNat keyCount_a0)), rfl, g_chain_pa, ⟨by omega, by omega⟩, ⟨by omega, by omega⟩, ⟨by omega, by omega⟩, ⟨by omega, by omega⟩, ⟨by omega, by omega⟩⟩)
      have hF := fk_put hF g_pa (by simp [Lp, Lc]) oq
      have co_a0 := co_a0.kept (oq _ (kn_ne g_a0 g_pa (show (4 : Nat) ≠ 5 by decide)))
      have co_tg := co_tg.kept (oq _ (kn_ne g_tongue_a0 g_pa (show (9 : Nat) ≠ 5 by decide)))
      have cb_b_5 := cb_b_5.kept (oq _ (kn_nT g_b_5 g_pa (ne5 hidn.symm)))
      have cch_b_5 := cch_b_5.kept (oq _ (kn_ne gch_b_5 g_pa (show (0 : Nat) ≠ 5 by decide)))
      have c_kf := c_kf.kept (oq _ (kn_ne g_keys_a0 g_pa (show (228 : Nat) ≠ 5 by decide)))
      have c_tf := c_tf.kept (oq _ (kn_ne g_forms_tg g_pa (show (212 : Nat) ≠ 5 by decide)))
      have cfo_b_5 := cfo_b_5.kept (oq _ (kn_ne gfo_b_5 g_pa (show (210 : Nat) ≠ 5 by decide)))
      have cru_b_5 := cru_b_5.kept (oq _ (kn_ne gru_b_5 g_pa (show (211 : Nat) ≠ 5 by decide)))
      have hpc := pch_keep hpc (fun q hq => oq q (fun e9 => by rw [e9, g_pa] at hq; simp [Lc] at hq))
      have co_pa := c9
      clear oq c9
      refine lv_aload_n hx hb dX4_grow_79 rfl (lv_at hl 5 rfl) ?_
      refine lv_aload_n hx hb dX4_grow_80 rfl (lv_at hl 3 rfl) ?_
      refine iz_get (D := (dC, dI)) (ci := 5) (v := .int (kz pl_b_5)) (C := RX5) (T := TX5) (N := 6) hx hb hts hinX5 hown hK cb_b_5 rfl 3 (by decide) hL121 (fun _ h9 => h9) rfl dX4_grow_81 ?_
      refine iz_put (D := (dC, dI)) (ci := 5) (v := .int (kz pl_b_5)) (ty := .int) (C := RX5) (T := TX5) (N := 6) hx hb hts hinX5 tyX5 tyX5_ok nmX5 hown hK co_pa hS (jv_A hI g_pa (show (30 : Nat) ≠ 0 by decide)) rfl 3 (by decide) hL121 (fun _ h9 => h9) rfl (by decide +kernel) rfl rfl (Nat.le_of_ble_eq_true rfl) dX4_grow_84 (fun H locs c9 oq hS => ?_)
      have hI := jv_set hI c9 oq (by rw [g_pa]; exact jv_c5 ⟨chain_pa, z_52, z_55, pl_b_5, ended_pa, (kcnt kf (ky % 16384) (Int.toNat keyCount_a0)), rfl, g_chain_pa, ⟨by omega, by omega⟩, ⟨by omega, by omega⟩, ⟨by omega, by omega⟩, ⟨by omega, by omega⟩, ⟨by omega, by omega⟩⟩)
      have hF := fk_put hF g_pa (by simp [Lp, Lc]) oq
      have co_a0 := co_a0.kept (oq _ (kn_ne g_a0 g_pa (show (4 : Nat) ≠ 5 by decide)))
      have co_tg := co_tg.kept (oq _ (kn_ne g_tongue_a0 g_pa (show (9 : Nat) ≠ 5 by decide)))
      have cb_b_5 := cb_b_5.kept (oq _ (kn_nT g_b_5 g_pa (ne5 hidn.symm)))
      have cch_b_5 := cch_b_5.kept (oq _ (kn_ne gch_b_5 g_pa (show (0 : Nat) ≠ 5 by decide)))
      have c_kf := c_kf.kept (oq _ (kn_ne g_keys_a0 g_pa (show (228 : Nat) ≠ 5 by decide)))
      have c_tf := c_tf.kept (oq _ (kn_ne g_forms_tg g_pa (show (212 : Nat) ≠ 5 by decide)))
      have cfo_b_5 := cfo_b_5.kept (oq _ (kn_ne gfo_b_5 g_pa (show (210 : Nat) ≠ 5 by decide)))
      have cru_b_5 := cru_b_5.kept (oq _ (kn_ne gru_b_5 g_pa (show (211 : Nat) ≠ 5 by decide)))
      have hpc := pch_keep hpc (fun q hq => oq q (fun e9 => by rw [e9, g_pa] at hq; simp [Lc] at hq))
      have co_pa := c9
      clear oq c9
      refine lv_aload_n hx hb dX4_grow_87 rfl (lv_at hl 5 rfl) ?_
      refine lv_iload hx hb dX4_grow_88 (lv_at hl 0 rfl) ?_
      refine iz_nez (tgt := 97) hx hb dX4_grow_90 (by decide) (by unfold rg2; omega) (fun br_56 => ?_) (fun br_56 => ?_)
      · refine lv_iconst (v := kz 0) hx hb dX4_grow_97 rfl ?_
        refine iz_put (D := (dC, dI)) (ci := 5) (v := .int (kz 0)) (ty := .boolean) (C := RX5) (T := TX5) (N := 6) hx hb hts hinX5 tyX5 tyX5_ok nmX5 hown hK co_pa hS (jv_A hI g_pa (show (30 : Nat) ≠ 0 by decide)) rfl 4 (by decide) hL82 (fun _ h9 => h9) rfl (by decide +kernel) (by decide) rfl (Nat.le_of_ble_eq_true rfl) dX4_grow_98 (fun H locs c9 oq hS => ?_)
        have hI := jv_set hI c9 oq (by rw [g_pa]; exact jv_c5 ⟨chain_pa, z_52, z_55, pl_b_5, 0, (kcnt kf (ky % 16384) (Int.toNat keyCount_a0)), rfl, g_chain_pa, ⟨by omega, by omega⟩, ⟨by omega, by omega⟩, ⟨by omega, by omega⟩, ⟨by omega, by omega⟩, ⟨by omega, by omega⟩⟩)
        have hF := fk_put hF g_pa (by simp [Lp, Lc]) oq
        have co_a0 := co_a0.kept (oq _ (kn_ne g_a0 g_pa (show (4 : Nat) ≠ 5 by decide)))
        have co_tg := co_tg.kept (oq _ (kn_ne g_tongue_a0 g_pa (show (9 : Nat) ≠ 5 by decide)))
        have cb_b_5 := cb_b_5.kept (oq _ (kn_nT g_b_5 g_pa (ne5 hidn.symm)))
        have cch_b_5 := cch_b_5.kept (oq _ (kn_ne gch_b_5 g_pa (show (0 : Nat) ≠ 5 by decide)))
        have c_kf := c_kf.kept (oq _ (kn_ne g_keys_a0 g_pa (show (228 : Nat) ≠ 5 by decide)))
        have c_tf := c_tf.kept (oq _ (kn_ne g_forms_tg g_pa (show (212 : Nat) ≠ 5 by decide)))
        have cfo_b_5 := cfo_b_5.kept (oq _ (kn_ne gfo_b_5 g_pa (show (210 : Nat) ≠ 5 by decide)))
        have cru_b_5 := cru_b_5.kept (oq _ (kn_ne gru_b_5 g_pa (show (211 : Nat) ≠ 5 by decide)))
        have hpc := pch_keep hpc (fun q hq => oq q (fun e9 => by rw [e9, g_pa] at hq; simp [Lc] at hq))
        have co_pa := c9
        clear oq c9
        refine lv_aload_n hx hb dX4_grow_101 rfl (lv_at hl 5 rfl) ?_
        refine iz_get (D := (dC, dI)) (ci := 5) (v := .int (kz 0)) (C := RX5) (T := TX5) (N := 6) hx hb hts hinX5 hown hK co_pa rfl 4 (by decide) hL82 (fun _ h9 => h9) rfl dX4_grow_102 ?_
        refine iz_nez (tgt := 118) hx hb dX4_grow_105 (by decide) (by unfold rg2; omega) (fun q9 => absurd q9 (by decide)) (fun _ => ?_)
        refine lv_aload hx hb dX4_grow_108 (lv_at hl 2 rfl) ?_
        refine lv_ifnull hx hb dX4_grow_110 ?_
        refine lv_aloadN hx hb dX4_grow_113 (lv_at hl 1 rfl) ?_
        refine lv_ifnonnullN hx hb dX4_grow_115 ?_
        exact W.vret hx hb hr (fun t9 ht hW => ⟨⟨X, rfl, hT, jK_warm hW ⟨hK, hN⟩, by rw [ht]; exact ⟨hI, fk_dn hT hF, pok_mk hU g_pa g_chain_pa co_pa (by omega) (by omega) (by omega) (by omega) (by omega) hpc⟩⟩, hS.F ht⟩) hS.2.2 dX4_grow_118
      · refine lv_iconst (v := kz 1) hx hb dX4_grow_93 rfl ?_
        refine lv_goto (tgt := 98) hx hb dX4_grow_94 (by decide) ?_
        refine iz_put (D := (dC, dI)) (ci := 5) (v := .int (kz 1)) (ty := .boolean) (C := RX5) (T := TX5) (N := 6) hx hb hts hinX5 tyX5 tyX5_ok nmX5 hown hK co_pa hS (jv_A hI g_pa (show (30 : Nat) ≠ 0 by decide)) rfl 4 (by decide) hL82 (fun _ h9 => h9) rfl (by decide +kernel) (by decide) rfl (Nat.le_of_ble_eq_true rfl) dX4_grow_98 (fun H locs c9 oq hS => ?_)
        have hI := jv_set hI c9 oq (by rw [g_pa]; exact jv_c5 ⟨chain_pa, z_52, z_55, pl_b_5, 1, (kcnt kf (ky % 16384) (Int.toNat keyCount_a0)), rfl, g_chain_pa, ⟨by omega, by omega⟩, ⟨by omega, by omega⟩, ⟨by omega, by omega⟩, ⟨by omega, by omega⟩, ⟨by omega, by omega⟩⟩)
        have hF := fk_put hF g_pa (by simp [Lp, Lc]) oq
        have co_a0 := co_a0.kept (oq _ (kn_ne g_a0 g_pa (show (4 : Nat) ≠ 5 by decide)))
        have co_tg := co_tg.kept (oq _ (kn_ne g_tongue_a0 g_pa (show (9 : Nat) ≠ 5 by decide)))
        have cb_b_5 := cb_b_5.kept (oq _ (kn_nT g_b_5 g_pa (ne5 hidn.symm)))
        have cch_b_5 := cch_b_5.kept (oq _ (kn_ne gch_b_5 g_pa (show (0 : Nat) ≠ 5 by decide)))
        have c_kf := c_kf.kept (oq _ (kn_ne g_keys_a0 g_pa (show (228 : Nat) ≠ 5 by decide)))
        have c_tf := c_tf.kept (oq _ (kn_ne g_forms_tg g_pa (show (212 : Nat) ≠ 5 by decide)))
        have cfo_b_5 := cfo_b_5.kept (oq _ (kn_ne gfo_b_5 g_pa (show (210 : Nat) ≠ 5 by decide)))
        have cru_b_5 := cru_b_5.kept (oq _ (kn_ne gru_b_5 g_pa (show (211 : Nat) ≠ 5 by decide)))
        have hpc := pch_keep hpc (fun q hq => oq q (fun e9 => by rw [e9, g_pa] at hq; simp [Lc] at hq))
        have co_pa := c9
        clear oq c9
        refine lv_aload_n hx hb dX4_grow_101 rfl (lv_at hl 5 rfl) ?_
        refine iz_get (D := (dC, dI)) (ci := 5) (v := .int (kz 1)) (C := RX5) (T := TX5) (N := 6) hx hb hts hinX5 hown hK co_pa rfl 4 (by decide) hL82 (fun _ h9 => h9) rfl dX4_grow_102 ?_
        refine iz_nez (tgt := 118) hx hb dX4_grow_105 (by decide) (by unfold rg2; omega) (fun _ => ?_) (fun q9 => absurd q9 (by decide))
        exact W.vret hx hb hr (fun t9 ht hW => ⟨⟨X, rfl, hT, jK_warm hW ⟨hK, hN⟩, by rw [ht]; exact ⟨hI, fk_dn hT hF, pok_mk hU g_pa g_chain_pa co_pa (by omega) (by omega) (by omega) (by omega) (by omega) hpc⟩⟩, hS.F ht⟩) hS.2.2 dX4_grow_118
    · have g_b_44 := hw_42 b_44 rfl
      refine W.eq (g2 := F0 m 32 ls [.ref b_44]) rfl ?_
      refine lv_astore (lv' := [(5, .ref b_44), (4, .ref b_8), (3, .ref b_5), (0, .ref a0), (1, .ref pa), (2, .int (kz ky))]) hx hb dX4_grow_32 hl (by decide) rfl (fun ls hl => ?_)
      refine lv_iload_n hx hb dX4_grow_34 rfl (lv_at hl 5 rfl) ?_
      refine lv_bipush (v := kz 6) hx hb dX4_grow_35 (by decide) ?_
      refine lv_ishr hx hb dX4_grow_37 ?_
      refine iz_any (fun z_57 z_57a z_57b z_57e => ?_)
      refine lv_bipush (v := kz 31) hx hb dX4_grow_38 (by decide) ?_
      refine iz_iand hx hb dX4_grow_40 (by decide) (fun z_58 z_58a z_58b z_58e => ?_)
      have ht1 := shr_div (n := 6) (by decide) (by decide) (by omega) (by omega) z_57e
      have ht2 := and_mod (k := 5) (by decide) (by decide) z_58e (by omega)
      refine lv_istore (lv' := [(6, .int (kz z_58)), (5, .ref b_44), (4, .ref b_8), (3, .ref b_5), (0, .ref a0), (1, .ref pa), (2, .int (kz ky))]) hx hb dX4_grow_41 hl (by decide) rfl (fun ls hl => ?_)
      refine lv_aload_n hx hb dX4_grow_43 rfl (lv_at hl 5 rfl) ?_
      refine iz_get (D := (dC, dI)) (ci := 5) (v := .ref chain_pa) (C := RX5) (T := TX5) (N := 6) hx hb hts hinX5 hown hK co_pa rfl 0 (by decide) hL96 (fun _ h9 => h9) rfl dX4_grow_44 ?_
      refine lv_aload_n hx hb dX4_grow_47 rfl (lv_at hl 3 rfl) ?_
      refine iz_get (D := (dC, dI)) (ci := 5) (v := .ref ch_b_5) (C := RX5) (T := TX5) (N := 6) hx hb hts hinX5 hown hK cb_b_5 rfl 0 (by decide) hL96 (fun _ h9 => h9) rfl dX4_grow_48 ?_
      obtain ⟨fs9, co_59, jo9⟩ := jv_o0 hI g_chain_pa
      obtain ⟨forms_59, rules_59, size_59, rfl, g_forms_59, g_rules_59, ⟨size_59a, size_59b⟩, x_59_0⟩ := jo9
      obtain ⟨f_60, c_f_60, k_f_60⟩ := jv_q24 hI g_forms_59
      obtain ⟨f_61, c_f_61, k_f_61⟩ := jv_q25 hI g_rules_59
      refine va_callv (va_runV (As := [.ref ch_b_5]) (rest := []) ⟨hx, hb, hml, hown, hts⟩ (c_copyFromX l dC dI ca A X hU H chain_pa ch_b_5 id (8 * Int.toNat pp_a0 + j_b_5) forms_59 rules_59 size_59 fo_b_5 ru_b_5 sz_b_5 f_60 f_61 ff_b_5 fr_b_5 g_chain_pa gch_b_5 g_forms_59 g_rules_59 (by omega) (by omega) gfo_b_5 gru_b_5 (by omega) (by omega) hidn rO_b_5) (cwV 1 hts gX4_grow_X0_copyFrom rfl rfl rfl (by decide +kernel) ⟨Nat.le_of_ble_eq_true rfl, Nat.le_of_ble_eq_true rfl⟩) ⟨fun a U g mk q => by obtain ⟨q0, qH, ⟨qK, qN⟩, qI⟩ := q; exact ⟨q0, qH, ⟨va_K.moved (u := U) (U := U.calling g mk a) (Vm.Alike.refl U.vm) qK, jN_same (U := U.calling g mk a) rfl qN⟩, qI⟩, va_recv hK (at_P co_59) (ci := 0) (q0 := 0) rfl rfl, fun U hU hW => ⟨rfl, hU, jK_warm hW ⟨hK, hN⟩, by rw [hU]; exact ⟨hI, co_59, cch_b_5, c_f_60, c_f_61, cfo_b_5, cru_b_5⟩⟩⟩ rfl rfl hl.1 rfl (lv_room (Nat.le_of_ble_eq_true rfl)) dX4_grow_51 ⟨Nat.le_of_ble_eq_true rfl, Nat.le_of_ble_eq_true rfl⟩) hS (fun q _ h => h) (fun q h => h) (fun X t9 H locs ht hvm hw_62 hB hz1 hk1 hS => ?_)
      obtain ⟨-, hI, hf9, hpc9⟩ := hB
      rw [ht] at hI hf9 hpc9
      clear ht hvm hz1
      have co_a0 := fk_at hf9 g_a0 (by simp [Lc]) co_a0
      have co_pa := fk_at hf9 g_pa (by simp [Lc]) co_pa
      have co_tg := fk_at hf9 g_tongue_a0 (by simp [Lc]) co_tg
      have cb_b_5 := fk_at hf9 g_b_5 (by simp [Lc]) cb_b_5
      have cch_b_5 := fk_at hf9 gch_b_5 (nLc0 hidn.symm) cch_b_5
      have c_kf := fk_at hf9 g_keys_a0 (by simp [Lc]) c_kf
      have c_tf := fk_at hf9 g_forms_tg (by simp [Lc]) c_tf
      have cfo_b_5 := fk_at hf9 gfo_b_5 (nLc210 hidn.symm) cfo_b_5
      have cru_b_5 := fk_at hf9 gru_b_5 (nLc211 hidn.symm) cru_b_5
      have hF := fk_up hw_62 (fk_tr hF hf9 (fun c hc => List.mem_cons_of_mem _ hc))
      have x_tg_0 : formCount_tg ≤ (X.2.1 forms_tg : Int) := by have h9 := (hw_62.2.2 forms_tg).1; omega
      have x_tg_1 : ruleCount_tg ≤ (X.2.1 rules_tg : Int) := by have h9 := (hw_62.2.2 rules_tg).1; omega
      have x_tg_2 : ruleCount_tg = (X.2.2.2 : Int) := by rw [hw_62.2.1]; exact x_tg_2
      have r7_b_5 : sz_b_5 ≤ (X.2.1 fo_b_5 : Int) := by have h9 := (hw_62.2.2 fo_b_5).1; omega
      rw [pG_up hw_62 (fun j hj => (k_tf j hj).1) (fun a ha => (rO_b_5 a ha).1)] at hGj
      have ect := ect.trans (cutv_up hw_62 _).symm
      have rO_b_5 := fun a9 (ha9 : lst ff_b_5 sz_b_5 = some a9) => co_up hw_62 (rO_b_5 a9 ha9)
      have g_b_44 := up_t hw_62 g_b_44
      have g_b_8 := up_t hw_62 g_b_8
      have g_b_5 := up_t hw_62 g_b_5
      have g_a0 := up_t hw_62 g_a0
      have g_pa := up_t hw_62 g_pa
      have g_told_a0 := up_t hw_62 g_told_a0
      have g_grown_a0 := up_t hw_62 g_grown_a0
      have g_keys_a0 := up_t hw_62 g_keys_a0
      have g_tongue_a0 := up_t hw_62 g_tongue_a0
      have g_lattice_a0 := up_t hw_62 g_lattice_a0
      have g_chain_pa := up_t hw_62 g_chain_pa
      have g_forms_tg := up_t hw_62 g_forms_tg
      have g_rules_tg := up_t hw_62 g_rules_tg
      have g_forbidden_tg := up_t hw_62 g_forbidden_tg
      have gch_b_5 := up_t hw_62 gch_b_5
      have gfo_b_5 := up_t hw_62 gfo_b_5
      have gru_b_5 := up_t hw_62 gru_b_5
      have g_forms_59 := up_t hw_62 g_forms_59
      have g_rules_59 := up_t hw_62 g_rules_59
      have hU := up_U hw_62 hU
      have hT := jup_tr hT hw_62
      have k_tf := kq24 hI g_forms_tg c_tf
      have kfo_b_5 := kq24 hI gfo_b_5 cfo_b_5
      have kru_b_5 := kq25 hI gru_b_5 cru_b_5
      have hpc := hpc9
      clear hk1 hf9 hpc9
      refine lv_aload_n hx hb dX4_grow_54 rfl (lv_at hl 5 rfl) ?_
      refine lv_iload_n hx hb dX4_grow_55 rfl (lv_at hl 6 rfl) ?_
      refine lv_bipush (v := kz 14) hx hb dX4_grow_56 (by decide) ?_
      refine lv_ishr hx hb dX4_grow_58 ?_
      refine iz_any (fun z_64 z_64a z_64b z_64e => ?_)
      refine iz_put (D := (dC, dI)) (ci := 5) (v := .int (kz z_64)) (ty := .int) (C := RX5) (T := TX5) (N := 6) hx hb hts hinX5 tyX5 tyX5_ok nmX5 hown hK co_pa hS (jv_A hI g_pa (show (30 : Nat) ≠ 0 by decide)) rfl 1 (by decide) hL115 (fun _ h9 => h9) rfl (by decide +kernel) rfl rfl (Nat.le_of_ble_eq_true rfl) dX4_grow_59 (fun H locs c9 oq hS => ?_)
      have hI := jv_set hI c9 oq (by rw [g_pa]; exact jv_c5 ⟨chain_pa, z_64, spent_pa, place_pa, ended_pa, rank_pa, rfl, g_chain_pa, ⟨by omega, by omega⟩, ⟨by omega, by omega⟩, ⟨by omega, by omega⟩, ⟨by omega, by omega⟩, ⟨by omega, by omega⟩⟩)
      have hF := fk_put hF g_pa (by simp [Lp, Lc]) oq
      have co_a0 := co_a0.kept (oq _ (kn_ne g_a0 g_pa (show (4 : Nat) ≠ 5 by decide)))
      have co_tg := co_tg.kept (oq _ (kn_ne g_tongue_a0 g_pa (show (9 : Nat) ≠ 5 by decide)))
      have cb_b_5 := cb_b_5.kept (oq _ (kn_nT g_b_5 g_pa (ne5 hidn.symm)))
      have cch_b_5 := cch_b_5.kept (oq _ (kn_ne gch_b_5 g_pa (show (0 : Nat) ≠ 5 by decide)))
      have c_kf := c_kf.kept (oq _ (kn_ne g_keys_a0 g_pa (show (228 : Nat) ≠ 5 by decide)))
      have c_tf := c_tf.kept (oq _ (kn_ne g_forms_tg g_pa (show (212 : Nat) ≠ 5 by decide)))
      have cfo_b_5 := cfo_b_5.kept (oq _ (kn_ne gfo_b_5 g_pa (show (210 : Nat) ≠ 5 by decide)))
      have cru_b_5 := cru_b_5.kept (oq _ (kn_ne gru_b_5 g_pa (show (211 : Nat) ≠ 5 by decide)))
      have hpc := pch_keep hpc (fun q hq => oq q (fun e9 => by rw [e9, g_pa] at hq; simp [Lc] at hq))
      have co_pa := c9
      clear oq c9
      refine lv_aload_n hx hb dX4_grow_62 rfl (lv_at hl 5 rfl) ?_
      refine lv_aload_n hx hb dX4_grow_63 rfl (lv_at hl 4 rfl) ?_
      refine lv_iload_n hx hb dX4_grow_64 rfl (lv_at hl 6 rfl) ?_
      refine vp_callSi (va_Run.run (va_runV (As := [.int (kz ky)]) (rest := [.ref pa]) ⟨hx, hb, hml, hown, hts⟩ (c_rankOf l dC dI ca A X hU a0 ky pp_a0 countedUncut_a0 counted_a0 left_a0 told_a0 toldCount_a0 grown_a0 keys_a0 keyCount_a0 tongue_a0 lattice_a0 kf g_a0 (by omega) g_told_a0 (by omega) g_grown_a0 g_keys_a0 (by omega) g_tongue_a0 g_lattice_a0 (by omega) (by omega) (by omega)) (cwV 1 hts gX4_grow_X4_rankOf rfl rfl rfl (by decide +kernel) ⟨Nat.le_of_ble_eq_true rfl, Nat.le_of_ble_eq_true rfl⟩) ⟨fun a U g mk q => by obtain ⟨q0, ⟨qK, qN⟩, qI⟩ := q; exact ⟨q0, ⟨va_K.moved (u := U) (U := U.calling g mk a) (Vm.Alike.refl U.vm) qK, jN_same (U := U.calling g mk a) rfl qN⟩, qI⟩, va_recv hK (at_P co_a0) (ci := 4) (q0 := 0) rfl rfl, fun U hU hW => ⟨rfl, jK_warm hW ⟨hK, hN⟩, by rw [hU]; exact ⟨hI, co_a0, c_kf⟩⟩⟩ rfl rfl hl.1 rfl (lv_room (Nat.le_of_ble_eq_true rfl)) dX4_grow_65 ⟨Nat.le_of_ble_eq_true rfl, Nat.le_of_ble_eq_true rfl⟩)) (fun r_66 hw_65 => ?_)
      subst hw_65
      refine iz_put (D := (dC, dI)) (ci := 5) (v := .int (kz (kcnt kf (ky % 16384) (Int.toNat keyCount_a0)))) (ty := .int) (C := RX5) (T := TX5) (N := 6) hx hb hts hinX5 tyX5 tyX5_ok nmX5 hown hK co_pa hS (jv_A hI g_pa (show (30 : Nat) ≠ 0 by decide)) rfl 5 (by decide) hL127 (fun _ h9 => h9) rfl (by decide +kernel) rfl rfl (Nat.le_of_ble_eq_true rfl) dX4_grow_68 (fun H locs c9 oq hS => ?_)
      have hI := jv_set hI c9 oq (by rw [g_pa]; exact jv_c5 ⟨chain_pa, z_64, spent_pa, place_pa, ended_pa, (kcnt kf (ky % 16384) (Int.toNat keyCount_a0)), rfl, g_chain_pa, ⟨by omega, by omega⟩, ⟨by omega, by omega⟩, ⟨by omega, by omega⟩, ⟨by omega, by omega⟩, ⟨by omega, by omega⟩⟩)
      have hF := fk_put hF g_pa (by simp [Lp, Lc]) oq
      have co_a0 := co_a0.kept (oq _ (kn_ne g_a0 g_pa (show (4 : Nat) ≠ 5 by decide)))
      have co_tg := co_tg.kept (oq _ (kn_ne g_tongue_a0 g_pa (show (9 : Nat) ≠ 5 by decide)))
      have cb_b_5 := cb_b_5.kept (oq _ (kn_nT g_b_5 g_pa (ne5 hidn.symm)))
      have cch_b_5 := cch_b_5.kept (oq _ (kn_ne gch_b_5 g_pa (show (0 : Nat) ≠ 5 by decide)))
      have c_kf := c_kf.kept (oq _ (kn_ne g_keys_a0 g_pa (show (228 : Nat) ≠ 5 by decide)))
      have c_tf := c_tf.kept (oq _ (kn_ne g_forms_tg g_pa (show (212 : Nat) ≠ 5 by decide)))
      have cfo_b_5 := cfo_b_5.kept (oq _ (kn_ne gfo_b_5 g_pa (show (210 : Nat) ≠ 5 by decide)))
      have cru_b_5 := cru_b_5.kept (oq _ (kn_ne gru_b_5 g_pa (show (211 : Nat) ≠ 5 by decide)))
      have hpc := pch_keep hpc (fun q hq => oq q (fun e9 => by rw [e9, g_pa] at hq; simp [Lc] at hq))
      have co_pa := c9
      clear oq c9
      refine lv_aload_n hx hb dX4_grow_71 rfl (lv_at hl 5 rfl) ?_
      refine lv_aload_n hx hb dX4_grow_72 rfl (lv_at hl 3 rfl) ?_
      refine iz_get (D := (dC, dI)) (ci := 5) (v := .int (kz sp_b_5)) (C := RX5) (T := TX5) (N := 6) hx hb hts hinX5 hown hK cb_b_5 rfl 2 (by decide) hL118 (fun _ h9 => h9) rfl dX4_grow_73 ?_
      refine iz_any (fun z_67 z_67a z_67b z_67e => ?_)
      refine iz_put (D := (dC, dI)) (ci := 5) (v := .int (kz z_67)) (ty := .int) (C := RX5) (T := TX5) (N := 6) hx hb hts hinX5 tyX5 tyX5_ok nmX5 hown hK co_pa hS (jv_A hI g_pa (show (30 : Nat) ≠ 0 by decide)) rfl 2 (by decide) hL118 (fun _ h9 => h9) rfl (by decide +kernel) rfl rfl (Nat.le_of_ble_eq_true rfl) dX4_grow_76 (fun H locs c9 oq hS => ?_)
      have hI := jv_set hI c9 oq (by rw [g_pa]; exact jv_c5 ⟨chain_pa, z_64, z_67, place_pa, ended_pa, (kcnt kf (ky % 16384) (Int.toNat keyCount_a0)), rfl, g_chain_pa, ⟨by omega, by omega⟩, ⟨by omega, by omega⟩, ⟨by omega, by omega⟩, ⟨by omega, by omega⟩, ⟨by omega, by omega⟩⟩)
      have hF := fk_put hF g_pa (by simp [Lp, Lc]) oq
      have co_a0 := co_a0.kept (oq _ (kn_ne g_a0 g_pa (show (4 : Nat) ≠ 5 by decide)))
      have co_tg := co_tg.kept (oq _ (kn_ne g_tongue_a0 g_pa (show (9 : Nat) ≠ 5 by decide)))
      have cb_b_5 := cb_b_5.kept (oq _ (kn_nT g_b_5 g_pa (ne5 hidn.symm)))
      have cch_b_5 := cch_b_5.kept (oq _ (kn_ne gch_b_5 g_pa (show (0 : Nat) ≠ 5 by decide)))
      have c_kf := c_kf.kept (oq _ (kn_ne g_keys_a0 g_pa (show (228 : Nat) ≠ 5 by decide)))
      have c_tf := c_tf.kept (oq _ (kn_ne g_forms_tg g_pa (show (212 : Nat) ≠ 5 by decide)))
      have cfo_b_5 := cfo_b_5.kept (oq _ (kn_ne gfo_b_5 g_pa (show (210 : Nat) ≠ 5 by decide)))
      have cru_b_5 := cru_b_5.kept (oq _ (kn_ne gru_b_5 g_pa (show (211 : Nat) ≠ 5 by decide)))
      have hpc := pch_keep hpc (fun q hq => oq q (fun e9 => by rw [e9, g_pa] at hq; simp [Lc] at hq))
      have co_pa := c9
      clear oq c9
      refine lv_aload_n hx hb dX4_grow_79 rfl (lv_at hl 5 rfl) ?_
      refine lv_aload_n hx hb dX4_grow_80 rfl (lv_at hl 3 rfl) ?_
      refine iz_get (D := (dC, dI)) (ci := 5) (v := .int (kz pl_b_5)) (C := RX5) (T := TX5) (N := 6) hx hb hts hinX5 hown hK cb_b_5 rfl 3 (by decide) hL121 (fun _ h9 => h9) rfl dX4_grow_81 ?_
      refine iz_put (D := (dC, dI)) (ci := 5) (v := .int (kz pl_b_5)) (ty := .int) (C := RX5) (T := TX5) (N := 6) hx hb hts hinX5 tyX5 tyX5_ok nmX5 hown hK co_pa hS (jv_A hI g_pa (show (30 : Nat) ≠ 0 by decide)) rfl 3 (by decide) hL121 (fun _ h9 => h9) rfl (by decide +kernel) rfl rfl (Nat.le_of_ble_eq_true rfl) dX4_grow_84 (fun H locs c9 oq hS => ?_)
      have hI := jv_set hI c9 oq (by rw [g_pa]; exact jv_c5 ⟨chain_pa, z_64, z_67, pl_b_5, ended_pa, (kcnt kf (ky % 16384) (Int.toNat keyCount_a0)), rfl, g_chain_pa, ⟨by omega, by omega⟩, ⟨by omega, by omega⟩, ⟨by omega, by omega⟩, ⟨by omega, by omega⟩, ⟨by omega, by omega⟩⟩)
      have hF := fk_put hF g_pa (by simp [Lp, Lc]) oq
      have co_a0 := co_a0.kept (oq _ (kn_ne g_a0 g_pa (show (4 : Nat) ≠ 5 by decide)))
      have co_tg := co_tg.kept (oq _ (kn_ne g_tongue_a0 g_pa (show (9 : Nat) ≠ 5 by decide)))
      have cb_b_5 := cb_b_5.kept (oq _ (kn_nT g_b_5 g_pa (ne5 hidn.symm)))
      have cch_b_5 := cch_b_5.kept (oq _ (kn_ne gch_b_5 g_pa (show (0 : Nat) ≠ 5 by decide)))
      have c_kf := c_kf.kept (oq _ (kn_ne g_keys_a0 g_pa (show (228 : Nat) ≠ 5 by decide)))
      have c_tf := c_tf.kept (oq _ (kn_ne g_forms_tg g_pa (show (212 : Nat) ≠ 5 by decide)))
      have cfo_b_5 := cfo_b_5.kept (oq _ (kn_ne gfo_b_5 g_pa (show (210 : Nat) ≠ 5 by decide)))
      have cru_b_5 := cru_b_5.kept (oq _ (kn_ne gru_b_5 g_pa (show (211 : Nat) ≠ 5 by decide)))
      have hpc := pch_keep hpc (fun q hq => oq q (fun e9 => by rw [e9, g_pa] at hq; simp [Lc] at hq))
      have co_pa := c9
      clear oq c9
      refine lv_aload_n hx hb dX4_grow_87 rfl (lv_at hl 5 rfl) ?_
      refine lv_iload hx hb dX4_grow_88 (lv_at hl 0 rfl) ?_
      refine iz_nez (tgt := 97) hx hb dX4_grow_90 (by decide) (by unfold rg2; omega) (fun br_68 => ?_) (fun br_68 => ?_)
      · refine lv_iconst (v := kz 0) hx hb dX4_grow_97 rfl ?_
        refine iz_put (D := (dC, dI)) (ci := 5) (v := .int (kz 0)) (ty := .boolean) (C := RX5) (T := TX5) (N := 6) hx hb hts hinX5 tyX5 tyX5_ok nmX5 hown hK co_pa hS (jv_A hI g_pa (show (30 : Nat) ≠ 0 by decide)) rfl 4 (by decide) hL82 (fun _ h9 => h9) rfl (by decide +kernel) (by decide) rfl (Nat.le_of_ble_eq_true rfl) dX4_grow_98 (fun H locs c9 oq hS => ?_)
        have hI := jv_set hI c9 oq (by rw [g_pa]; exact jv_c5 ⟨chain_pa, z_64, z_67, pl_b_5, 0, (kcnt kf (ky % 16384) (Int.toNat keyCount_a0)), rfl, g_chain_pa, ⟨by omega, by omega⟩, ⟨by omega, by omega⟩, ⟨by omega, by omega⟩, ⟨by omega, by omega⟩, ⟨by omega, by omega⟩⟩)
        have hF := fk_put hF g_pa (by simp [Lp, Lc]) oq
        have co_a0 := co_a0.kept (oq _ (kn_ne g_a0 g_pa (show (4 : Nat) ≠ 5 by decide)))
        have co_tg := co_tg.kept (oq _ (kn_ne g_tongue_a0 g_pa (show (9 : Nat) ≠ 5 by decide)))
        have cb_b_5 := cb_b_5.kept (oq _ (kn_nT g_b_5 g_pa (ne5 hidn.symm)))
        have cch_b_5 := cch_b_5.kept (oq _ (kn_ne gch_b_5 g_pa (show (0 : Nat) ≠ 5 by decide)))
        have c_kf := c_kf.kept (oq _ (kn_ne g_keys_a0 g_pa (show (228 : Nat) ≠ 5 by decide)))
        have c_tf := c_tf.kept (oq _ (kn_ne g_forms_tg g_pa (show (212 : Nat) ≠ 5 by decide)))
        have cfo_b_5 := cfo_b_5.kept (oq _ (kn_ne gfo_b_5 g_pa (show (210 : Nat) ≠ 5 by decide)))
        have cru_b_5 := cru_b_5.kept (oq _ (kn_ne gru_b_5 g_pa (show (211 : Nat) ≠ 5 by decide)))
        have hpc := pch_keep hpc (fun q hq => oq q (fun e9 => by rw [e9, g_pa] at hq; simp [Lc] at hq))
        have co_pa := c9
        clear oq c9
        refine lv_aload_n hx hb dX4_grow_101 rfl (lv_at hl 5 rfl) ?_
        refine iz_get (D := (dC, dI)) (ci := 5) (v := .int (kz 0)) (C := RX5) (T := TX5) (N := 6) hx hb hts hinX5 hown hK co_pa rfl 4 (by decide) hL82 (fun _ h9 => h9) rfl dX4_grow_102 ?_
        refine iz_nez (tgt := 118) hx hb dX4_grow_105 (by decide) (by unfold rg2; omega) (fun q9 => absurd q9 (by decide)) (fun _ => ?_)
        refine lv_aload hx hb dX4_grow_108 (lv_at hl 2 rfl) ?_
        refine lv_ifnull hx hb dX4_grow_110 ?_
        refine lv_aload hx hb dX4_grow_113 (lv_at hl 1 rfl) ?_
        refine lv_ifnonnull (tgt := 119) hx hb dX4_grow_115 (by decide) ?_
        have hG2 := Or.resolve_left hGj (by omega)
        obtain ⟨hB1, hB2⟩ := hG2
        obtain ⟨hB1, hB3⟩ := hB1 b_8 hw_6x.symm
        obtain ⟨hkf, htf⟩ := if_some hw_42x
        refine lv_aload_n hx hb dX4_grow_119 rfl (lv_at hl 4 rfl) ?_
        refine iz_get (D := (dC, dI)) (ci := 4) (v := .ref tongue_a0) (C := RX4) (T := TX4) (N := 10) hx hb hts hinX4 hown hK co_a0 rfl 8 (by decide) hL42 (fun _ h9 => h9) rfl dX4_grow_120 ?_
        refine lv_iload hx hb dX4_grow_123 (lv_at hl 0 rfl) ?_
        refine lv_iconst (v := kz 2) hx hb dX4_grow_125 rfl ?_
        refine iz_isub hx hb dX4_grow_126 ?_
        refine va_csq (va_Run.run (va_runV (As := [.int (kz (z_58 - 2))]) (rest := []) ⟨hx, hb, hml, hown, hts⟩ (c_ruleAtX l dC dI ca A X hU tongue_a0 (z_58 - 2) g_tongue_a0 (by omega)) (cwV 1 hts gX4_grow_X9_ruleAt rfl rfl rfl (by decide +kernel) ⟨Nat.le_of_ble_eq_true rfl, Nat.le_of_ble_eq_true rfl⟩) ⟨fun a U g mk q => by obtain ⟨q0, ⟨qK, qN⟩, qI⟩ := q; exact ⟨q0, ⟨va_K.moved (u := U) (U := U.calling g mk a) (Vm.Alike.refl U.vm) qK, jN_same (U := U.calling g mk a) rfl qN⟩, qI⟩, va_recv hK (at_P co_tg) (ci := 9) (q0 := 0) rfl rfl, fun U hU hW => ⟨rfl, jK_warm hW ⟨hK, hN⟩, by rw [hU]; exact hI⟩⟩ rfl rfl hl.1 rfl (lv_room (Nat.le_of_ble_eq_true rfl)) dX4_grow_127 ⟨Nat.le_of_ble_eq_true rfl, Nat.le_of_ble_eq_true rfl⟩)) (fun r_70 hw_69 => ?_)
        rcases r_70 with _ | b_71
        · have n_b_71 := hw_69.2 rfl
          refine W.eq (g2 := F0 m 130 ls [.null]) rfl ?_
          refine lv_astoreN (lv' := [(7, .null), (6, .int (kz z_58)), (5, .ref b_44), (4, .ref b_8), (3, .ref b_5), (0, .ref a0), (1, .ref pa), (2, .int (kz ky))]) hx hb dX4_grow_130 hl (by decide) rfl (fun ls hl => ?_)
          refine lv_aload_n hx hb dX4_grow_132 rfl (lv_at hl 6 rfl) ?_
          refine lv_dup hx hb dX4_grow_133 rfl ?_
          refine iz_get (D := (dC, dI)) (ci := 5) (v := .int (kz z_67)) (C := RX5) (T := TX5) (N := 6) hx hb hts hinX5 hown hK co_pa rfl 2 (by decide) hL118 (fun _ h9 => h9) rfl dX4_grow_134 ?_
          refine lv_aload hx hb dX4_grow_137 (lv_at hl 3 rfl) ?_
          obtain ⟨fs9, co_72, jo9⟩ := jv_o2 hI g_b_8
          obtain ⟨ln_72, letters_72, kind_72, stem_72, kept_72, cost_72, number_72, ends_72, begins_72, rfl, g_letters_72, ⟨kind_72a, kind_72b⟩, ⟨stem_72a, stem_72b⟩, ⟨kept_72a, kept_72b⟩, ⟨cost_72a, cost_72b⟩, ⟨number_72a, number_72b⟩, ⟨ends_72a, ends_72b⟩, ⟨begins_72a, begins_72b⟩, x_72_0, x_72_1, x_72_2, x_72_3⟩ := jo9
          refine iz_get (D := (dC, dI)) (ci := 2) (v := .int (kz cost_72)) (C := RX2) (T := TX2) (N := 8) hx hb hts hinX2 hown hK co_72 rfl 4 (by decide) hL153 (fun _ h9 => h9) rfl dX4_grow_139 ?_
          refine iz_iadd hx hb dX4_grow_142 ?_
          refine iz_any (fun z_73 z_73a z_73b z_73e => ?_)
          refine iz_put (D := (dC, dI)) (ci := 5) (v := .int (kz z_73)) (ty := .int) (C := RX5) (T := TX5) (N := 6) hx hb hts hinX5 tyX5 tyX5_ok nmX5 hown hK co_pa hS (jv_A hI g_pa (show (30 : Nat) ≠ 0 by decide)) rfl 2 (by decide) hL118 (fun _ h9 => h9) rfl (by decide +kernel) rfl rfl (Nat.le_of_ble_eq_true rfl) dX4_grow_143 (fun H locs c9 oq hS => ?_)
          have hI := jv_set hI c9 oq (by rw [g_pa]; exact jv_c5 ⟨chain_pa, z_64, z_73, pl_b_5, 0, (kcnt kf (ky % 16384) (Int.toNat keyCount_a0)), rfl, g_chain_pa, ⟨by omega, by omega⟩, ⟨by omega, by omega⟩, ⟨by omega, by omega⟩, ⟨by omega, by omega⟩, ⟨by omega, by omega⟩⟩)
          have hF := fk_put hF g_pa (by simp [Lp, Lc]) oq
          have co_a0 := co_a0.kept (oq _ (kn_ne g_a0 g_pa (show (4 : Nat) ≠ 5 by decide)))
          have co_tg := co_tg.kept (oq _ (kn_ne g_tongue_a0 g_pa (show (9 : Nat) ≠ 5 by decide)))
          have cb_b_5 := cb_b_5.kept (oq _ (kn_nT g_b_5 g_pa (ne5 hidn.symm)))
          have cch_b_5 := cch_b_5.kept (oq _ (kn_ne gch_b_5 g_pa (show (0 : Nat) ≠ 5 by decide)))
          have co_72 := co_72.kept (oq _ (kn_ne g_b_8 g_pa (show (2 : Nat) ≠ 5 by decide)))
          have c_kf := c_kf.kept (oq _ (kn_ne g_keys_a0 g_pa (show (228 : Nat) ≠ 5 by decide)))
          have c_tf := c_tf.kept (oq _ (kn_ne g_forms_tg g_pa (show (212 : Nat) ≠ 5 by decide)))
          have cfo_b_5 := cfo_b_5.kept (oq _ (kn_ne gfo_b_5 g_pa (show (210 : Nat) ≠ 5 by decide)))
          have cru_b_5 := cru_b_5.kept (oq _ (kn_ne gru_b_5 g_pa (show (211 : Nat) ≠ 5 by decide)))
          have hpc := pch_keep hpc (fun q hq => oq q (fun e9 => by rw [e9, g_pa] at hq; simp [Lc] at hq))
          have co_pa := c9
          clear oq c9
          refine lv_aload_n hx hb dX4_grow_146 rfl (lv_at hl 6 rfl) ?_
          refine lv_dup hx hb dX4_grow_147 rfl ?_
          refine iz_get (D := (dC, dI)) (ci := 5) (v := .int (kz pl_b_5)) (C := RX5) (T := TX5) (N := 6) hx hb hts hinX5 hown hK co_pa rfl 3 (by decide) hL121 (fun _ h9 => h9) rfl dX4_grow_148 ?_
          refine lv_aload hx hb dX4_grow_151 (lv_at hl 3 rfl) ?_
          refine iz_get (D := (dC, dI)) (ci := 2) (v := .ref letters_72) (C := RX2) (T := TX2) (N := 8) hx hb hts hinX2 hown hK co_72 rfl 0 (by decide) hL156 (fun _ h9 => h9) rfl dX4_grow_153 ?_
          obtain ⟨f_74, c_f_74⟩ := iv_o21 (jv_iv hI) g_letters_72
          refine va_alen hx hb hK (at_P c_f_74) 0 1 rfl rfl (v := kz (ln_72 : Int)) rfl dX4_grow_156 ?_
          refine lv_aload_n hx hb dX4_grow_157 rfl (lv_at hl 4 rfl) ?_
          refine iz_get (D := (dC, dI)) (ci := 5) (v := .ref ch_b_5) (C := RX5) (T := TX5) (N := 6) hx hb hts hinX5 hown hK cb_b_5 rfl 0 (by decide) hL96 (fun _ h9 => h9) rfl dX4_grow_158 ?_
          refine vp_callSi (va_Run.run (va_runV (As := []) (rest := [.int (kz (ln_72 : Int)), .int (kz pl_b_5), .ref pa]) ⟨hx, hb, hml, hown, hts⟩ (c_lastCutX l dC dI ca A X hU ch_b_5 (8 * Int.toNat pp_a0 + j_b_5) fo_b_5 ru_b_5 sz_b_5 fr_b_5 gch_b_5 gfo_b_5 gru_b_5 (by omega) (by omega)) (cwV 0 hts gX4_grow_X0_lastCut rfl rfl rfl (by decide +kernel) ⟨Nat.le_of_ble_eq_true rfl, Nat.le_of_ble_eq_true rfl⟩) ⟨fun a U g mk q => by obtain ⟨q0, ⟨qK, qN⟩, qI⟩ := q; exact ⟨q0, ⟨va_K.moved (u := U) (U := U.calling g mk a) (Vm.Alike.refl U.vm) qK, jN_same (U := U.calling g mk a) rfl qN⟩, qI⟩, va_recv hK (at_P cch_b_5) (ci := 0) (q0 := 0) rfl rfl, fun U hU hW => ⟨rfl, jK_warm hW ⟨hK, hN⟩, by rw [hU]; exact ⟨hI, cch_b_5, cru_b_5⟩⟩⟩ rfl rfl hl.1 rfl (lv_room (Nat.le_of_ble_eq_true rfl)) dX4_grow_161 ⟨Nat.le_of_ble_eq_true rfl, Nat.le_of_ble_eq_true rfl⟩)) (fun r_76 hw_75 => ?_)
          obtain ⟨z_77, rfl, z_77h, z_77x⟩ := hw_75
          refine iz_isub hx hb dX4_grow_164 ?_
          refine iz_iadd hx hb dX4_grow_165 ?_
          refine iz_put (D := (dC, dI)) (ci := 5) (v := .int (kz (pl_b_5 + ((ln_72 : Int) - z_77)))) (ty := .int) (C := RX5) (T := TX5) (N := 6) hx hb hts hinX5 tyX5 tyX5_ok nmX5 hown hK co_pa hS (jv_A hI g_pa (show (30 : Nat) ≠ 0 by decide)) rfl 3 (by decide) hL121 (fun _ h9 => h9) rfl (by decide +kernel) rfl rfl (Nat.le_of_ble_eq_true rfl) dX4_grow_166 (fun H locs c9 oq hS => ?_)
          have hI := jv_set hI c9 oq (by rw [g_pa]; exact jv_c5 ⟨chain_pa, z_64, z_73, (pl_b_5 + ((ln_72 : Int) - z_77)), 0, (kcnt kf (ky % 16384) (Int.toNat keyCount_a0)), rfl, g_chain_pa, ⟨by omega, by omega⟩, ⟨by omega, by omega⟩, ⟨by omega, by omega⟩, ⟨by omega, by omega⟩, ⟨by omega, by omega⟩⟩)
          have hF := fk_put hF g_pa (by simp [Lp, Lc]) oq
          have co_a0 := co_a0.kept (oq _ (kn_ne g_a0 g_pa (show (4 : Nat) ≠ 5 by decide)))
          have co_tg := co_tg.kept (oq _ (kn_ne g_tongue_a0 g_pa (show (9 : Nat) ≠ 5 by decide)))
          have cb_b_5 := cb_b_5.kept (oq _ (kn_nT g_b_5 g_pa (ne5 hidn.symm)))
          have cch_b_5 := cch_b_5.kept (oq _ (kn_ne gch_b_5 g_pa (show (0 : Nat) ≠ 5 by decide)))
          have co_72 := co_72.kept (oq _ (kn_ne g_b_8 g_pa (show (2 : Nat) ≠ 5 by decide)))
          have c_kf := c_kf.kept (oq _ (kn_ne g_keys_a0 g_pa (show (228 : Nat) ≠ 5 by decide)))
          have c_tf := c_tf.kept (oq _ (kn_ne g_forms_tg g_pa (show (212 : Nat) ≠ 5 by decide)))
          have cfo_b_5 := cfo_b_5.kept (oq _ (kn_ne gfo_b_5 g_pa (show (210 : Nat) ≠ 5 by decide)))
          have cru_b_5 := cru_b_5.kept (oq _ (kn_ne gru_b_5 g_pa (show (211 : Nat) ≠ 5 by decide)))
          have c_f_74 := c_f_74.kept (oq _ (kn_ne g_letters_72 g_pa (show (201 : Nat) ≠ 5 by decide)))
          have hpc := pch_keep hpc (fun q hq => oq q (fun e9 => by rw [e9, g_pa] at hq; simp [Lc] at hq))
          have co_pa := c9
          clear oq c9
          refine lv_aloadN hx hb dX4_grow_169 (lv_at hl 0 rfl) ?_
          refine lv_ifnullN (tgt := 208) hx hb dX4_grow_171 (by decide) ?_
          obtain ⟨ch9, fo9, ru9, sz9, ff9, fr9, gch9, gfo9, gru9, cch9, cfo9, cru9, rsz9, x9, hco9⟩ := hpc
          have e9 : chain_pa = ch9 := jU_eq hU g_chain_pa gch9 (show (30 : Nat) ≠ 0 by decide) (show uq 0 = true by decide)
          subst e9
          refine lv_aload_n hx hb dX4_grow_208 rfl (lv_at hl 6 rfl) ?_
          refine iz_get (D := (dC, dI)) (ci := 5) (v := .ref chain_pa) (C := RX5) (T := TX5) (N := 6) hx hb hts hinX5 hown hK co_pa rfl 0 (by decide) hL96 (fun _ h9 => h9) rfl dX4_grow_209 ?_
          refine lv_aload hx hb dX4_grow_212 (lv_at hl 2 rfl) ?_
          refine lv_aloadN hx hb dX4_grow_214 (lv_at hl 0 rfl) ?_
          refine va_callv (va_runV (As := [.ref b_44, .null]) (rest := []) ⟨hx, hb, hml, hown, hts⟩ (c_appendXN l dC dI ca A X hU H chain_pa b_44 id fo9 ru9 sz9 ff9 fr9 g_chain_pa g_b_44 gfo9 gru9 (by omega) (by omega) hco9 (Int.natCast_nonneg _)) (cwV 2 hts gX4_grow_X0_append rfl rfl rfl (by decide +kernel) ⟨Nat.le_of_ble_eq_true rfl, Nat.le_of_ble_eq_true rfl⟩) ⟨fun a U g mk q => by obtain ⟨q0, qH, ⟨qK, qN⟩, qI⟩ := q; exact ⟨q0, qH, ⟨va_K.moved (u := U) (U := U.calling g mk a) (Vm.Alike.refl U.vm) qK, jN_same (U := U.calling g mk a) rfl qN⟩, qI⟩, va_recv hK (at_P cch9) (ci := 0) (q0 := 0) rfl rfl, fun U hU hW => ⟨rfl, hU, jK_warm hW ⟨hK, hN⟩, by rw [hU]; exact ⟨hI, cch9, cfo9, cru9⟩⟩⟩ rfl rfl hl.1 rfl (lv_room (Nat.le_of_ble_eq_true rfl)) dX4_grow_216 ⟨Nat.le_of_ble_eq_true rfl, Nat.le_of_ble_eq_true rfl⟩) hS (fun q _ h => h) (fun q h => h) (fun X t9 H locs ht hvm hw_78 hB hz1 hk1 hS => ?_)
          obtain ⟨-, hI, hf9, hpc9⟩ := hB
          rw [ht] at hI hf9 hpc9
          clear ht hvm hz1
          have co_a0 := fk_at hf9 g_a0 (by simp [Lc]) co_a0
          have co_pa := fk_at hf9 g_pa (by simp [Lc]) co_pa
          have co_tg := fk_at hf9 g_tongue_a0 (by simp [Lc]) co_tg
          have cb_b_5 := fk_at hf9 g_b_5 (by simp [Lc]) cb_b_5
          have cch_b_5 := fk_at hf9 gch_b_5 (nLc0 hidn.symm) cch_b_5
          have c_kf := fk_at hf9 g_keys_a0 (by simp [Lc]) c_kf
          have c_tf := fk_at hf9 g_forms_tg (by simp [Lc]) c_tf
          have cfo_b_5 := fk_at hf9 gfo_b_5 (nLc210 hidn.symm) cfo_b_5
          have cru_b_5 := fk_at hf9 gru_b_5 (nLc211 hidn.symm) cru_b_5
          have hF := fk_up hw_78 (fk_tr hF hf9 (fun c hc => List.mem_cons_of_mem _ hc))
          have x_tg_0 : formCount_tg ≤ (X.2.1 forms_tg : Int) := by have h9 := (hw_78.2.2 forms_tg).1; omega
          have x_tg_1 : ruleCount_tg ≤ (X.2.1 rules_tg : Int) := by have h9 := (hw_78.2.2 rules_tg).1; omega
          have x_tg_2 : ruleCount_tg = (X.2.2.2 : Int) := by rw [hw_78.2.1]; exact x_tg_2
          have r7_b_5 : sz_b_5 ≤ (X.2.1 fo_b_5 : Int) := by have h9 := (hw_78.2.2 fo_b_5).1; omega
          rw [pG_up hw_78 (fun j hj => (k_tf j hj).1) (fun a ha => (rO_b_5 a ha).1)] at hGj
          have ect := ect.trans (cutv_up hw_78 _).symm
          have rO_b_5 := fun a9 (ha9 : lst ff_b_5 sz_b_5 = some a9) => co_up hw_78 (rO_b_5 a9 ha9)
          have g_b_44 := up_t hw_78 g_b_44
          have g_b_8 := up_t hw_78 g_b_8
          have g_b_5 := up_t hw_78 g_b_5
          have g_a0 := up_t hw_78 g_a0
          have g_pa := up_t hw_78 g_pa
          have g_told_a0 := up_t hw_78 g_told_a0
          have g_grown_a0 := up_t hw_78 g_grown_a0
          have g_keys_a0 := up_t hw_78 g_keys_a0
          have g_tongue_a0 := up_t hw_78 g_tongue_a0
          have g_lattice_a0 := up_t hw_78 g_lattice_a0
          have g_chain_pa := up_t hw_78 g_chain_pa
          have g_forms_tg := up_t hw_78 g_forms_tg
          have g_rules_tg := up_t hw_78 g_rules_tg
          have g_forbidden_tg := up_t hw_78 g_forbidden_tg
          have gch_b_5 := up_t hw_78 gch_b_5
          have gfo_b_5 := up_t hw_78 gfo_b_5
          have gru_b_5 := up_t hw_78 gru_b_5
          have g_forms_59 := up_t hw_78 g_forms_59
          have g_rules_59 := up_t hw_78 g_rules_59
          have hU := up_U hw_78 hU
          have hT := jup_tr hT hw_78
          have k_tf := kq24 hI g_forms_tg c_tf
          have kfo_b_5 := kq24 hI gfo_b_5 cfo_b_5
          have kru_b_5 := kq25 hI gru_b_5 cru_b_5
          have hpc := hpc9
          clear hk1 hf9 hpc9
          exact W.vret hx hb hr (fun t9 ht hW => ⟨⟨X, rfl, hT, jK_warm hW ⟨hK, hN⟩, by rw [ht]; exact ⟨hI, fk_dn hT hF, pok_mk hU g_pa g_chain_pa co_pa (by omega) (by omega) (by omega) (by omega) (by omega) hpc⟩⟩, hS.F ht⟩) hS.2.2 dX4_grow_219
        · obtain ⟨g_b_71, n_b_71⟩ := hw_69.1 b_71 rfl
          refine W.eq (g2 := F0 m 130 ls [.ref b_71]) rfl ?_
          refine lv_astore (lv' := [(7, .ref b_71), (6, .int (kz z_58)), (5, .ref b_44), (4, .ref b_8), (3, .ref b_5), (0, .ref a0), (1, .ref pa), (2, .int (kz ky))]) hx hb dX4_grow_130 hl (by decide) rfl (fun ls hl => ?_)
          have hadj : adjv X (ky % 2048 / 64) = X.2.2.1 (100 + Int.toNat (z_58 - 2)) := by unfold adjv; rw [show ky % 2048 / 64 = z_58 by omega, if_pos (by omega)]
          refine lv_aload_n hx hb dX4_grow_132 rfl (lv_at hl 6 rfl) ?_
          refine lv_dup hx hb dX4_grow_133 rfl ?_
          refine iz_get (D := (dC, dI)) (ci := 5) (v := .int (kz z_67)) (C := RX5) (T := TX5) (N := 6) hx hb hts hinX5 hown hK co_pa rfl 2 (by decide) hL118 (fun _ h9 => h9) rfl dX4_grow_134 ?_
          refine lv_aload hx hb dX4_grow_137 (lv_at hl 3 rfl) ?_
          obtain ⟨fs9, co_80, jo9⟩ := jv_o2 hI g_b_8
          obtain ⟨ln_80, letters_80, kind_80, stem_80, kept_80, cost_80, number_80, ends_80, begins_80, rfl, g_letters_80, ⟨kind_80a, kind_80b⟩, ⟨stem_80a, stem_80b⟩, ⟨kept_80a, kept_80b⟩, ⟨cost_80a, cost_80b⟩, ⟨number_80a, number_80b⟩, ⟨ends_80a, ends_80b⟩, ⟨begins_80a, begins_80b⟩, x_80_0, x_80_1, x_80_2, x_80_3⟩ := jo9
          refine iz_get (D := (dC, dI)) (ci := 2) (v := .int (kz cost_80)) (C := RX2) (T := TX2) (N := 8) hx hb hts hinX2 hown hK co_80 rfl 4 (by decide) hL153 (fun _ h9 => h9) rfl dX4_grow_139 ?_
          refine iz_iadd hx hb dX4_grow_142 ?_
          refine iz_any (fun z_81 z_81a z_81b z_81e => ?_)
          refine iz_put (D := (dC, dI)) (ci := 5) (v := .int (kz z_81)) (ty := .int) (C := RX5) (T := TX5) (N := 6) hx hb hts hinX5 tyX5 tyX5_ok nmX5 hown hK co_pa hS (jv_A hI g_pa (show (30 : Nat) ≠ 0 by decide)) rfl 2 (by decide) hL118 (fun _ h9 => h9) rfl (by decide +kernel) rfl rfl (Nat.le_of_ble_eq_true rfl) dX4_grow_143 (fun H locs c9 oq hS => ?_)
          have hI := jv_set hI c9 oq (by rw [g_pa]; exact jv_c5 ⟨chain_pa, z_64, z_81, pl_b_5, 0, (kcnt kf (ky % 16384) (Int.toNat keyCount_a0)), rfl, g_chain_pa, ⟨by omega, by omega⟩, ⟨by omega, by omega⟩, ⟨by omega, by omega⟩, ⟨by omega, by omega⟩, ⟨by omega, by omega⟩⟩)
          have hF := fk_put hF g_pa (by simp [Lp, Lc]) oq
          have co_a0 := co_a0.kept (oq _ (kn_ne g_a0 g_pa (show (4 : Nat) ≠ 5 by decide)))
          have co_tg := co_tg.kept (oq _ (kn_ne g_tongue_a0 g_pa (show (9 : Nat) ≠ 5 by decide)))
          have cb_b_5 := cb_b_5.kept (oq _ (kn_nT g_b_5 g_pa (ne5 hidn.symm)))
          have cch_b_5 := cch_b_5.kept (oq _ (kn_ne gch_b_5 g_pa (show (0 : Nat) ≠ 5 by decide)))
          have co_80 := co_80.kept (oq _ (kn_ne g_b_8 g_pa (show (2 : Nat) ≠ 5 by decide)))
          have c_kf := c_kf.kept (oq _ (kn_ne g_keys_a0 g_pa (show (228 : Nat) ≠ 5 by decide)))
          have c_tf := c_tf.kept (oq _ (kn_ne g_forms_tg g_pa (show (212 : Nat) ≠ 5 by decide)))
          have cfo_b_5 := cfo_b_5.kept (oq _ (kn_ne gfo_b_5 g_pa (show (210 : Nat) ≠ 5 by decide)))
          have cru_b_5 := cru_b_5.kept (oq _ (kn_ne gru_b_5 g_pa (show (211 : Nat) ≠ 5 by decide)))
          have hpc := pch_keep hpc (fun q hq => oq q (fun e9 => by rw [e9, g_pa] at hq; simp [Lc] at hq))
          have co_pa := c9
          clear oq c9
          refine lv_aload_n hx hb dX4_grow_146 rfl (lv_at hl 6 rfl) ?_
          refine lv_dup hx hb dX4_grow_147 rfl ?_
          refine iz_get (D := (dC, dI)) (ci := 5) (v := .int (kz pl_b_5)) (C := RX5) (T := TX5) (N := 6) hx hb hts hinX5 hown hK co_pa rfl 3 (by decide) hL121 (fun _ h9 => h9) rfl dX4_grow_148 ?_
          refine lv_aload hx hb dX4_grow_151 (lv_at hl 3 rfl) ?_
          refine iz_get (D := (dC, dI)) (ci := 2) (v := .ref letters_80) (C := RX2) (T := TX2) (N := 8) hx hb hts hinX2 hown hK co_80 rfl 0 (by decide) hL156 (fun _ h9 => h9) rfl dX4_grow_153 ?_
          obtain ⟨f_82, c_f_82⟩ := iv_o21 (jv_iv hI) g_letters_80
          refine va_alen hx hb hK (at_P c_f_82) 0 1 rfl rfl (v := kz (ln_80 : Int)) rfl dX4_grow_156 ?_
          refine lv_aload_n hx hb dX4_grow_157 rfl (lv_at hl 4 rfl) ?_
          refine iz_get (D := (dC, dI)) (ci := 5) (v := .ref ch_b_5) (C := RX5) (T := TX5) (N := 6) hx hb hts hinX5 hown hK cb_b_5 rfl 0 (by decide) hL96 (fun _ h9 => h9) rfl dX4_grow_158 ?_
          refine vp_callSi (va_Run.run (va_runV (As := []) (rest := [.int (kz (ln_80 : Int)), .int (kz pl_b_5), .ref pa]) ⟨hx, hb, hml, hown, hts⟩ (c_lastCutX l dC dI ca A X hU ch_b_5 (8 * Int.toNat pp_a0 + j_b_5) fo_b_5 ru_b_5 sz_b_5 fr_b_5 gch_b_5 gfo_b_5 gru_b_5 (by omega) (by omega)) (cwV 0 hts gX4_grow_X0_lastCut rfl rfl rfl (by decide +kernel) ⟨Nat.le_of_ble_eq_true rfl, Nat.le_of_ble_eq_true rfl⟩) ⟨fun a U g mk q => by obtain ⟨q0, ⟨qK, qN⟩, qI⟩ := q; exact ⟨q0, ⟨va_K.moved (u := U) (U := U.calling g mk a) (Vm.Alike.refl U.vm) qK, jN_same (U := U.calling g mk a) rfl qN⟩, qI⟩, va_recv hK (at_P cch_b_5) (ci := 0) (q0 := 0) rfl rfl, fun U hU hW => ⟨rfl, jK_warm hW ⟨hK, hN⟩, by rw [hU]; exact ⟨hI, cch_b_5, cru_b_5⟩⟩⟩ rfl rfl hl.1 rfl (lv_room (Nat.le_of_ble_eq_true rfl)) dX4_grow_161 ⟨Nat.le_of_ble_eq_true rfl, Nat.le_of_ble_eq_true rfl⟩)) (fun r_84 hw_83 => ?_)
          obtain ⟨z_85, rfl, z_85h, z_85x⟩ := hw_83
          refine iz_isub hx hb dX4_grow_164 ?_
          refine iz_iadd hx hb dX4_grow_165 ?_
          refine iz_put (D := (dC, dI)) (ci := 5) (v := .int (kz (pl_b_5 + ((ln_80 : Int) - z_85)))) (ty := .int) (C := RX5) (T := TX5) (N := 6) hx hb hts hinX5 tyX5 tyX5_ok nmX5 hown hK co_pa hS (jv_A hI g_pa (show (30 : Nat) ≠ 0 by decide)) rfl 3 (by decide) hL121 (fun _ h9 => h9) rfl (by decide +kernel) rfl rfl (Nat.le_of_ble_eq_true rfl) dX4_grow_166 (fun H locs c9 oq hS => ?_)
          have hI := jv_set hI c9 oq (by rw [g_pa]; exact jv_c5 ⟨chain_pa, z_64, z_81, (pl_b_5 + ((ln_80 : Int) - z_85)), 0, (kcnt kf (ky % 16384) (Int.toNat keyCount_a0)), rfl, g_chain_pa, ⟨by omega, by omega⟩, ⟨by omega, by omega⟩, ⟨by omega, by omega⟩, ⟨by omega, by omega⟩, ⟨by omega, by omega⟩⟩)
          have hF := fk_put hF g_pa (by simp [Lp, Lc]) oq
          have co_a0 := co_a0.kept (oq _ (kn_ne g_a0 g_pa (show (4 : Nat) ≠ 5 by decide)))
          have co_tg := co_tg.kept (oq _ (kn_ne g_tongue_a0 g_pa (show (9 : Nat) ≠ 5 by decide)))
          have cb_b_5 := cb_b_5.kept (oq _ (kn_nT g_b_5 g_pa (ne5 hidn.symm)))
          have cch_b_5 := cch_b_5.kept (oq _ (kn_ne gch_b_5 g_pa (show (0 : Nat) ≠ 5 by decide)))
          have co_80 := co_80.kept (oq _ (kn_ne g_b_8 g_pa (show (2 : Nat) ≠ 5 by decide)))
          have c_kf := c_kf.kept (oq _ (kn_ne g_keys_a0 g_pa (show (228 : Nat) ≠ 5 by decide)))
          have c_tf := c_tf.kept (oq _ (kn_ne g_forms_tg g_pa (show (212 : Nat) ≠ 5 by decide)))
          have cfo_b_5 := cfo_b_5.kept (oq _ (kn_ne gfo_b_5 g_pa (show (210 : Nat) ≠ 5 by decide)))
          have cru_b_5 := cru_b_5.kept (oq _ (kn_ne gru_b_5 g_pa (show (211 : Nat) ≠ 5 by decide)))
          have c_f_82 := c_f_82.kept (oq _ (kn_ne g_letters_80 g_pa (show (201 : Nat) ≠ 5 by decide)))
          have hpc := pch_keep hpc (fun q hq => oq q (fun e9 => by rw [e9, g_pa] at hq; simp [Lc] at hq))
          have co_pa := c9
          clear oq c9
          refine lv_aload hx hb dX4_grow_169 (lv_at hl 0 rfl) ?_
          refine lv_ifnull hx hb dX4_grow_171 ?_
          refine lv_aload_n hx hb dX4_grow_174 rfl (lv_at hl 6 rfl) ?_
          refine lv_dup hx hb dX4_grow_175 rfl ?_
          refine iz_get (D := (dC, dI)) (ci := 5) (v := .int (kz z_81)) (C := RX5) (T := TX5) (N := 6) hx hb hts hinX5 hown hK co_pa rfl 2 (by decide) hL118 (fun _ h9 => h9) rfl dX4_grow_176 ?_
          refine lv_aload hx hb dX4_grow_179 (lv_at hl 0 rfl) ?_
          obtain ⟨fs9, co_86, jo9⟩ := jv_o7 hI g_b_71
          obtain ⟨ln_86, letters_86, endSize_86, beginningSize_86, comesFrom_86, comesSize_86, cost_86, firstDay_86, lastDay_86, number_86, rfl, g_letters_86, ⟨endSize_86a, endSize_86b⟩, ⟨beginningSize_86a, beginningSize_86b⟩, ⟨comesFrom_86a, comesFrom_86b⟩, ⟨comesSize_86a, comesSize_86b⟩, ⟨cost_86a, cost_86b⟩, ⟨firstDay_86a, firstDay_86b⟩, ⟨lastDay_86a, lastDay_86b⟩, ⟨number_86a, number_86b⟩, x_86_0, x_86_1, x_86_2, x_86_3, x_86_4, x_86_5⟩ := jo9
          refine iz_get (D := (dC, dI)) (ci := 7) (v := .int (kz cost_86)) (C := RX7) (T := TX7) (N := 9) hx hb hts hinX7 hown hK co_86 rfl 5 (by decide) hL190 (fun _ h9 => h9) rfl dX4_grow_181 ?_
          refine iz_iadd hx hb dX4_grow_184 ?_
          refine iz_any (fun z_87 z_87a z_87b z_87e => ?_)
          refine iz_put (D := (dC, dI)) (ci := 5) (v := .int (kz z_87)) (ty := .int) (C := RX5) (T := TX5) (N := 6) hx hb hts hinX5 tyX5 tyX5_ok nmX5 hown hK co_pa hS (jv_A hI g_pa (show (30 : Nat) ≠ 0 by decide)) rfl 2 (by decide) hL118 (fun _ h9 => h9) rfl (by decide +kernel) rfl rfl (Nat.le_of_ble_eq_true rfl) dX4_grow_185 (fun H locs c9 oq hS => ?_)
          have hI := jv_set hI c9 oq (by rw [g_pa]; exact jv_c5 ⟨chain_pa, z_64, z_87, (pl_b_5 + ((ln_80 : Int) - z_85)), 0, (kcnt kf (ky % 16384) (Int.toNat keyCount_a0)), rfl, g_chain_pa, ⟨by omega, by omega⟩, ⟨by omega, by omega⟩, ⟨by omega, by omega⟩, ⟨by omega, by omega⟩, ⟨by omega, by omega⟩⟩)
          have hF := fk_put hF g_pa (by simp [Lp, Lc]) oq
          have co_a0 := co_a0.kept (oq _ (kn_ne g_a0 g_pa (show (4 : Nat) ≠ 5 by decide)))
          have co_tg := co_tg.kept (oq _ (kn_ne g_tongue_a0 g_pa (show (9 : Nat) ≠ 5 by decide)))
          have cb_b_5 := cb_b_5.kept (oq _ (kn_nT g_b_5 g_pa (ne5 hidn.symm)))
          have cch_b_5 := cch_b_5.kept (oq _ (kn_ne gch_b_5 g_pa (show (0 : Nat) ≠ 5 by decide)))
          have co_80 := co_80.kept (oq _ (kn_ne g_b_8 g_pa (show (2 : Nat) ≠ 5 by decide)))
          have co_86 := co_86.kept (oq _ (kn_ne g_b_71 g_pa (show (7 : Nat) ≠ 5 by decide)))
          have c_kf := c_kf.kept (oq _ (kn_ne g_keys_a0 g_pa (show (228 : Nat) ≠ 5 by decide)))
          have c_tf := c_tf.kept (oq _ (kn_ne g_forms_tg g_pa (show (212 : Nat) ≠ 5 by decide)))
          have cfo_b_5 := cfo_b_5.kept (oq _ (kn_ne gfo_b_5 g_pa (show (210 : Nat) ≠ 5 by decide)))
          have cru_b_5 := cru_b_5.kept (oq _ (kn_ne gru_b_5 g_pa (show (211 : Nat) ≠ 5 by decide)))
          have c_f_82 := c_f_82.kept (oq _ (kn_ne g_letters_80 g_pa (show (201 : Nat) ≠ 5 by decide)))
          have hpc := pch_keep hpc (fun q hq => oq q (fun e9 => by rw [e9, g_pa] at hq; simp [Lc] at hq))
          have co_pa := c9
          clear oq c9
          refine lv_aload_n hx hb dX4_grow_188 rfl (lv_at hl 6 rfl) ?_
          refine lv_dup hx hb dX4_grow_189 rfl ?_
          refine iz_get (D := (dC, dI)) (ci := 5) (v := .int (kz (pl_b_5 + ((ln_80 : Int) - z_85)))) (C := RX5) (T := TX5) (N := 6) hx hb hts hinX5 hown hK co_pa rfl 3 (by decide) hL121 (fun _ h9 => h9) rfl dX4_grow_190 ?_
          refine lv_aload hx hb dX4_grow_193 (lv_at hl 0 rfl) ?_
          refine iz_get (D := (dC, dI)) (ci := 7) (v := .int (kz comesSize_86)) (C := RX7) (T := TX7) (N := 9) hx hb hts hinX7 hown hK co_86 rfl 4 (by decide) hL213 (fun _ h9 => h9) rfl dX4_grow_195 ?_
          refine lv_aload hx hb dX4_grow_198 (lv_at hl 0 rfl) ?_
          refine iz_get (D := (dC, dI)) (ci := 7) (v := .int (kz endSize_86)) (C := RX7) (T := TX7) (N := 9) hx hb hts hinX7 hown hK co_86 rfl 1 (by decide) hL216 (fun _ h9 => h9) rfl dX4_grow_200 ?_
          refine iz_isub hx hb dX4_grow_203 ?_
          refine iz_iadd hx hb dX4_grow_204 ?_
          refine iz_put (D := (dC, dI)) (ci := 5) (v := .int (kz ((pl_b_5 + ((ln_80 : Int) - z_85)) + (comesSize_86 - endSize_86)))) (ty := .int) (C := RX5) (T := TX5) (N := 6) hx hb hts hinX5 tyX5 tyX5_ok nmX5 hown hK co_pa hS (jv_A hI g_pa (show (30 : Nat) ≠ 0 by decide)) rfl 3 (by decide) hL121 (fun _ h9 => h9) rfl (by decide +kernel) rfl rfl (Nat.le_of_ble_eq_true rfl) dX4_grow_205 (fun H locs c9 oq hS => ?_)
          have hI := jv_set hI c9 oq (by rw [g_pa]; exact jv_c5 ⟨chain_pa, z_64, z_87, ((pl_b_5 + ((ln_80 : Int) - z_85)) + (comesSize_86 - endSize_86)), 0, (kcnt kf (ky % 16384) (Int.toNat keyCount_a0)), rfl, g_chain_pa, ⟨by omega, by omega⟩, ⟨by omega, by omega⟩, ⟨by omega, by omega⟩, ⟨by omega, by omega⟩, ⟨by omega, by omega⟩⟩)
          have hF := fk_put hF g_pa (by simp [Lp, Lc]) oq
          have co_a0 := co_a0.kept (oq _ (kn_ne g_a0 g_pa (show (4 : Nat) ≠ 5 by decide)))
          have co_tg := co_tg.kept (oq _ (kn_ne g_tongue_a0 g_pa (show (9 : Nat) ≠ 5 by decide)))
          have cb_b_5 := cb_b_5.kept (oq _ (kn_nT g_b_5 g_pa (ne5 hidn.symm)))
          have cch_b_5 := cch_b_5.kept (oq _ (kn_ne gch_b_5 g_pa (show (0 : Nat) ≠ 5 by decide)))
          have co_80 := co_80.kept (oq _ (kn_ne g_b_8 g_pa (show (2 : Nat) ≠ 5 by decide)))
          have co_86 := co_86.kept (oq _ (kn_ne g_b_71 g_pa (show (7 : Nat) ≠ 5 by decide)))
          have c_kf := c_kf.kept (oq _ (kn_ne g_keys_a0 g_pa (show (228 : Nat) ≠ 5 by decide)))
          have c_tf := c_tf.kept (oq _ (kn_ne g_forms_tg g_pa (show (212 : Nat) ≠ 5 by decide)))
          have cfo_b_5 := cfo_b_5.kept (oq _ (kn_ne gfo_b_5 g_pa (show (210 : Nat) ≠ 5 by decide)))
          have cru_b_5 := cru_b_5.kept (oq _ (kn_ne gru_b_5 g_pa (show (211 : Nat) ≠ 5 by decide)))
          have c_f_82 := c_f_82.kept (oq _ (kn_ne g_letters_80 g_pa (show (201 : Nat) ≠ 5 by decide)))
          have hpc := pch_keep hpc (fun q hq => oq q (fun e9 => by rw [e9, g_pa] at hq; simp [Lc] at hq))
          have co_pa := c9
          clear oq c9
          obtain ⟨ch9, fo9, ru9, sz9, ff9, fr9, gch9, gfo9, gru9, cch9, cfo9, cru9, rsz9, x9, hco9⟩ := hpc
          have e9 : chain_pa = ch9 := jU_eq hU g_chain_pa gch9 (show (30 : Nat) ≠ 0 by decide) (show uq 0 = true by decide)
          subst e9
          refine lv_aload_n hx hb dX4_grow_208 rfl (lv_at hl 6 rfl) ?_
          refine iz_get (D := (dC, dI)) (ci := 5) (v := .ref chain_pa) (C := RX5) (T := TX5) (N := 6) hx hb hts hinX5 hown hK co_pa rfl 0 (by decide) hL96 (fun _ h9 => h9) rfl dX4_grow_209 ?_
          refine lv_aload hx hb dX4_grow_212 (lv_at hl 2 rfl) ?_
          refine lv_aload hx hb dX4_grow_214 (lv_at hl 0 rfl) ?_
          refine va_callv (va_runV (As := [.ref b_44, .ref b_71]) (rest := []) ⟨hx, hb, hml, hown, hts⟩ (c_appendXR l dC dI ca A X hU H chain_pa b_44 b_71 id (Int.toNat (z_58 - 2)) fo9 ru9 sz9 ff9 fr9 g_chain_pa g_b_44 g_b_71 gfo9 gru9 (by omega) (by omega) hco9 (by show X.2.2.1 (X.1 b_71).2.2.1 ≤ _; rw [g_b_71]; have h9 := hB2 (by omega) (by omega) b_44 (by omega) (by rw [show ky % 2048 % 64 = z_41 by omega]; exact htf); rw [show ky % 2048 / 64 - 2 = z_58 - 2 by omega] at h9; exact h9)) (cwV 2 hts gX4_grow_X0_append rfl rfl rfl (by decide +kernel) ⟨Nat.le_of_ble_eq_true rfl, Nat.le_of_ble_eq_true rfl⟩) ⟨fun a U g mk q => by obtain ⟨q0, qH, ⟨qK, qN⟩, qI⟩ := q; exact ⟨q0, qH, ⟨va_K.moved (u := U) (U := U.calling g mk a) (Vm.Alike.refl U.vm) qK, jN_same (U := U.calling g mk a) rfl qN⟩, qI⟩, va_recv hK (at_P cch9) (ci := 0) (q0 := 0) rfl rfl, fun U hU hW => ⟨rfl, hU, jK_warm hW ⟨hK, hN⟩, by rw [hU]; exact ⟨hI, cch9, cfo9, cru9⟩⟩⟩ rfl rfl hl.1 rfl (lv_room (Nat.le_of_ble_eq_true rfl)) dX4_grow_216 ⟨Nat.le_of_ble_eq_true rfl, Nat.le_of_ble_eq_true rfl⟩) hS (fun q _ h => h) (fun q h => h) (fun X t9 H locs ht hvm hw_88 hB hz1 hk1 hS => ?_)
          obtain ⟨-, hI, hf9, hpc9⟩ := hB
          rw [ht] at hI hf9 hpc9
          clear ht hvm hz1
          have co_a0 := fk_at hf9 g_a0 (by simp [Lc]) co_a0
          have co_pa := fk_at hf9 g_pa (by simp [Lc]) co_pa
          have co_tg := fk_at hf9 g_tongue_a0 (by simp [Lc]) co_tg
          have cb_b_5 := fk_at hf9 g_b_5 (by simp [Lc]) cb_b_5
          have cch_b_5 := fk_at hf9 gch_b_5 (nLc0 hidn.symm) cch_b_5
          have c_kf := fk_at hf9 g_keys_a0 (by simp [Lc]) c_kf
          have c_tf := fk_at hf9 g_forms_tg (by simp [Lc]) c_tf
          have cfo_b_5 := fk_at hf9 gfo_b_5 (nLc210 hidn.symm) cfo_b_5
          have cru_b_5 := fk_at hf9 gru_b_5 (nLc211 hidn.symm) cru_b_5
          have hF := fk_up hw_88 (fk_tr hF hf9 (fun c hc => List.mem_cons_of_mem _ hc))
          have x_tg_0 : formCount_tg ≤ (X.2.1 forms_tg : Int) := by have h9 := (hw_88.2.2 forms_tg).1; omega
          have x_tg_1 : ruleCount_tg ≤ (X.2.1 rules_tg : Int) := by have h9 := (hw_88.2.2 rules_tg).1; omega
          have x_tg_2 : ruleCount_tg = (X.2.2.2 : Int) := by rw [hw_88.2.1]; exact x_tg_2
          have r7_b_5 : sz_b_5 ≤ (X.2.1 fo_b_5 : Int) := by have h9 := (hw_88.2.2 fo_b_5).1; omega
          rw [pG_up hw_88 (fun j hj => (k_tf j hj).1) (fun a ha => (rO_b_5 a ha).1)] at hGj
          have ect := ect.trans (cutv_up hw_88 _).symm
          have rO_b_5 := fun a9 (ha9 : lst ff_b_5 sz_b_5 = some a9) => co_up hw_88 (rO_b_5 a9 ha9)
          have g_b_71 := up_t hw_88 g_b_71
          have g_b_44 := up_t hw_88 g_b_44
          have g_b_8 := up_t hw_88 g_b_8
          have g_b_5 := up_t hw_88 g_b_5
          have g_a0 := up_t hw_88 g_a0
          have g_pa := up_t hw_88 g_pa
          have g_told_a0 := up_t hw_88 g_told_a0
          have g_grown_a0 := up_t hw_88 g_grown_a0
          have g_keys_a0 := up_t hw_88 g_keys_a0
          have g_tongue_a0 := up_t hw_88 g_tongue_a0
          have g_lattice_a0 := up_t hw_88 g_lattice_a0
          have g_chain_pa := up_t hw_88 g_chain_pa
          have g_forms_tg := up_t hw_88 g_forms_tg
          have g_rules_tg := up_t hw_88 g_rules_tg
          have g_forbidden_tg := up_t hw_88 g_forbidden_tg
          have gch_b_5 := up_t hw_88 gch_b_5
          have gfo_b_5 := up_t hw_88 gfo_b_5
          have gru_b_5 := up_t hw_88 gru_b_5
          have g_forms_59 := up_t hw_88 g_forms_59
          have g_rules_59 := up_t hw_88 g_rules_59
          have hU := up_U hw_88 hU
          have hT := jup_tr hT hw_88
          have k_tf := kq24 hI g_forms_tg c_tf
          have kfo_b_5 := kq24 hI gfo_b_5 cfo_b_5
          have kru_b_5 := kq25 hI gru_b_5 cru_b_5
          have hpc := hpc9
          clear hk1 hf9 hpc9
          exact W.vret hx hb hr (fun t9 ht hW => ⟨⟨X, rfl, hT, jK_warm hW ⟨hK, hN⟩, by rw [ht]; exact ⟨hI, fk_dn hT hF, pok_mk hU g_pa g_chain_pa co_pa (by omega) (by omega) (by omega) (by omega) (by omega) hpc⟩⟩, hS.F ht⟩) hS.2.2 dX4_grow_219
      · refine lv_iconst (v := kz 1) hx hb dX4_grow_93 rfl ?_
        refine lv_goto (tgt := 98) hx hb dX4_grow_94 (by decide) ?_
        refine iz_put (D := (dC, dI)) (ci := 5) (v := .int (kz 1)) (ty := .boolean) (C := RX5) (T := TX5) (N := 6) hx hb hts hinX5 tyX5 tyX5_ok nmX5 hown hK co_pa hS (jv_A hI g_pa (show (30 : Nat) ≠ 0 by decide)) rfl 4 (by decide) hL82 (fun _ h9 => h9) rfl (by decide +kernel) (by decide) rfl (Nat.le_of_ble_eq_true rfl) dX4_grow_98 (fun H locs c9 oq hS => ?_)
        have hI := jv_set hI c9 oq (by rw [g_pa]; exact jv_c5 ⟨chain_pa, z_64, z_67, pl_b_5, 1, (kcnt kf (ky % 16384) (Int.toNat keyCount_a0)), rfl, g_chain_pa, ⟨by omega, by omega⟩, ⟨by omega, by omega⟩, ⟨by omega, by omega⟩, ⟨by omega, by omega⟩, ⟨by omega, by omega⟩⟩)
        have hF := fk_put hF g_pa (by simp [Lp, Lc]) oq
        have co_a0 := co_a0.kept (oq _ (kn_ne g_a0 g_pa (show (4 : Nat) ≠ 5 by decide)))
        have co_tg := co_tg.kept (oq _ (kn_ne g_tongue_a0 g_pa (show (9 : Nat) ≠ 5 by decide)))
        have cb_b_5 := cb_b_5.kept (oq _ (kn_nT g_b_5 g_pa (ne5 hidn.symm)))
        have cch_b_5 := cch_b_5.kept (oq _ (kn_ne gch_b_5 g_pa (show (0 : Nat) ≠ 5 by decide)))
        have c_kf := c_kf.kept (oq _ (kn_ne g_keys_a0 g_pa (show (228 : Nat) ≠ 5 by decide)))
        have c_tf := c_tf.kept (oq _ (kn_ne g_forms_tg g_pa (show (212 : Nat) ≠ 5 by decide)))
        have cfo_b_5 := cfo_b_5.kept (oq _ (kn_ne gfo_b_5 g_pa (show (210 : Nat) ≠ 5 by decide)))
        have cru_b_5 := cru_b_5.kept (oq _ (kn_ne gru_b_5 g_pa (show (211 : Nat) ≠ 5 by decide)))
        have hpc := pch_keep hpc (fun q hq => oq q (fun e9 => by rw [e9, g_pa] at hq; simp [Lc] at hq))
        have co_pa := c9
        clear oq c9
        refine lv_aload_n hx hb dX4_grow_101 rfl (lv_at hl 5 rfl) ?_
        refine iz_get (D := (dC, dI)) (ci := 5) (v := .int (kz 1)) (C := RX5) (T := TX5) (N := 6) hx hb hts hinX5 hown hK co_pa rfl 4 (by decide) hL82 (fun _ h9 => h9) rfl dX4_grow_102 ?_
        refine iz_nez (tgt := 118) hx hb dX4_grow_105 (by decide) (by unfold rg2; omega) (fun _ => ?_) (fun q9 => absurd q9 (by decide))
        exact W.vret hx hb hr (fun t9 ht hW => ⟨⟨X, rfl, hT, jK_warm hW ⟨hK, hN⟩, by rw [ht]; exact ⟨hI, fk_dn hT hF, pok_mk hU g_pa g_chain_pa co_pa (by omega) (by omega) (by omega) (by omega) (by omega) hpc⟩⟩, hS.F ht⟩) hS.2.2 dX4_grow_118
