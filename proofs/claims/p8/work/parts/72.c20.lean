theorem pok_o2 {D : va_G} {ca : Nat → ClassId} {X : jG} {tf : Nat → Option Nat} {id id2 a : Nat} {rk : Int} {Gp : Int → Prop} {H H1 : Heap} {t : kTy} (hp : pok D ca X tf id rk Gp H) (hg : X.1 a = t) (ht : t ∈ Lp id2) (hne : id ≠ id2) (oq : ∀ q : Nat, q ≠ a → H1[q]? = H[q]?) : pok D ca X tf id rk Gp H1 := pok_keep hp (fun q hq => oq q (fun e => nLp hne _ hq (by rw [e, hg]; exact ht)))
set_option maxHeartbeats 4000000 in
set_option maxRecDepth 100000 in
/-- X4_startPaths -/
theorem c_startPaths (l : Launch) (dC : Nat → ClassId) (dI : Nat → Nat → Nat) (ca : Nat → ClassId) (A : Nat → Prop) (X : jG) (hU : jU X) (Hp : Heap) (a0 : Nat) (pp_a0 : Int) (countedUncut_a0 : Int64) (counted_a0 : Int64) (left_a0 : Int) (told_a0 : Nat) (toldCount_a0 : Int) (grown_a0 : Nat) (keys_a0 : Nat) (keyCount_a0 : Int) (tongue_a0 : Nat) (lattice_a0 : Nat) (forms_tg : Nat) (rules_tg : Nat) (formCount_tg : Int) (ruleCount_tg : Int) (forbidden_tg : Nat) (kf : Nat → Int32) (tf : Nat → Option Nat) (g_a0 : X.1 a0 = (4, 30, 0, 0, 0)) (left_a0i : 0 ≤ left_a0 ∧ left_a0 ≤ 1) (g_told_a0 : X.1 told_a0 = (226, 26, 8, pp_a0, 0)) (toldCount_a0i : 0 ≤ toldCount_a0 ∧ toldCount_a0 ≤ 8) (g_grown_a0 : X.1 grown_a0 = (226, 26, 8, 1 - pp_a0, 0)) (g_keys_a0 : X.1 keys_a0 = (228, 20, 8, -2147483648, 2147483647)) (keyCount_a0i : 0 ≤ keyCount_a0 ∧ keyCount_a0 ≤ 8) (g_tongue_a0 : X.1 tongue_a0 = (9, 30, 0, 0, 0)) (g_lattice_a0 : X.1 lattice_a0 = (3, 30, 0, 0, 0)) (x_a0_0 : 0 ≤ pp_a0) (x_a0_1 : pp_a0 ≤ 1) (g_forms_tg : X.1 forms_tg = (212, 24, 40, 2, 0)) (g_rules_tg : X.1 rules_tg = (213, 29, 24, 7, 0)) (formCount_tgi : 0 ≤ formCount_tg ∧ formCount_tg ≤ 40) (ruleCount_tgi : 0 ≤ ruleCount_tg ∧ ruleCount_tg ≤ 24) (g_forbidden_tg : X.1 forbidden_tg = (214, 22, 36, 0, 0)) (x_tg_0 : formCount_tg ≤ (X.2.1 forms_tg : Int)) (x_tg_1 : ruleCount_tg ≤ (X.2.1 rules_tg : Int)) (x_tg_2 : ruleCount_tg = (X.2.2.2 : Int)) : Met l yX4_startPaths wsX4_startPaths ({ frames := 1, cells := 0, slots := 0, locals := 26 }) (va_Pc [.ref a0] (fun U => U.heap = Hp ∧ jK (dC, dI) ca U ∧ jv (dC, dI) ca A X U.heap ∧ va_at (dC, dI) vwCl (a0, .inr (4, [.long countedUncut_a0, .long counted_a0, .int (kz left_a0), .ref told_a0, .int (kz toldCount_a0), .ref grown_a0, .ref keys_a0, .int (kz keyCount_a0), .ref tongue_a0, .ref lattice_a0])) U.heap ∧ va_at (dC, dI) vwCl (tongue_a0, .inr (9, [.ref forms_tg, .ref rules_tg, .int (kz formCount_tg), .int (kz ruleCount_tg), .ref forbidden_tg])) U.heap ∧ va_at (dC, dI) vwCl (keys_a0, .inl (ca 20, 8, .inl kf)) U.heap ∧ va_at (dC, dI) vwCl (forms_tg, je_q ca 40 24 tf) U.heap)) (va_Qv (fun (u : jG) => jup X u) (fun (u : jG) U => jK (dC, dI) ca U ∧ jv (dC, dI) ca A u U.heap ∧ kfm X [0, 4, 5, 210, 211, 228] Hp U.heap ∧ PW dC dI ca u a0 U.heap) A) 0 0 A := by
  refine Met.ofW (cc := cX4_startPaths) (maxL := 3) (ret := none) (by decide) rfl ?_
  intro p e s m args below meth c s₁ B hml hv
  obtain ⟨rfl, hHp, ⟨hK, hN⟩, hI, co_a0, co_tg, c_kf, c_tf⟩ := hv
  have hx := B.exec
  have hb := B.bytes
  have hr := B.returns
  have hts := atoms_spec (ws := wsX4_startPaths) B.pre
  have hown : s.vm.findClass RX4 = some m.cls := findClass_of_methodNamed B.named
  have hL39 := hts (.fieldLink RX4 39 "JoinBench$Parter" "keyCount" "I") (by decide +kernel)
  have hL42 := hts (.fieldLink RX4 42 "JoinBench$Parter" "tongue" "LJoinBench$Tongue;") (by decide +kernel)
  have hL85 := hts (.fieldLink RX4 85 "JoinBench$Tongue" "formCount" "I") (by decide +kernel)
  have hL51 := hts (.fieldLink RX4 51 "JoinBench$Parter" "lattice" "LJoinBench$Lattice;") (by decide +kernel)
  have hL88 := hts (.fieldLink RX4 88 "JoinBench$Lattice" "cheapest" "[[I") (by decide +kernel)
  have hL28 := hts (.fieldLink RX4 28 "JoinBench$Parter" "toldCount" "I") (by decide +kernel)
  have hL24 := hts (.fieldLink RX4 24 "JoinBench$Parter" "told" "[LJoinBench$Path;") (by decide +kernel)
  have hL96 := hts (.fieldLink RX4 96 "JoinBench$Path" "chain" "LJoinBench$Chain;") (by decide +kernel)
  have hL100 := hts (.fieldLink RX4 100 "JoinBench$Chain" "size" "I") (by decide +kernel)
  have hL35 := hts (.fieldLink RX4 35 "JoinBench$Parter" "keys" "[I") (by decide +kernel)
  have hL115 := hts (.fieldLink RX4 115 "JoinBench$Path" "cost" "I") (by decide +kernel)
  have hL118 := hts (.fieldLink RX4 118 "JoinBench$Path" "spent" "I") (by decide +kernel)
  have hL121 := hts (.fieldLink RX4 121 "JoinBench$Path" "place" "I") (by decide +kernel)
  have hL82 := hts (.fieldLink RX4 82 "JoinBench$Path" "ended" "Z") (by decide +kernel)
  have hL127 := hts (.fieldLink RX4 127 "JoinBench$Path" "rank" "I") (by decide +kernel)
  have hinX0 : ∀ w ∈ u_ws RX0 TX0 3, w ∈ wsX4_startPaths := by decide +kernel
  have hinX3 : ∀ w ∈ u_ws RX3 TX3 11, w ∈ wsX4_startPaths := by decide +kernel
  have hinX4 : ∀ w ∈ u_ws RX4 TX4 10, w ∈ wsX4_startPaths := by decide +kernel
  have hinX5 : ∀ w ∈ u_ws RX5 TX5 6, w ∈ wsX4_startPaths := by decide +kernel
  have hinX9 : ∀ w ∈ u_ws RX9 TX9 5, w ∈ wsX4_startPaths := by decide +kernel
  obtain ⟨H, hH⟩ : ∃ H : Heap, H = s.heap := ⟨_, rfl⟩
  have hS : va_S A s.heap H [] := by rw [hH]; exact va_S.rf
  have hF : kfk X [] Hp H := by rw [hH, hHp]; exact fk_rf _ _ _
  have hT := jup_rf X
  have hF : kfm X [0, 4, 5, 210, 211, 228] Hp H := by rw [hH, hHp]; exact fm_rf _ _ _
  rw [← hH] at hI co_a0 co_tg c_kf c_tf ⊢
  clear hH
  have k_kf := ok20_full (X := jk X) (a := keys_a0) (n := 8) kf
  have k_tf := kq24 hI g_forms_tg c_tf
  have hl := lv_entry ([.ref a0]) (n := 3) (Nat.le_of_ble_eq_true rfl)
  rw [lg_entry_eq]
  generalize (lg_sl ([.ref a0]) ++ List.replicate (3 - (lg_sl ([.ref a0])).length) Slot.unset).toArray = ls at hl ⊢
  have hl : lv_has ls 3 [(0, .ref a0)] := hl
  refine lv_aload_n hx hb dX4_startPaths_0 rfl (lv_at hl 0 rfl) ?_
  refine lv_iconst (v := kz 0) hx hb dX4_startPaths_1 rfl ?_
  refine iz_put (D := (dC, dI)) (ci := 4) (v := .int (kz 0)) (ty := .int) (C := RX4) (T := TX4) (N := 10) hx hb hts hinX4 tyX4 tyX4_ok nmX4 hown hK co_a0 hS (jv_A hI g_a0 (show (30 : Nat) ≠ 0 by decide)) rfl 7 (by decide) hL39 (fun _ h9 => h9) rfl (by decide +kernel) rfl rfl (Nat.le_of_ble_eq_true rfl) dX4_startPaths_2 (fun H locs c9 oq hS => ?_)
  have hI := jv_set hI c9 oq (by rw [g_a0]; exact jv_c4 ⟨pp_a0, countedUncut_a0, counted_a0, left_a0, told_a0, toldCount_a0, grown_a0, keys_a0, 0, tongue_a0, lattice_a0, rfl, ⟨by omega, by omega⟩, g_told_a0, ⟨by omega, by omega⟩, g_grown_a0, g_keys_a0, ⟨by omega, by omega⟩, g_tongue_a0, g_lattice_a0, by omega, by omega⟩)
  have hF := fm_put hF g_a0 (show (4 : Nat) ∈ [0, 4, 5, 210, 211, 228] by decide) oq
  have co_tg := co_tg.kept (oq _ (kn_ne g_tongue_a0 g_a0 (show (9 : Nat) ≠ 4 by decide)))
  have c_kf := c_kf.kept (oq _ (kn_ne g_keys_a0 g_a0 (show (228 : Nat) ≠ 4 by decide)))
  have c_tf := c_tf.kept (oq _ (kn_ne g_forms_tg g_a0 (show (212 : Nat) ≠ 4 by decide)))
  have co_a0 := c9
  clear oq c9
  refine lv_iconst (v := kz 0) hx hb dX4_startPaths_5 rfl ?_
  refine lv_istore_n (lv' := [(1, .int (kz 0)), (0, .ref a0)]) hx hb dX4_startPaths_6 rfl hl (by decide) rfl (fun ls hl => ?_)
  refine iz_loopA1 (α := (Nat → Int32) × Int) (P := fun N9 u9 k H locs ls => (0 ≤ k) ∧ (k ≤ formCount_tg) ∧ (KS u9.1 u9.2 (PS (fun _ => False) (fun l => l % 64 < formCount_tg) 0 (64 + k))) ∧ (0 ≤ u9.2) ∧ (u9.2 ≤ 8) ∧ 40 - k ≤ (N9 : Int) ∧ lv_has ls 3 [(1, .int (kz k)), (0, .ref a0)] ∧ jv (dC, dI) ca A X H ∧ va_S A s.heap H locs ∧ kfm X [0, 4, 5, 210, 211, 228] Hp H ∧ va_at (dC, dI) vwCl (a0, .inr (4, [.long countedUncut_a0, .long counted_a0, .int (kz left_a0), .ref told_a0, .int (kz toldCount_a0), .ref grown_a0, .ref keys_a0, .int (kz u9.2), .ref tongue_a0, .ref lattice_a0])) H ∧ va_at (dC, dI) vwCl (tongue_a0, .inr (9, [.ref forms_tg, .ref rules_tg, .int (kz formCount_tg), .int (kz ruleCount_tg), .ref forbidden_tg])) H ∧ va_at (dC, dI) vwCl (keys_a0, .inl (ca 20, 8, .inl u9.1)) H ∧ va_at (dC, dI) vwCl (forms_tg, je_q ca 40 24 tf) H) 100000 (kf, 0) (x0 := 0) ?_ ⟨by omega, by omega, KS_0 _ _, by omega, by omega, by omega, lv_sub hl [0, 1] rfl, hI, hS, hF, co_a0, co_tg, c_kf, c_tf⟩
  intro n_1 ⟨kf_n_1, kc_n_1⟩ k H locs ls ⟨n_1f0, n_1f1, n_1f2, n_1f3, n_1f4, n_1f5, hl, hI, hS, hF, co_a0, co_tg, c_kf_n_1, c_tf⟩ ihn_1
  have k_kf_n_1 := ok20_full (X := jk X) (a := keys_a0) (n := 8) kf_n_1
  have co_a0 : va_at (dC, dI) vwCl (a0, .inr (4, [.long countedUncut_a0, .long counted_a0, .int (kz left_a0), .ref told_a0, .int (kz toldCount_a0), .ref grown_a0, .ref keys_a0, .int (kz kc_n_1), .ref tongue_a0, .ref lattice_a0])) H := co_a0
  have c_kf_n_1 : va_at (dC, dI) vwCl (keys_a0, .inl (ca 20, 8, .inl kf_n_1)) H := c_kf_n_1
  have n_1f0 : 0 ≤ k := n_1f0
  have n_1f1 : k ≤ formCount_tg := n_1f1
  have n_1f2 : KS kf_n_1 kc_n_1 (PS (fun _ => False) (fun l => l % 64 < formCount_tg) 0 (64 + k)) := n_1f2
  have n_1f3 : 0 ≤ kc_n_1 := n_1f3
  have n_1f4 : kc_n_1 ≤ 8 := n_1f4
  refine lv_iload_n hx hb dX4_startPaths_7 rfl (lv_at hl 0 rfl) ?_
  refine lv_aload_n hx hb dX4_startPaths_8 rfl (lv_at hl 1 rfl) ?_
  refine iz_get (D := (dC, dI)) (ci := 4) (v := .ref tongue_a0) (C := RX4) (T := TX4) (N := 10) hx hb hts hinX4 hown hK co_a0 rfl 8 (by decide) hL42 (fun _ h9 => h9) rfl dX4_startPaths_9 ?_
  refine iz_get (D := (dC, dI)) (ci := 9) (v := .int (kz formCount_tg)) (C := RX9) (T := TX9) (N := 5) hx hb hts hinX9 hown hK co_tg rfl 2 (by decide) hL85 (fun _ h9 => h9) rfl dX4_startPaths_12 ?_
  refine iz_ge (tgt := 44) hx hb dX4_startPaths_15 (by decide) (by unfold rg2; omega) (fun br_2 => ?_) (fun br_2 => ?_)
  · refine lv_aload_n hx hb dX4_startPaths_44 rfl (lv_at hl 1 rfl) ?_
    refine lv_aload_n hx hb dX4_startPaths_45 rfl (lv_at hl 1 rfl) ?_
    refine iz_get (D := (dC, dI)) (ci := 4) (v := .int (kz kc_n_1)) (C := RX4) (T := TX4) (N := 10) hx hb hts hinX4 hown hK co_a0 rfl 7 (by decide) hL39 (fun _ h9 => h9) rfl dX4_startPaths_46 ?_
    refine iz_put (D := (dC, dI)) (ci := 4) (v := .int (kz kc_n_1)) (ty := .int) (C := RX4) (T := TX4) (N := 10) hx hb hts hinX4 tyX4 tyX4_ok nmX4 hown hK co_a0 hS (jv_A hI g_a0 (show (30 : Nat) ≠ 0 by decide)) rfl 4 (by decide) hL28 (fun _ h9 => h9) rfl (by decide +kernel) rfl rfl (Nat.le_of_ble_eq_true rfl) dX4_startPaths_49 (fun H locs c9 oq hS => ?_)
    have hI := jv_set hI c9 oq (by rw [g_a0]; exact jv_c4 ⟨pp_a0, countedUncut_a0, counted_a0, left_a0, told_a0, kc_n_1, grown_a0, keys_a0, kc_n_1, tongue_a0, lattice_a0, rfl, ⟨by omega, by omega⟩, g_told_a0, ⟨by omega, by omega⟩, g_grown_a0, g_keys_a0, ⟨by omega, by omega⟩, g_tongue_a0, g_lattice_a0, by omega, by omega⟩)
    have hF := fm_put hF g_a0 (show (4 : Nat) ∈ [0, 4, 5, 210, 211, 228] by decide) oq
    have co_tg := co_tg.kept (oq _ (kn_ne g_tongue_a0 g_a0 (show (9 : Nat) ≠ 4 by decide)))
    have c_kf_n_1 := c_kf_n_1.kept (oq _ (kn_ne g_keys_a0 g_a0 (show (228 : Nat) ≠ 4 by decide)))
    have c_tf := c_tf.kept (oq _ (kn_ne g_forms_tg g_a0 (show (212 : Nat) ≠ 4 by decide)))
    have co_a0 := c9
    clear oq c9
    refine lv_iconst (v := kz 0) hx hb dX4_startPaths_52 rfl ?_
    refine lv_istore_n (lv' := [(1, .int (kz 0)), (0, .ref a0)]) hx hb dX4_startPaths_53 rfl hl (by decide) rfl (fun ls hl => ?_)
    refine iz_loopA1 (α := jG) (P := fun N9 X9 k H locs ls => (0 ≤ k) ∧ (k ≤ kc_n_1) ∧ (∀ j : Nat, (j : Int) < k → ∃ Gp : Int → Prop, pok (dC, dI) ca X9 tf (8 * Int.toNat pp_a0 + j) (kcnt kf_n_1 (ge1 kf_n_1 (j : Int) % 16384) (Int.toNat kc_n_1)) Gp H) ∧ (8 - k ≤ (N9 : Int)) ∧ lv_has ls 3 [(0, .ref a0), (1, .int (kz k))] ∧ jup X X9 ∧ jv (dC, dI) ca A X9 H ∧ va_S A s.heap H locs ∧ kfm X9 [0, 4, 5, 210, 211, 228] Hp H ∧ va_at (dC, dI) vwCl (a0, .inr (4, [.long countedUncut_a0, .long counted_a0, .int (kz left_a0), .ref told_a0, .int (kz kc_n_1), .ref grown_a0, .ref keys_a0, .int (kz kc_n_1), .ref tongue_a0, .ref lattice_a0])) H ∧ va_at (dC, dI) vwCl (tongue_a0, .inr (9, [.ref forms_tg, .ref rules_tg, .int (kz formCount_tg), .int (kz ruleCount_tg), .ref forbidden_tg])) H ∧ va_at (dC, dI) vwCl (keys_a0, .inl (ca 20, 8, .inl kf_n_1)) H ∧ va_at (dC, dI) vwCl (forms_tg, je_q ca 40 24 tf) H) 100000 X (x0 := 0) ?_ ⟨by omega, by omega, fun j hj => absurd hj (by omega), by omega, lv_sub hl [1, 0] rfl, jup_rf _, hI, hS, hF, co_a0, co_tg, c_kf_n_1, c_tf⟩
    intro n_3 X k H locs ls ⟨g0, g1, hgr, g2, hl, hT_n_3, hI, hS, hF, co_a0, co_tg, c_kf_n_1, c_tf⟩ ihn_3
    have x_tg_0 : formCount_tg ≤ (X.2.1 forms_tg : Int) := by have h9 := (hT_n_3.2.2 forms_tg).1; omega
    have x_tg_1 : ruleCount_tg ≤ (X.2.1 rules_tg : Int) := by have h9 := (hT_n_3.2.2 rules_tg).1; omega
    have x_tg_2 : ruleCount_tg = (X.2.2.2 : Int) := by rw [hT_n_3.2.1]; exact x_tg_2
    have g_a0 := up_t hT_n_3 g_a0
    have g_told_a0 := up_t hT_n_3 g_told_a0
    have g_grown_a0 := up_t hT_n_3 g_grown_a0
    have g_keys_a0 := up_t hT_n_3 g_keys_a0
    have g_tongue_a0 := up_t hT_n_3 g_tongue_a0
    have g_lattice_a0 := up_t hT_n_3 g_lattice_a0
    have g_forms_tg := up_t hT_n_3 g_forms_tg
    have g_rules_tg := up_t hT_n_3 g_rules_tg
    have g_forbidden_tg := up_t hT_n_3 g_forbidden_tg
    have hU := up_U hT_n_3 hU
    have hT := jup_tr hT hT_n_3
    have k_kf_n_1 := ok20_full (X := jk X) (a := keys_a0) (n := 8) kf_n_1
    have k_tf := kq24 hI g_forms_tg c_tf
    refine lv_iload_n hx hb dX4_startPaths_54 rfl (lv_at hl 1 rfl) ?_
    refine lv_aload_n hx hb dX4_startPaths_55 rfl (lv_at hl 0 rfl) ?_
    refine iz_get (D := (dC, dI)) (ci := 4) (v := .int (kz kc_n_1)) (C := RX4) (T := TX4) (N := 10) hx hb hts hinX4 hown hK co_a0 rfl 7 (by decide) hL39 (fun _ h9 => h9) rfl dX4_startPaths_56 ?_
    refine iz_ge (tgt := 149) hx hb dX4_startPaths_59 (by decide) (by unfold rg2; omega) (fun br_4 => ?_) (fun br_4 => ?_)
    · have hgr := fun (j : Nat) (hj : (j : Int) < kc_n_1) => hgr j (by omega)
      obtain ⟨G9, hG9⟩ := ch_all hgr
      exact W.vret hx hb hr (fun t9 ht hW => ⟨⟨X, rfl, hT, jK_warm hW ⟨hK, hN⟩, by rw [ht]; exact ⟨hI, fm_dn hT hF, ⟨pp_a0, countedUncut_a0, counted_a0, left_a0, told_a0, kc_n_1, grown_a0, keys_a0, kc_n_1, tongue_a0, lattice_a0, forms_tg, rules_tg, formCount_tg, ruleCount_tg, forbidden_tg, kf_n_1, tf, (fun j => kcnt kf_n_1 (ge1 kf_n_1 (j : Int) % 16384) (Int.toNat kc_n_1)), G9, by omega, g_told_a0, by omega, g_grown_a0, g_keys_a0, by omega, g_tongue_a0, g_lattice_a0, by omega, by omega, g_forms_tg, g_rules_tg, by omega, by omega, g_forbidden_tg, by omega, by omega, by omega, co_a0, co_tg, c_kf_n_1, c_tf, hG9, kcnt_di n_1f2⟩⟩⟩, hS.F ht⟩) hS.2.2 dX4_startPaths_149
    · refine lv_aload_n hx hb dX4_startPaths_62 rfl (lv_at hl 0 rfl) ?_
      refine iz_get (D := (dC, dI)) (ci := 4) (v := .ref told_a0) (C := RX4) (T := TX4) (N := 10) hx hb hts hinX4 hown hK co_a0 rfl 3 (by decide) hL24 (fun _ h9 => h9) rfl dX4_startPaths_63 ?_
      refine lv_iload_n hx hb dX4_startPaths_66 rfl (lv_at hl 1 rfl) ?_
      obtain ⟨f_5, c_f_5, k_f_5⟩ := jv_q26 hI g_told_a0
      refine jz_aald hx hb hK 6 c_f_5 rfl rfl (by omega) (by decide) dX4_startPaths_67 ?_
      obtain ⟨b_6, eb_6, g_b_6⟩ := k_f_5 (Int.toNat k) (by omega)
      rw [eb_6]
      refine W.eq (g2 := F0 m 68 ls [.ref b_6]) rfl ?_
      refine lv_astore_n (lv' := [(2, .ref b_6), (0, .ref a0), (1, .int (kz k))]) hx hb dX4_startPaths_68 rfl hl (by decide) rfl (fun ls hl => ?_)
      refine lv_aload_n hx hb dX4_startPaths_69 rfl (lv_at hl 0 rfl) ?_
      obtain ⟨fs9, co_7, jo9⟩ := jv_o5 hI g_b_6
      obtain ⟨chain_7, cost_7, spent_7, place_7, ended_7, rank_7, rfl, g_chain_7, ⟨cost_7a, cost_7b⟩, ⟨spent_7a, spent_7b⟩, ⟨place_7a, place_7b⟩, ⟨ended_7a, ended_7b⟩, ⟨rank_7a, rank_7b⟩⟩ := jo9
      refine iz_get (D := (dC, dI)) (ci := 5) (v := .ref chain_7) (C := RX5) (T := TX5) (N := 6) hx hb hts hinX5 hown hK co_7 rfl 0 (by decide) hL96 (fun _ h9 => h9) rfl dX4_startPaths_70 ?_
      refine lv_iconst (v := kz 0) hx hb dX4_startPaths_73 rfl ?_
      obtain ⟨fs9, co_8, jo9⟩ := jv_o0 hI g_chain_7
      obtain ⟨forms_8, rules_8, size_8, rfl, g_forms_8, g_rules_8, ⟨size_8a, size_8b⟩, x_8_0⟩ := jo9
      refine iz_put (D := (dC, dI)) (ci := 0) (v := .int (kz 0)) (ty := .int) (C := RX0) (T := TX0) (N := 3) hx hb hts hinX0 tyX0 tyX0_ok nmX0 hown hK co_8 hS (jv_A hI g_chain_7 (show (30 : Nat) ≠ 0 by decide)) rfl 2 (by decide) hL100 (fun _ h9 => h9) rfl (by decide +kernel) rfl rfl (Nat.le_of_ble_eq_true rfl) dX4_startPaths_74 (fun H locs c9 oq hS => ?_)
      have hI := jv_set hI c9 oq (by rw [g_chain_7]; exact jv_c0 ⟨forms_8, rules_8, 0, rfl, g_forms_8, g_rules_8, ⟨by omega, by omega⟩, by omega⟩)
      have hF := fm_put hF g_chain_7 (show (0 : Nat) ∈ [0, 4, 5, 210, 211, 228] by decide) oq
      have co_a0 := co_a0.kept (oq _ (kn_ne g_a0 g_chain_7 (show (4 : Nat) ≠ 0 by decide)))
      have co_tg := co_tg.kept (oq _ (kn_ne g_tongue_a0 g_chain_7 (show (9 : Nat) ≠ 0 by decide)))
      have co_7 := co_7.kept (oq _ (kn_ne g_b_6 g_chain_7 (show (5 : Nat) ≠ 0 by decide)))
      have c_kf_n_1 := c_kf_n_1.kept (oq _ (kn_ne g_keys_a0 g_chain_7 (show (228 : Nat) ≠ 0 by decide)))
      have c_tf := c_tf.kept (oq _ (kn_ne g_forms_tg g_chain_7 (show (212 : Nat) ≠ 0 by decide)))
      have c_f_5 := c_f_5.kept (oq _ (kn_ne g_told_a0 g_chain_7 (show (226 : Nat) ≠ 0 by decide)))
      have hgr := fun (j : Nat) (hj : (j : Int) < k) => let ⟨Gp, hp⟩ := hgr j hj; (⟨Gp, pok_o2 (id2 := 8 * Int.toNat pp_a0 + Int.toNat k) hp g_chain_7 (by simp [Lp, Lc]) (by omega) oq⟩ : ∃ Gp : Int → Prop, pok (dC, dI) ca X tf (8 * Int.toNat pp_a0 + j) (kcnt kf_n_1 (ge1 kf_n_1 (j : Int) % 16384) (Int.toNat kc_n_1)) Gp H)
      have co_8 := c9
      clear oq c9
      refine lv_aload_n hx hb dX4_startPaths_77 rfl (lv_at hl 0 rfl) ?_
      refine iz_get (D := (dC, dI)) (ci := 5) (v := .ref chain_7) (C := RX5) (T := TX5) (N := 6) hx hb hts hinX5 hown hK co_7 rfl 0 (by decide) hL96 (fun _ h9 => h9) rfl dX4_startPaths_78 ?_
      refine lv_aload_n hx hb dX4_startPaths_81 rfl (lv_at hl 1 rfl) ?_
      refine iz_get (D := (dC, dI)) (ci := 4) (v := .ref tongue_a0) (C := RX4) (T := TX4) (N := 10) hx hb hts hinX4 hown hK co_a0 rfl 8 (by decide) hL42 (fun _ h9 => h9) rfl dX4_startPaths_82 ?_
      refine lv_aload_n hx hb dX4_startPaths_85 rfl (lv_at hl 1 rfl) ?_
      refine iz_get (D := (dC, dI)) (ci := 4) (v := .ref keys_a0) (C := RX4) (T := TX4) (N := 10) hx hb hts hinX4 hown hK co_a0 rfl 6 (by decide) hL35 (fun _ h9 => h9) rfl dX4_startPaths_86 ?_
      refine lv_iload_n hx hb dX4_startPaths_89 rfl (lv_at hl 2 rfl) ?_
      refine iz_iald hx hb hK 0 c_kf_n_1 rfl (by omega) (by decide) dX4_startPaths_90 ?_
      obtain ⟨v_9a, v_9b, -⟩ := k_kf_n_1 k (by omega)
      obtain ⟨v_9, ev_9⟩ : ∃ z9 : Int, ge1 kf_n_1 k = z9 := ⟨_, rfl⟩
      rw [ev_9] at v_9a v_9b ⊢
      have hfm : v_9 % 64 < formCount_tg := by have h9 := n_1f2.1 k (by omega) (by omega); rw [ev_9] at h9; rcases h9 with h9 | ⟨-, h9, -⟩; exact h9.elim; have h8 : v_9 % 16384 % 2048 % 64 < formCount_tg := h9; omega
      refine vp_callSi (va_Run.run (va_runS (As := [.int (kz v_9)]) (rest := [.ref tongue_a0, .ref chain_7]) ⟨hx, hb, hml, hown, hts⟩ (c_keyForm l v_9 (by omega)) (va_cwS 1 hts gX4_startPaths_X4_keyForm rfl rfl rfl (by decide +kernel) ⟨Nat.le_of_ble_eq_true rfl, Nat.le_of_ble_eq_true rfl⟩) ⟨fun a U g mk q => q, fun U hU hW => ⟨rfl, trivial⟩⟩ rfl rfl hl.1 rfl (lv_room (Nat.le_of_ble_eq_true rfl)) dX4_startPaths_91 ⟨Nat.le_of_ble_eq_true rfl, Nat.le_of_ble_eq_true rfl⟩)) (fun r_11 hw_10 => ?_)
      obtain ⟨z_12, rfl, z_12x⟩ := hw_10
      refine va_csq (va_Run.run (va_runV (As := [.int (kz z_12)]) (rest := [.ref chain_7]) ⟨hx, hb, hml, hown, hts⟩ (c_tgFormAtX l dC dI ca A X hU tongue_a0 z_12 forms_tg rules_tg formCount_tg ruleCount_tg forbidden_tg tf g_tongue_a0 g_forms_tg g_rules_tg (by omega) (by omega) g_forbidden_tg (by omega) (by omega) (by omega) (by omega)) (cwV 1 hts gX4_startPaths_X9_formAt rfl rfl rfl (by decide +kernel) ⟨Nat.le_of_ble_eq_true rfl, Nat.le_of_ble_eq_true rfl⟩) ⟨fun a U g mk q => by obtain ⟨q0, ⟨qK, qN⟩, qI⟩ := q; exact ⟨q0, ⟨va_K.moved (u := U) (U := U.calling g mk a) (Vm.Alike.refl U.vm) qK, jN_same (U := U.calling g mk a) rfl qN⟩, qI⟩, va_recv hK (at_P co_tg) (ci := 9) (q0 := 0) rfl rfl, fun U hU hW => ⟨rfl, jK_warm hW ⟨hK, hN⟩, by rw [hU]; exact ⟨hI, co_tg, c_tf⟩⟩⟩ rfl rfl hl.1 rfl (lv_room (Nat.le_of_ble_eq_true rfl)) dX4_startPaths_94 ⟨Nat.le_of_ble_eq_true rfl, Nat.le_of_ble_eq_true rfl⟩)) (fun r_14 hw_13 => ?_)
      obtain ⟨hw_13, hw_13x⟩ := hw_13
      rcases r_14 with _ | b_15
      · refine W.eq (g2 := F0 m 97 ls [.null, .ref chain_7]) rfl ?_
        refine lv_null hx hb dX4_startPaths_97 ?_
        have h8 := hw_13x
        rw [if_pos (by omega)] at h8
        exact absurd h8.symm ((k_tf _ (by omega)).2 (by omega))
      · have g_b_15 := hw_13 b_15 rfl
        refine W.eq (g2 := F0 m 97 ls [.ref b_15, .ref chain_7]) rfl ?_
        refine lv_null hx hb dX4_startPaths_97 ?_
        obtain ⟨f_16, c_f_16, k_f_16⟩ := jv_q24 hI g_forms_8
        obtain ⟨f_17, c_f_17, k_f_17⟩ := jv_q25 hI g_rules_8
        refine va_callv (va_runV (As := [.ref b_15, .null]) (rest := []) ⟨hx, hb, hml, hown, hts⟩ (c_appendXN l dC dI ca A X hU H chain_7 b_15 (8 * Int.toNat pp_a0 + (Int.toNat k)) forms_8 rules_8 0 f_16 f_17 g_chain_7 g_b_15 g_forms_8 g_rules_8 (by omega) (by omega) (fun a9 ha9 => by simp [lst] at ha9) (Int.natCast_nonneg _)) (cwV 2 hts gX4_startPaths_X0_append rfl rfl rfl (by decide +kernel) ⟨Nat.le_of_ble_eq_true rfl, Nat.le_of_ble_eq_true rfl⟩) ⟨fun a U g mk q => by obtain ⟨q0, qH, ⟨qK, qN⟩, qI⟩ := q; exact ⟨q0, qH, ⟨va_K.moved (u := U) (U := U.calling g mk a) (Vm.Alike.refl U.vm) qK, jN_same (U := U.calling g mk a) rfl qN⟩, qI⟩, va_recv hK (at_P co_8) (ci := 0) (q0 := 0) rfl rfl, fun U hU hW => ⟨rfl, hU, jK_warm hW ⟨hK, hN⟩, by rw [hU]; exact ⟨hI, co_8, c_f_16, c_f_17⟩⟩⟩ rfl rfl hl.1 rfl (lv_room (Nat.le_of_ble_eq_true rfl)) dX4_startPaths_98 ⟨Nat.le_of_ble_eq_true rfl, Nat.le_of_ble_eq_true rfl⟩) hS (fun q _ h => h) (fun q h => h) (fun X t9 H locs ht hvm hw_18 hB hz1 hk1 hS => ?_)
        obtain ⟨-, hI, hf9, hpc9⟩ := hB
        rw [ht] at hI hf9 hpc9
        clear ht hvm hz1
        have co_a0 := fk_at hf9 g_a0 (by simp [Lp, Lc]) co_a0
        have co_tg := fk_at hf9 g_tongue_a0 (by simp [Lp, Lc]) co_tg
        have co_7 := fk_at hf9 g_b_6 (by simp [Lp, Lc]) co_7
        have c_kf_n_1 := fk_at hf9 g_keys_a0 (by simp [Lp, Lc]) c_kf_n_1
        have c_tf := fk_at hf9 g_forms_tg (by simp [Lp, Lc]) c_tf
        have hgr := fun (j : Nat) (hj : (j : Int) < k) => let ⟨Gp, hp⟩ := hgr j hj; (⟨Gp, pok_up hw_18 (fun j9 hj9 => (k_tf j9 hj9).1) (pok_fc hp hf9 (by omega))⟩ : ∃ Gp : Int → Prop, pok (dC, dI) ca X tf (8 * Int.toNat pp_a0 + j) (kcnt kf_n_1 (ge1 kf_n_1 (j : Int) % 16384) (Int.toNat kc_n_1)) Gp H)
        have hpc := hpc9
        clear hpc9
        have hF := fm_up hw_18 (fm_tr hF (fk_fm hf9 (Lc_code _)) (by decide))
        have x_tg_0 : formCount_tg ≤ (X.2.1 forms_tg : Int) := by have h9 := (hw_18.2.2 forms_tg).1; omega
        have x_tg_1 : ruleCount_tg ≤ (X.2.1 rules_tg : Int) := by have h9 := (hw_18.2.2 rules_tg).1; omega
        have x_tg_2 : ruleCount_tg = (X.2.2.2 : Int) := by rw [hw_18.2.1]; exact x_tg_2
        have g_b_6 := up_t hw_18 g_b_6
        have g_a0 := up_t hw_18 g_a0
        have g_told_a0 := up_t hw_18 g_told_a0
        have g_grown_a0 := up_t hw_18 g_grown_a0
        have g_keys_a0 := up_t hw_18 g_keys_a0
        have g_tongue_a0 := up_t hw_18 g_tongue_a0
        have g_lattice_a0 := up_t hw_18 g_lattice_a0
        have g_forms_tg := up_t hw_18 g_forms_tg
        have g_rules_tg := up_t hw_18 g_rules_tg
        have g_forbidden_tg := up_t hw_18 g_forbidden_tg
        have g_chain_7 := up_t hw_18 g_chain_7
        have g_forms_8 := up_t hw_18 g_forms_8
        have g_rules_8 := up_t hw_18 g_rules_8
        have hU := up_U hw_18 hU
        have hT := jup_tr hT hw_18
        have hT_n_3 := jup_tr hT_n_3 hw_18
        have k_kf_n_1 := ok20_full (X := jk X) (a := keys_a0) (n := 8) kf_n_1
        have k_tf := kq24 hI g_forms_tg c_tf
        clear hk1 hf9
        refine lv_aload_n hx hb dX4_startPaths_101 rfl (lv_at hl 0 rfl) ?_
        refine lv_aload_n hx hb dX4_startPaths_102 rfl (lv_at hl 1 rfl) ?_
        refine iz_get (D := (dC, dI)) (ci := 4) (v := .ref keys_a0) (C := RX4) (T := TX4) (N := 10) hx hb hts hinX4 hown hK co_a0 rfl 6 (by decide) hL35 (fun _ h9 => h9) rfl dX4_startPaths_103 ?_
        refine lv_iload_n hx hb dX4_startPaths_106 rfl (lv_at hl 2 rfl) ?_
        refine iz_iald hx hb hK 0 c_kf_n_1 rfl (by omega) (by decide) dX4_startPaths_107 ?_
        obtain ⟨v_20a, v_20b, -⟩ := k_kf_n_1 k (by omega)
        obtain ⟨v_20, ev_20⟩ : ∃ z9 : Int, ge1 kf_n_1 k = z9 := ⟨_, rfl⟩
        rw [ev_20] at v_20a v_20b ⊢
        refine lv_bipush (v := kz 14) hx hb dX4_startPaths_108 (by decide) ?_
        refine lv_ishr hx hb dX4_startPaths_110 ?_
        refine iz_any (fun z_21 z_21a z_21b z_21e => ?_)
        refine iz_put (D := (dC, dI)) (ci := 5) (v := .int (kz z_21)) (ty := .int) (C := RX5) (T := TX5) (N := 6) hx hb hts hinX5 tyX5 tyX5_ok nmX5 hown hK co_7 hS (jv_A hI g_b_6 (show (30 : Nat) ≠ 0 by decide)) rfl 1 (by decide) hL115 (fun _ h9 => h9) rfl (by decide +kernel) rfl rfl (Nat.le_of_ble_eq_true rfl) dX4_startPaths_111 (fun H locs c9 oq hS => ?_)
        have hI := jv_set hI c9 oq (by rw [g_b_6]; exact jv_c5 ⟨chain_7, z_21, spent_7, place_7, ended_7, rank_7, rfl, g_chain_7, ⟨by omega, by omega⟩, ⟨by omega, by omega⟩, ⟨by omega, by omega⟩, ⟨by omega, by omega⟩, ⟨by omega, by omega⟩⟩)
        have hF := fm_put hF g_b_6 (show (5 : Nat) ∈ [0, 4, 5, 210, 211, 228] by decide) oq
        have co_a0 := co_a0.kept (oq _ (kn_ne g_a0 g_b_6 (show (4 : Nat) ≠ 5 by decide)))
        have co_tg := co_tg.kept (oq _ (kn_ne g_tongue_a0 g_b_6 (show (9 : Nat) ≠ 5 by decide)))
        have c_kf_n_1 := c_kf_n_1.kept (oq _ (kn_ne g_keys_a0 g_b_6 (show (228 : Nat) ≠ 5 by decide)))
        have c_tf := c_tf.kept (oq _ (kn_ne g_forms_tg g_b_6 (show (212 : Nat) ≠ 5 by decide)))
        have hgr := fun (j : Nat) (hj : (j : Int) < k) => let ⟨Gp, hp⟩ := hgr j hj; (⟨Gp, pok_o2 (id2 := 8 * Int.toNat pp_a0 + Int.toNat k) hp g_b_6 (by simp [Lp, Lc]) (by omega) oq⟩ : ∃ Gp : Int → Prop, pok (dC, dI) ca X tf (8 * Int.toNat pp_a0 + j) (kcnt kf_n_1 (ge1 kf_n_1 (j : Int) % 16384) (Int.toNat kc_n_1)) Gp H)
        have hpc := pch_keep hpc (fun q hq => oq q (fun e9 => by rw [e9, g_b_6] at hq; simp [Lc] at hq))
        have co_7 := c9
        clear oq c9
        refine lv_aload_n hx hb dX4_startPaths_114 rfl (lv_at hl 0 rfl) ?_
        refine lv_iconst (v := kz 0) hx hb dX4_startPaths_115 rfl ?_
        refine iz_put (D := (dC, dI)) (ci := 5) (v := .int (kz 0)) (ty := .int) (C := RX5) (T := TX5) (N := 6) hx hb hts hinX5 tyX5 tyX5_ok nmX5 hown hK co_7 hS (jv_A hI g_b_6 (show (30 : Nat) ≠ 0 by decide)) rfl 2 (by decide) hL118 (fun _ h9 => h9) rfl (by decide +kernel) rfl rfl (Nat.le_of_ble_eq_true rfl) dX4_startPaths_116 (fun H locs c9 oq hS => ?_)
        have hI := jv_set hI c9 oq (by rw [g_b_6]; exact jv_c5 ⟨chain_7, z_21, 0, place_7, ended_7, rank_7, rfl, g_chain_7, ⟨by omega, by omega⟩, ⟨by omega, by omega⟩, ⟨by omega, by omega⟩, ⟨by omega, by omega⟩, ⟨by omega, by omega⟩⟩)
        have hF := fm_put hF g_b_6 (show (5 : Nat) ∈ [0, 4, 5, 210, 211, 228] by decide) oq
        have co_a0 := co_a0.kept (oq _ (kn_ne g_a0 g_b_6 (show (4 : Nat) ≠ 5 by decide)))
        have co_tg := co_tg.kept (oq _ (kn_ne g_tongue_a0 g_b_6 (show (9 : Nat) ≠ 5 by decide)))
        have c_kf_n_1 := c_kf_n_1.kept (oq _ (kn_ne g_keys_a0 g_b_6 (show (228 : Nat) ≠ 5 by decide)))
        have c_tf := c_tf.kept (oq _ (kn_ne g_forms_tg g_b_6 (show (212 : Nat) ≠ 5 by decide)))
        have hgr := fun (j : Nat) (hj : (j : Int) < k) => let ⟨Gp, hp⟩ := hgr j hj; (⟨Gp, pok_o2 (id2 := 8 * Int.toNat pp_a0 + Int.toNat k) hp g_b_6 (by simp [Lp, Lc]) (by omega) oq⟩ : ∃ Gp : Int → Prop, pok (dC, dI) ca X tf (8 * Int.toNat pp_a0 + j) (kcnt kf_n_1 (ge1 kf_n_1 (j : Int) % 16384) (Int.toNat kc_n_1)) Gp H)
        have hpc := pch_keep hpc (fun q hq => oq q (fun e9 => by rw [e9, g_b_6] at hq; simp [Lc] at hq))
        have co_7 := c9
        clear oq c9
        refine lv_aload_n hx hb dX4_startPaths_119 rfl (lv_at hl 0 rfl) ?_
        refine lv_iconst (v := kz 0) hx hb dX4_startPaths_120 rfl ?_
        refine iz_put (D := (dC, dI)) (ci := 5) (v := .int (kz 0)) (ty := .int) (C := RX5) (T := TX5) (N := 6) hx hb hts hinX5 tyX5 tyX5_ok nmX5 hown hK co_7 hS (jv_A hI g_b_6 (show (30 : Nat) ≠ 0 by decide)) rfl 3 (by decide) hL121 (fun _ h9 => h9) rfl (by decide +kernel) rfl rfl (Nat.le_of_ble_eq_true rfl) dX4_startPaths_121 (fun H locs c9 oq hS => ?_)
        have hI := jv_set hI c9 oq (by rw [g_b_6]; exact jv_c5 ⟨chain_7, z_21, 0, 0, ended_7, rank_7, rfl, g_chain_7, ⟨by omega, by omega⟩, ⟨by omega, by omega⟩, ⟨by omega, by omega⟩, ⟨by omega, by omega⟩, ⟨by omega, by omega⟩⟩)
        have hF := fm_put hF g_b_6 (show (5 : Nat) ∈ [0, 4, 5, 210, 211, 228] by decide) oq
        have co_a0 := co_a0.kept (oq _ (kn_ne g_a0 g_b_6 (show (4 : Nat) ≠ 5 by decide)))
        have co_tg := co_tg.kept (oq _ (kn_ne g_tongue_a0 g_b_6 (show (9 : Nat) ≠ 5 by decide)))
        have c_kf_n_1 := c_kf_n_1.kept (oq _ (kn_ne g_keys_a0 g_b_6 (show (228 : Nat) ≠ 5 by decide)))
        have c_tf := c_tf.kept (oq _ (kn_ne g_forms_tg g_b_6 (show (212 : Nat) ≠ 5 by decide)))
        have hgr := fun (j : Nat) (hj : (j : Int) < k) => let ⟨Gp, hp⟩ := hgr j hj; (⟨Gp, pok_o2 (id2 := 8 * Int.toNat pp_a0 + Int.toNat k) hp g_b_6 (by simp [Lp, Lc]) (by omega) oq⟩ : ∃ Gp : Int → Prop, pok (dC, dI) ca X tf (8 * Int.toNat pp_a0 + j) (kcnt kf_n_1 (ge1 kf_n_1 (j : Int) % 16384) (Int.toNat kc_n_1)) Gp H)
        have hpc := pch_keep hpc (fun q hq => oq q (fun e9 => by rw [e9, g_b_6] at hq; simp [Lc] at hq))
        have co_7 := c9
        clear oq c9
        refine lv_aload_n hx hb dX4_startPaths_124 rfl (lv_at hl 0 rfl) ?_
        refine lv_iconst (v := kz 0) hx hb dX4_startPaths_125 rfl ?_
        refine iz_put (D := (dC, dI)) (ci := 5) (v := .int (kz 0)) (ty := .boolean) (C := RX5) (T := TX5) (N := 6) hx hb hts hinX5 tyX5 tyX5_ok nmX5 hown hK co_7 hS (jv_A hI g_b_6 (show (30 : Nat) ≠ 0 by decide)) rfl 4 (by decide) hL82 (fun _ h9 => h9) rfl (by decide +kernel) (by decide) rfl (Nat.le_of_ble_eq_true rfl) dX4_startPaths_126 (fun H locs c9 oq hS => ?_)
        have hI := jv_set hI c9 oq (by rw [g_b_6]; exact jv_c5 ⟨chain_7, z_21, 0, 0, 0, rank_7, rfl, g_chain_7, ⟨by omega, by omega⟩, ⟨by omega, by omega⟩, ⟨by omega, by omega⟩, ⟨by omega, by omega⟩, ⟨by omega, by omega⟩⟩)
        have hF := fm_put hF g_b_6 (show (5 : Nat) ∈ [0, 4, 5, 210, 211, 228] by decide) oq
        have co_a0 := co_a0.kept (oq _ (kn_ne g_a0 g_b_6 (show (4 : Nat) ≠ 5 by decide)))
        have co_tg := co_tg.kept (oq _ (kn_ne g_tongue_a0 g_b_6 (show (9 : Nat) ≠ 5 by decide)))
        have c_kf_n_1 := c_kf_n_1.kept (oq _ (kn_ne g_keys_a0 g_b_6 (show (228 : Nat) ≠ 5 by decide)))
        have c_tf := c_tf.kept (oq _ (kn_ne g_forms_tg g_b_6 (show (212 : Nat) ≠ 5 by decide)))
        have hgr := fun (j : Nat) (hj : (j : Int) < k) => let ⟨Gp, hp⟩ := hgr j hj; (⟨Gp, pok_o2 (id2 := 8 * Int.toNat pp_a0 + Int.toNat k) hp g_b_6 (by simp [Lp, Lc]) (by omega) oq⟩ : ∃ Gp : Int → Prop, pok (dC, dI) ca X tf (8 * Int.toNat pp_a0 + j) (kcnt kf_n_1 (ge1 kf_n_1 (j : Int) % 16384) (Int.toNat kc_n_1)) Gp H)
        have hpc := pch_keep hpc (fun q hq => oq q (fun e9 => by rw [e9, g_b_6] at hq; simp [Lc] at hq))
        have co_7 := c9
        clear oq c9
        refine lv_aload_n hx hb dX4_startPaths_129 rfl (lv_at hl 0 rfl) ?_
        refine lv_aload_n hx hb dX4_startPaths_130 rfl (lv_at hl 1 rfl) ?_
        refine lv_aload_n hx hb dX4_startPaths_131 rfl (lv_at hl 1 rfl) ?_
        refine iz_get (D := (dC, dI)) (ci := 4) (v := .ref keys_a0) (C := RX4) (T := TX4) (N := 10) hx hb hts hinX4 hown hK co_a0 rfl 6 (by decide) hL35 (fun _ h9 => h9) rfl dX4_startPaths_132 ?_
        refine lv_iload_n hx hb dX4_startPaths_135 rfl (lv_at hl 2 rfl) ?_
        refine iz_iald hx hb hK 0 c_kf_n_1 rfl (by omega) (by decide) dX4_startPaths_136 ?_
        rw [ev_20]
        have hk7 := kcnt_self (f := kf_n_1) (m := v_20 % 16384) (k := Int.toNat kc_n_1) (i := Int.toNat k) (by omega) (by rw [show ((Int.toNat k : Nat) : Int) = k by omega, ev_20])
        have hk0 := (kcnt_le kf_n_1 (v_20 % 16384) (Int.toNat kc_n_1)).1
        refine vp_callSi (va_Run.run (va_runV (As := [.int (kz v_20)]) (rest := [.ref b_6]) ⟨hx, hb, hml, hown, hts⟩ (c_rankOf l dC dI ca A X hU a0 v_20 pp_a0 countedUncut_a0 counted_a0 left_a0 told_a0 kc_n_1 grown_a0 keys_a0 kc_n_1 tongue_a0 lattice_a0 kf_n_1 g_a0 (by omega) g_told_a0 (by omega) g_grown_a0 g_keys_a0 (by omega) g_tongue_a0 g_lattice_a0 (by omega) (by omega) (by omega)) (cwV 1 hts gX4_startPaths_X4_rankOf rfl rfl rfl (by decide +kernel) ⟨Nat.le_of_ble_eq_true rfl, Nat.le_of_ble_eq_true rfl⟩) ⟨fun a U g mk q => by obtain ⟨q0, ⟨qK, qN⟩, qI⟩ := q; exact ⟨q0, ⟨va_K.moved (u := U) (U := U.calling g mk a) (Vm.Alike.refl U.vm) qK, jN_same (U := U.calling g mk a) rfl qN⟩, qI⟩, va_recv hK (at_P co_a0) (ci := 4) (q0 := 0) rfl rfl, fun U hU hW => ⟨rfl, jK_warm hW ⟨hK, hN⟩, by rw [hU]; exact ⟨hI, co_a0, c_kf_n_1⟩⟩⟩ rfl rfl hl.1 rfl (lv_room (Nat.le_of_ble_eq_true rfl)) dX4_startPaths_137 ⟨Nat.le_of_ble_eq_true rfl, Nat.le_of_ble_eq_true rfl⟩)) (fun r_23 hw_22 => ?_)
        subst hw_22
        refine iz_put (D := (dC, dI)) (ci := 5) (v := .int (kz (kcnt kf_n_1 (v_20 % 16384) (Int.toNat kc_n_1)))) (ty := .int) (C := RX5) (T := TX5) (N := 6) hx hb hts hinX5 tyX5 tyX5_ok nmX5 hown hK co_7 hS (jv_A hI g_b_6 (show (30 : Nat) ≠ 0 by decide)) rfl 5 (by decide) hL127 (fun _ h9 => h9) rfl (by decide +kernel) rfl rfl (Nat.le_of_ble_eq_true rfl) dX4_startPaths_140 (fun H locs c9 oq hS => ?_)
        have hI := jv_set hI c9 oq (by rw [g_b_6]; exact jv_c5 ⟨chain_7, z_21, 0, 0, 0, (kcnt kf_n_1 (v_20 % 16384) (Int.toNat kc_n_1)), rfl, g_chain_7, ⟨by omega, by omega⟩, ⟨by omega, by omega⟩, ⟨by omega, by omega⟩, ⟨by omega, by omega⟩, ⟨by omega, by omega⟩⟩)
        have hF := fm_put hF g_b_6 (show (5 : Nat) ∈ [0, 4, 5, 210, 211, 228] by decide) oq
        have co_a0 := co_a0.kept (oq _ (kn_ne g_a0 g_b_6 (show (4 : Nat) ≠ 5 by decide)))
        have co_tg := co_tg.kept (oq _ (kn_ne g_tongue_a0 g_b_6 (show (9 : Nat) ≠ 5 by decide)))
        have c_kf_n_1 := c_kf_n_1.kept (oq _ (kn_ne g_keys_a0 g_b_6 (show (228 : Nat) ≠ 5 by decide)))
        have c_tf := c_tf.kept (oq _ (kn_ne g_forms_tg g_b_6 (show (212 : Nat) ≠ 5 by decide)))
        have hgr := fun (j : Nat) (hj : (j : Int) < k) => let ⟨Gp, hp⟩ := hgr j hj; (⟨Gp, pok_o2 (id2 := 8 * Int.toNat pp_a0 + Int.toNat k) hp g_b_6 (by simp [Lp, Lc]) (by omega) oq⟩ : ∃ Gp : Int → Prop, pok (dC, dI) ca X tf (8 * Int.toNat pp_a0 + j) (kcnt kf_n_1 (ge1 kf_n_1 (j : Int) % 16384) (Int.toNat kc_n_1)) Gp H)
        have hpc := pch_keep hpc (fun q hq => oq q (fun e9 => by rw [e9, g_b_6] at hq; simp [Lc] at hq))
        have co_7 := c9
        clear oq c9
        have hnew := pok_mk (tf := tf) hU g_b_6 g_chain_7 co_7 (by omega) (by omega) (by omega) (by omega) (by omega) hpc
        have hgr : ∀ j : Nat, (j : Int) < k + 1 → ∃ Gp : Int → Prop, pok (dC, dI) ca X tf (8 * Int.toNat pp_a0 + j) (kcnt kf_n_1 (ge1 kf_n_1 (j : Int) % 16384) (Int.toNat kc_n_1)) Gp H := st_all (P := fun j => ∃ Gp : Int → Prop, pok (dC, dI) ca X tf (8 * Int.toNat pp_a0 + j) (kcnt kf_n_1 (ge1 kf_n_1 (j : Int) % 16384) (Int.toNat kc_n_1)) Gp H) (by omega) hgr (by rw [show ((Int.toNat k : Nat) : Int) = k by omega, ev_20]; exact hnew)
        refine lv_iinc (v := kz (k + 1)) (lv' := [(1, .int (kz (k + 1))), (2, .ref b_6), (0, .ref a0)]) hx hb dX4_startPaths_143 hl (k := 2) rfl (kz_add k 1) (by decide) rfl (fun ls hl => ?_)
        refine lv_goto (tgt := 54) hx hb dX4_startPaths_146 (by decide) ?_
        exact ihn_3 (n_3 - 1) (by omega) X (k + 1) _ _ _ ⟨by omega, by omega, hgr, by omega, lv_sub hl [2, 0] rfl, hT_n_3, hI, hS, hF, co_a0, co_tg, c_kf_n_1, c_tf⟩
  · refine lv_aload_n hx hb dX4_startPaths_18 rfl (lv_at hl 1 rfl) ?_
    refine lv_aload_n hx hb dX4_startPaths_19 rfl (lv_at hl 1 rfl) ?_
    refine iz_get (D := (dC, dI)) (ci := 4) (v := .ref lattice_a0) (C := RX4) (T := TX4) (N := 10) hx hb hts hinX4 hown hK co_a0 rfl 9 (by decide) hL51 (fun _ h9 => h9) rfl dX4_startPaths_20 ?_
    obtain ⟨fs9, co_24, jo9⟩ := jv_o3 hI g_lattice_a0
    obtain ⟨cheapest_24, size_24, tongue_24, line_24, ways_24, plainWays_24, plainCheapest_24, ruledWays_24, ruledCheapest_24, inForce_24, barred_24, rfl, g_cheapest_24, ⟨size_24a, size_24b⟩, g_tongue_24, g_line_24, g_ways_24, g_plainWays_24, g_plainCheapest_24, g_ruledWays_24, g_ruledCheapest_24, ⟨inForce_24a, inForce_24b⟩, g_barred_24⟩ := jo9
    have e9 : tongue_a0 = tongue_24 := jU_eq hU g_tongue_a0 g_tongue_24 (show (30 : Nat) ≠ 0 by decide) (show uq 9 = true by decide)
    subst e9
    refine iz_get (D := (dC, dI)) (ci := 3) (v := .ref cheapest_24) (C := RX3) (T := TX3) (N := 11) hx hb hts hinX3 hown hK co_24 rfl 0 (by decide) hL88 (fun _ h9 => h9) rfl dX4_startPaths_23 ?_
    refine lv_iconst (v := kz 0) hx hb dX4_startPaths_26 rfl ?_
    obtain ⟨f_25, c_f_25, k_f_25⟩ := jv_q27 hI g_cheapest_24
    refine jz_aald hx hb hK 7 c_f_25 rfl rfl (by omega) (by decide) dX4_startPaths_27 ?_
    obtain ⟨b_26, eb_26, g_b_26⟩ := k_f_25 (Int.toNat 0) (by omega)
    rw [eb_26]
    have g_b_26 : X.1 b_26 = (232, 20, 160, -2147483648, 2147483647) := g_b_26
    refine W.eq (g2 := F0 m 28 ls [.ref b_26, .ref a0]) rfl ?_
    refine lv_iload_n hx hb dX4_startPaths_28 rfl (lv_at hl 0 rfl) ?_
    refine lv_iconst (v := kz 4) hx hb dX4_startPaths_29 rfl ?_
    refine iz_imul hx hb dX4_startPaths_30 ?_
    obtain ⟨f_27, c_f_27, k_f_27⟩ := iv_o20 (jv_iv hI) g_b_26
    refine iz_iald hx hb hK 0 c_f_27 rfl (by omega) (by decide) dX4_startPaths_31 ?_
    obtain ⟨v_28a, v_28b, -⟩ := k_f_27 (k * 4) (by omega)
    obtain ⟨v_28, ev_28⟩ : ∃ z9 : Int, ge1 f_27 (k * 4) = z9 := ⟨_, rfl⟩
    rw [ev_28] at v_28a v_28b ⊢
    refine lv_iconst (v := kz 0) hx hb dX4_startPaths_32 rfl ?_
    refine lv_iconst (v := kz 1) hx hb dX4_startPaths_33 rfl ?_
    refine lv_iload_n hx hb dX4_startPaths_34 rfl (lv_at hl 0 rfl) ?_
    refine va_callv (va_runV (As := [.int (kz v_28), .int (kz 0), .int (kz 1), .int (kz k)]) (rest := []) ⟨hx, hb, hml, hown, hts⟩ (c_offer l dC dI ca A X hU H a0 v_28 0 1 k (fun _ => False) (fun l => l % 64 < formCount_tg) (64 + k) pp_a0 countedUncut_a0 counted_a0 left_a0 told_a0 toldCount_a0 grown_a0 keys_a0 kc_n_1 tongue_a0 lattice_a0 kf_n_1 g_a0 (by omega) g_told_a0 (by omega) g_grown_a0 g_keys_a0 (by omega) g_tongue_a0 g_lattice_a0 (by omega) (by omega) (by omega) (by omega) (by omega) (by omega) n_1f2 (by omega) (fun m h => h.elim) (show (1 * 64 + k) % 64 < formCount_tg by omega)) (cwV 4 hts gX4_startPaths_X4_offer rfl rfl rfl (by decide +kernel) ⟨Nat.le_of_ble_eq_true rfl, Nat.le_of_ble_eq_true rfl⟩) ⟨fun a U g mk q => by obtain ⟨q0, qH, ⟨qK, qN⟩, qI⟩ := q; exact ⟨q0, qH, ⟨va_K.moved (u := U) (U := U.calling g mk a) (Vm.Alike.refl U.vm) qK, jN_same (U := U.calling g mk a) rfl qN⟩, qI⟩, va_recv hK (at_P co_a0) (ci := 4) (q0 := 0) rfl rfl, fun U hU hW => ⟨rfl, hU, jK_warm hW ⟨hK, hN⟩, by rw [hU]; exact ⟨hI, co_a0, c_kf_n_1⟩⟩⟩ rfl rfl hl.1 rfl (lv_room (Nat.le_of_ble_eq_true rfl)) dX4_startPaths_35 ⟨Nat.le_of_ble_eq_true rfl, Nat.le_of_ble_eq_true rfl⟩) hS (fun q _ h => h) (fun q h => h) (fun u t9 H locs ht hvm hw_29 hB hz1 hk1 hS => ?_)
    obtain ⟨-, hI, hf9, hcp, hck⟩ := hB
    rw [ht] at hI hf9 hcp hck
    clear ht hvm hz1
    have co_tg := fm_at hf9 g_tongue_a0 (show (9 : Nat) ∉ ([4, 228] : List Nat) by decide) co_tg
    have co_24 := fm_at hf9 g_lattice_a0 (show (3 : Nat) ∉ ([4, 228] : List Nat) by decide) co_24
    have c_tf := fm_at hf9 g_forms_tg (show (212 : Nat) ∉ ([4, 228] : List Nat) by decide) c_tf
    have c_f_25 := fm_at hf9 g_cheapest_24 (show (219 : Nat) ∉ ([4, 228] : List Nat) by decide) c_f_25
    have c_f_27 := fm_at hf9 g_b_26 (show (232 : Nat) ∉ ([4, 228] : List Nat) by decide) c_f_27
    have hF := fm_tr hF hf9 (by decide)
    clear hk1 hf9
    obtain ⟨kf_31, kc_32⟩ := u
    have co_a0 : va_at (dC, dI) vwCl (a0, .inr (4, [.long countedUncut_a0, .long counted_a0, .int (kz left_a0), .ref told_a0, .int (kz toldCount_a0), .ref grown_a0, .ref keys_a0, .int (kz kc_32), .ref tongue_a0, .ref lattice_a0])) H := hcp
    have c_kf_31 : va_at (dC, dI) vwCl (keys_a0, .inl (ca 20, 8, .inl kf_31)) H := hck
    clear hcp hck
    have k_kf_31 := ok20_full (X := jk X) (a := keys_a0) (n := 8) kf_31
    have hw_29 : KS kf_31 kc_32 (PS (fun _ => False) (fun l => l % 64 < formCount_tg) 0 (1 * 64 + k + 1)) ∧ 0 ≤ kc_32 ∧ kc_32 ≤ 8 := hw_29
    obtain ⟨hw_29, hw_29a, hw_29b⟩ := hw_29
    refine lv_iinc (v := kz (k + 1)) (lv' := [(1, .int (kz (k + 1))), (0, .ref a0)]) hx hb dX4_startPaths_38 hl (k := 0) rfl (kz_add k 1) (by decide) rfl (fun ls hl => ?_)
    refine lv_goto (tgt := 7) hx hb dX4_startPaths_41 (by decide) ?_
    exact ihn_1 (n_1 - 1) (by omega) (kf_31, kc_32) (k + 1) _ _ _ ⟨by omega, by omega, KS_mono hw_29 (fun m h => PS_mono h (by omega)), by omega, by omega, by omega, lv_sub hl [0, 1] rfl, hI, hS, hF, co_a0, co_tg, c_kf_31, c_tf⟩
set_option maxHeartbeats 4000000 in
set_option maxRecDepth 100000 in
/-- X4_tell -/
theorem c_tell (l : Launch) (dC : Nat → ClassId) (dI : Nat → Nat → Nat) (ca : Nat → ClassId) (A : Nat → Prop) (X : jG) (hU : jU X) (Hp : Heap) (a0 : Nat) (g_a0 : X.1 a0 = (4, 30, 0, 0, 0)) : Met l yX4_tell wsX4_tell ({ frames := 5, cells := 0, slots := 0, locals := 119 }) (va_Pc [.ref a0] (fun U => U.heap = Hp ∧ jK (dC, dI) ca U ∧ jv (dC, dI) ca A X U.heap)) (va_Qv (fun (u : jG) => jup X u) (fun (u : jG) U => jK (dC, dI) ca U ∧ jv (dC, dI) ca A u U.heap ∧ kfm X [0, 4, 5, 210, 211, 228] Hp U.heap) A) 0 0 A := by
  refine Met.ofW (cc := cX4_tell) (maxL := 2) (ret := none) (by decide) rfl ?_
  intro p e s m args below meth c s₁ B hml hv
  obtain ⟨rfl, hHp, ⟨hK, hN⟩, hI⟩ := hv
  have hx := B.exec
  have hb := B.bytes
  have hr := B.returns
  have hts := atoms_spec (ws := wsX4_tell) B.pre
  have hown : s.vm.findClass RX4 = some m.cls := findClass_of_methodNamed B.named
  have hL51 := hts (.fieldLink RX4 51 "JoinBench$Parter" "lattice" "LJoinBench$Lattice;") (by decide +kernel)
  have hL73 := hts (.fieldLink RX4 73 "JoinBench$Lattice" "size" "I") (by decide +kernel)
  have hinX3 : ∀ w ∈ u_ws RX3 TX3 11, w ∈ wsX4_tell := by decide +kernel
  have hinX4 : ∀ w ∈ u_ws RX4 TX4 10, w ∈ wsX4_tell := by decide +kernel
  obtain ⟨H, hH⟩ : ∃ H : Heap, H = s.heap := ⟨_, rfl⟩
  have hS : va_S A s.heap H [] := by rw [hH]; exact va_S.rf
  have hF : kfk X [] Hp H := by rw [hH, hHp]; exact fk_rf _ _ _
  have hT := jup_rf X
  have hF : kfm X [0, 4, 5, 210, 211, 228] Hp H := by rw [hH, hHp]; exact fm_rf _ _ _
  rw [← hH] at hI ⊢
  clear hH
  have hl := lv_entry ([.ref a0]) (n := 2) (Nat.le_of_ble_eq_true rfl)
  rw [lg_entry_eq]
  generalize (lg_sl ([.ref a0]) ++ List.replicate (2 - (lg_sl ([.ref a0])).length) Slot.unset).toArray = ls at hl ⊢
  have hl : lv_has ls 2 [(0, .ref a0)] := hl
  refine lv_aload_n hx hb dX4_tell_0 rfl (lv_at hl 0 rfl) ?_
  obtain ⟨fs9, co_1, jo9⟩ := jv_o4 hI g_a0
  obtain ⟨pp_1, countedUncut_1, counted_1, left_1, told_1, toldCount_1, grown_1, keys_1, keyCount_1, tongue_1, lattice_1, rfl, ⟨left_1a, left_1b⟩, g_told_1, ⟨toldCount_1a, toldCount_1b⟩, g_grown_1, g_keys_1, ⟨keyCount_1a, keyCount_1b⟩, g_tongue_1, g_lattice_1, x_1_0, x_1_1⟩ := jo9
  obtain ⟨fs9, co_2, jo9⟩ := jv_o9 hI g_tongue_1
  obtain ⟨forms_2, rules_2, formCount_2, ruleCount_2, forbidden_2, rfl, g_forms_2, g_rules_2, ⟨formCount_2a, formCount_2b⟩, ⟨ruleCount_2a, ruleCount_2b⟩, g_forbidden_2, x_2_0, x_2_1, x_2_2⟩ := jo9
  obtain ⟨f_3, c_f_3, k_f_3⟩ := iv_o20 (jv_iv hI) g_keys_1
  obtain ⟨f_4, c_f_4, k_f_4⟩ := jv_q24 hI g_forms_2
  refine va_callv (va_runV (As := []) (rest := []) ⟨hx, hb, hml, hown, hts⟩ (c_startPaths l dC dI ca A X hU H a0 pp_1 countedUncut_1 counted_1 left_1 told_1 toldCount_1 grown_1 keys_1 keyCount_1 tongue_1 lattice_1 forms_2 rules_2 formCount_2 ruleCount_2 forbidden_2 f_3 f_4 g_a0 (by omega) g_told_1 (by omega) g_grown_1 g_keys_1 (by omega) g_tongue_1 g_lattice_1 (by omega) (by omega) g_forms_2 g_rules_2 (by omega) (by omega) g_forbidden_2 (by omega) (by omega) (by omega)) (cwV 0 hts gX4_tell_X4_startPaths rfl rfl rfl (by decide +kernel) ⟨Nat.le_of_ble_eq_true rfl, Nat.le_of_ble_eq_true rfl⟩) ⟨fun a U g mk q => by obtain ⟨q0, qH, ⟨qK, qN⟩, qI⟩ := q; exact ⟨q0, qH, ⟨va_K.moved (u := U) (U := U.calling g mk a) (Vm.Alike.refl U.vm) qK, jN_same (U := U.calling g mk a) rfl qN⟩, qI⟩, va_recv hK (at_P co_1) (ci := 4) (q0 := 0) rfl rfl, fun U hU hW => ⟨rfl, hU, jK_warm hW ⟨hK, hN⟩, by rw [hU]; exact ⟨hI, co_1, co_2, c_f_3, c_f_4⟩⟩⟩ rfl rfl hl.1 rfl (lv_room (Nat.le_of_ble_eq_true rfl)) dX4_tell_1 ⟨Nat.le_of_ble_eq_true rfl, Nat.le_of_ble_eq_true rfl⟩) hS (fun q _ h => h) (fun q h => h) (fun X t9 H locs ht hvm hw_5 hB hz1 hk1 hS => ?_)
  obtain ⟨-, hI, hf9, hpw9⟩ := hB
  rw [ht] at hI hf9 hpw9
  clear ht hvm hz1
  have hF := fm_up hw_5 (fm_tr hF hf9 (by decide))
  have hPW := hpw9
  have g_a0 := up_t hw_5 g_a0
  have g_told_1 := up_t hw_5 g_told_1
  have g_grown_1 := up_t hw_5 g_grown_1
  have g_keys_1 := up_t hw_5 g_keys_1
  have g_tongue_1 := up_t hw_5 g_tongue_1
  have g_lattice_1 := up_t hw_5 g_lattice_1
  have g_forms_2 := up_t hw_5 g_forms_2
  have g_rules_2 := up_t hw_5 g_rules_2
  have g_forbidden_2 := up_t hw_5 g_forbidden_2
  have hU := up_U hw_5 hU
  have hT := jup_tr hT hw_5
  clear hk1 hf9 hpw9
  refine lv_iconst (v := kz 0) hx hb dX4_tell_4 rfl ?_
  refine lv_istore_n (lv' := [(1, .int (kz 0)), (0, .ref a0)]) hx hb dX4_tell_5 rfl hl (by decide) rfl (fun ls hl => ?_)
  refine iz_loopA1 (α := jG) (P := fun N9 X9 k H locs ls => (0 ≤ k) ∧ (k ≤ 40) ∧ PW dC dI ca X9 a0 H ∧ (40 - k ≤ (N9 : Int)) ∧ lv_has ls 2 [(0, .ref a0), (1, .int (kz k))] ∧ jup X X9 ∧ jv (dC, dI) ca A X9 H ∧ va_S A s.heap H locs ∧ kfm X9 [0, 4, 5, 210, 211, 228] Hp H) 100000 X (x0 := 0) ?_ ⟨by omega, by omega, hPW, by omega, lv_sub hl [1, 0] rfl, jup_rf _, hI, hS, hF⟩
  intro n_7 X k H locs ls ⟨g0, g1, hPW, g2, hl, hT_n_7, hI, hS, hF⟩ ihn_7
  have g_a0 := up_t hT_n_7 g_a0
  have g_told_1 := up_t hT_n_7 g_told_1
  have g_grown_1 := up_t hT_n_7 g_grown_1
  have g_keys_1 := up_t hT_n_7 g_keys_1
  have g_tongue_1 := up_t hT_n_7 g_tongue_1
  have g_lattice_1 := up_t hT_n_7 g_lattice_1
  have g_forms_2 := up_t hT_n_7 g_forms_2
  have g_rules_2 := up_t hT_n_7 g_rules_2
  have g_forbidden_2 := up_t hT_n_7 g_forbidden_2
  have hU := up_U hT_n_7 hU
  have hT := jup_tr hT hT_n_7
  refine lv_iload_n hx hb dX4_tell_6 rfl (lv_at hl 1 rfl) ?_
  refine lv_aload_n hx hb dX4_tell_7 rfl (lv_at hl 0 rfl) ?_
  obtain ⟨fs9, co_8, jo9⟩ := jv_o4 hI g_a0
  obtain ⟨pp_8, countedUncut_8, counted_8, left_8, told_8, toldCount_8, grown_8, keys_8, keyCount_8, tongue_8, lattice_8, rfl, ⟨left_8a, left_8b⟩, g_told_8, ⟨toldCount_8a, toldCount_8b⟩, g_grown_8, g_keys_8, ⟨keyCount_8a, keyCount_8b⟩, g_tongue_8, g_lattice_8, x_8_0, x_8_1⟩ := jo9
  have e9 : keys_1 = keys_8 := jU_eq hU g_keys_1 g_keys_8 (show (20 : Nat) ≠ 0 by decide) (show uq 228 = true by decide)
  subst e9
  have e9 : tongue_1 = tongue_8 := jU_eq hU g_tongue_1 g_tongue_8 (show (30 : Nat) ≠ 0 by decide) (show uq 9 = true by decide)
  subst e9
  have e9 : lattice_1 = lattice_8 := jU_eq hU g_lattice_1 g_lattice_8 (show (30 : Nat) ≠ 0 by decide) (show uq 3 = true by decide)
  subst e9
  refine iz_get (D := (dC, dI)) (ci := 4) (v := .ref lattice_1) (C := RX4) (T := TX4) (N := 10) hx hb hts hinX4 hown hK co_8 rfl 9 (by decide) hL51 (fun _ h9 => h9) rfl dX4_tell_8 ?_
  obtain ⟨fs9, co_9, jo9⟩ := jv_o3 hI g_lattice_8
  obtain ⟨cheapest_9, size_9, tongue_9, line_9, ways_9, plainWays_9, plainCheapest_9, ruledWays_9, ruledCheapest_9, inForce_9, barred_9, rfl, g_cheapest_9, ⟨size_9a, size_9b⟩, g_tongue_9, g_line_9, g_ways_9, g_plainWays_9, g_plainCheapest_9, g_ruledWays_9, g_ruledCheapest_9, ⟨inForce_9a, inForce_9b⟩, g_barred_9⟩ := jo9
  have e9 : tongue_1 = tongue_9 := jU_eq hU g_tongue_1 g_tongue_9 (show (30 : Nat) ≠ 0 by decide) (show uq 9 = true by decide)
  subst e9
  refine iz_get (D := (dC, dI)) (ci := 3) (v := .int (kz size_9)) (C := RX3) (T := TX3) (N := 11) hx hb hts hinX3 hown hK co_9 rfl 1 (by decide) hL73 (fun _ h9 => h9) rfl dX4_tell_11 ?_
  refine iz_ge (tgt := 34) hx hb dX4_tell_14 (by decide) (by unfold rg2; omega) (fun br_10 => ?_) (fun br_10 => ?_)
  · exact W.vret hx hb hr (fun t9 ht hW => ⟨⟨X, rfl, hT, jK_warm hW ⟨hK, hN⟩, by rw [ht]; exact ⟨hI, fm_dn hT hF⟩⟩, hS.F ht⟩) hS.2.2 dX4_tell_34
  · refine lv_aload_n hx hb dX4_tell_17 rfl (lv_at hl 0 rfl) ?_
    refine vp_callSi (va_Run.run (va_runV (As := []) (rest := []) ⟨hx, hb, hml, hown, hts⟩ (c_allEnded l dC dI ca A X hU a0 g_a0) (cwV 0 hts gX4_tell_X4_allEnded rfl rfl rfl (by decide +kernel) ⟨Nat.le_of_ble_eq_true rfl, Nat.le_of_ble_eq_true rfl⟩) ⟨fun a U g mk q => by obtain ⟨q0, ⟨qK, qN⟩, qI⟩ := q; exact ⟨q0, ⟨va_K.moved (u := U) (U := U.calling g mk a) (Vm.Alike.refl U.vm) qK, jN_same (U := U.calling g mk a) rfl qN⟩, qI⟩, va_recv hK (at_P co_8) (ci := 4) (q0 := 0) rfl rfl, fun U hU hW => ⟨rfl, jK_warm hW ⟨hK, hN⟩, by rw [hU]; exact hI⟩⟩ rfl rfl hl.1 rfl (lv_room (Nat.le_of_ble_eq_true rfl)) dX4_tell_18 ⟨Nat.le_of_ble_eq_true rfl, Nat.le_of_ble_eq_true rfl⟩)) (fun r_12 hw_11 => ?_)
    rcases hw_11 with rfl | rfl
    · refine iz_nez (tgt := 34) hx hb dX4_tell_21 (by decide) (by unfold rg2; omega) (fun _ => ?_) (fun q9 => absurd q9 (by decide))
      exact W.vret hx hb hr (fun t9 ht hW => ⟨⟨X, rfl, hT, jK_warm hW ⟨hK, hN⟩, by rw [ht]; exact ⟨hI, fm_dn hT hF⟩⟩, hS.F ht⟩) hS.2.2 dX4_tell_34
    · refine iz_nez (tgt := 34) hx hb dX4_tell_21 (by decide) (by unfold rg2; omega) (fun q9 => absurd q9 (by decide)) (fun _ => ?_)
      refine lv_aload_n hx hb dX4_tell_24 rfl (lv_at hl 0 rfl) ?_
      refine va_callv (va_runV (As := []) (rest := []) ⟨hx, hb, hml, hown, hts⟩ (c_growPaths l dC dI ca A X hU H a0 g_a0) (cwV 0 hts gX4_tell_X4_growPaths rfl rfl rfl (by decide +kernel) ⟨Nat.le_of_ble_eq_true rfl, Nat.le_of_ble_eq_true rfl⟩) ⟨fun a U g mk q => by obtain ⟨q0, qH, ⟨qK, qN⟩, qI⟩ := q; exact ⟨q0, qH, ⟨va_K.moved (u := U) (U := U.calling g mk a) (Vm.Alike.refl U.vm) qK, jN_same (U := U.calling g mk a) rfl qN⟩, qI⟩, va_recv hK (at_P co_8) (ci := 4) (q0 := 0) rfl rfl, fun U hU hW => ⟨rfl, hU, jK_warm hW ⟨hK, hN⟩, by rw [hU]; exact ⟨hI, hPW⟩⟩⟩ rfl rfl hl.1 rfl (lv_room (Nat.le_of_ble_eq_true rfl)) dX4_tell_25 ⟨Nat.le_of_ble_eq_true rfl, Nat.le_of_ble_eq_true rfl⟩) hS (fun q _ h => h) (fun q h => h) (fun X t9 H locs ht hvm hw_13 hB hz1 hk1 hS => ?_)
      obtain ⟨-, hI, hf9, hpw9⟩ := hB
      rw [ht] at hI hf9 hpw9
      clear ht hvm hz1
      have hF := fm_up hw_13 (fm_tr hF hf9 (by decide))
      have hPW := hpw9
      have g_a0 := up_t hw_13 g_a0
      have g_told_1 := up_t hw_13 g_told_1
      have g_grown_1 := up_t hw_13 g_grown_1
      have g_keys_1 := up_t hw_13 g_keys_1
      have g_tongue_1 := up_t hw_13 g_tongue_1
      have g_lattice_1 := up_t hw_13 g_lattice_1
      have g_forms_2 := up_t hw_13 g_forms_2
      have g_rules_2 := up_t hw_13 g_rules_2
      have g_forbidden_2 := up_t hw_13 g_forbidden_2
      have g_told_8 := up_t hw_13 g_told_8
      have g_grown_8 := up_t hw_13 g_grown_8
      have g_cheapest_9 := up_t hw_13 g_cheapest_9
      have g_line_9 := up_t hw_13 g_line_9
      have g_ways_9 := up_t hw_13 g_ways_9
      have g_plainWays_9 := up_t hw_13 g_plainWays_9
      have g_plainCheapest_9 := up_t hw_13 g_plainCheapest_9
      have g_ruledWays_9 := up_t hw_13 g_ruledWays_9
      have g_ruledCheapest_9 := up_t hw_13 g_ruledCheapest_9
      have g_barred_9 := up_t hw_13 g_barred_9
      have hU := up_U hw_13 hU
      have hT := jup_tr hT hw_13
      have hT_n_7 := jup_tr hT_n_7 hw_13
      clear hk1 hf9 hpw9
      refine lv_iinc (v := kz (k + 1)) (lv' := [(1, .int (kz (k + 1))), (0, .ref a0)]) hx hb dX4_tell_28 hl (k := 1) rfl (kz_add k 1) (by decide) rfl (fun ls hl => ?_)
      refine lv_goto (tgt := 6) hx hb dX4_tell_31 (by decide) ?_
      exact ihn_7 (n_7 - 1) (by omega) X (k + 1) _ _ _ ⟨by omega, by omega, hPW, by omega, lv_sub hl [1, 0] rfl, hT_n_7, hI, hS, hF⟩
